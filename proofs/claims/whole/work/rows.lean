section
-- ===== PART A: goes FIRST, ahead of the names: the tables' words, and 'selects' of the private methods out of them =====
/-- a private method of a class that the tables say can be made, by its rows of tables_1 -/
def lw_okq (q : MethodName × Nat) : Prop := (q.1.cls ≠ "java/lang/invoke/MethodHandle" ∧ q.1.cls ≠ "java/lang/invoke/VarHandle") ∧ Cond.instantiable q.1.cls q.2 ∈ tables_1 ∧ Cond.privateMethod q.1 ∈ tables_1 ∧ Cond.instanceMethod q.1 ∈ tables_1
theorem lw_p0 : lw_okq (⟨"java/lang/Throwable", "fillInStackTrace", "(I)Ljava/lang/Throwable;"⟩, 6) := ⟨⟨by decide +kernel, by decide +kernel⟩, List.mem_of_getElem? (i := 223) (by decide +kernel), List.mem_of_getElem? (i := 221) (by decide +kernel), List.mem_of_getElem? (i := 222) (by decide +kernel)⟩
theorem lw_p1 : lw_okq (⟨"PathDesk", "forgetRelations", "()V"⟩, 8) := ⟨⟨by decide +kernel, by decide +kernel⟩, List.mem_of_getElem? (i := 17) (by decide +kernel), List.mem_of_getElem? (i := 268) (by decide +kernel), List.mem_of_getElem? (i := 269) (by decide +kernel)⟩
theorem lw_p2 : lw_okq (⟨"PathDesk$Reader", "start", "(LPathDesk$Expression;)V"⟩, 8) := ⟨⟨by decide +kernel, by decide +kernel⟩, List.mem_of_getElem? (i := 43) (by decide +kernel), List.mem_of_getElem? (i := 334) (by decide +kernel), List.mem_of_getElem? (i := 335) (by decide +kernel)⟩
theorem lw_p3 : lw_okq (⟨"PathDesk$Reader", "startAlternative", "()V"⟩, 8) := ⟨⟨by decide +kernel, by decide +kernel⟩, List.mem_of_getElem? (i := 43) (by decide +kernel), List.mem_of_getElem? (i := 342) (by decide +kernel), List.mem_of_getElem? (i := 343) (by decide +kernel)⟩
theorem lw_p4 : lw_okq (⟨"PathDesk$Reader", "takeInRow", "(I)Z"⟩, 8) := ⟨⟨by decide +kernel, by decide +kernel⟩, List.mem_of_getElem? (i := 43) (by decide +kernel), List.mem_of_getElem? (i := 350) (by decide +kernel), List.mem_of_getElem? (i := 351) (by decide +kernel)⟩
theorem lw_p5 : lw_okq (⟨"PathDesk$Reader", "openGroup", "()Z"⟩, 8) := ⟨⟨by decide +kernel, by decide +kernel⟩, List.mem_of_getElem? (i := 43) (by decide +kernel), List.mem_of_getElem? (i := 354) (by decide +kernel), List.mem_of_getElem? (i := 355) (by decide +kernel)⟩
theorem lw_p6 : lw_okq (⟨"PathDesk$Reader", "endRepeat", "()V"⟩, 8) := ⟨⟨by decide +kernel, by decide +kernel⟩, List.mem_of_getElem? (i := 43) (by decide +kernel), List.mem_of_getElem? (i := 358) (by decide +kernel), List.mem_of_getElem? (i := 359) (by decide +kernel)⟩
theorem lw_p7 : lw_okq (⟨"PathDesk$Reader", "closeGroup", "()Z"⟩, 8) := ⟨⟨by decide +kernel, by decide +kernel⟩, List.mem_of_getElem? (i := 43) (by decide +kernel), List.mem_of_getElem? (i := 365) (by decide +kernel), List.mem_of_getElem? (i := 366) (by decide +kernel)⟩
theorem lw_p8 : lw_okq (⟨"PathDesk$Reader", "endRow", "()V"⟩, 8) := ⟨⟨by decide +kernel, by decide +kernel⟩, List.mem_of_getElem? (i := 43) (by decide +kernel), List.mem_of_getElem? (i := 369) (by decide +kernel), List.mem_of_getElem? (i := 370) (by decide +kernel)⟩
theorem lw_p9 : lw_okq (⟨"PathDesk$Reader", "startRepeat", "(I)V"⟩, 8) := ⟨⟨by decide +kernel, by decide +kernel⟩, List.mem_of_getElem? (i := 43) (by decide +kernel), List.mem_of_getElem? (i := 373) (by decide +kernel), List.mem_of_getElem? (i := 374) (by decide +kernel)⟩
theorem lw_p10 : lw_okq (⟨"PathDesk$Reader", "goOnTo", "(I)Z"⟩, 8) := ⟨⟨by decide +kernel, by decide +kernel⟩, List.mem_of_getElem? (i := 43) (by decide +kernel), List.mem_of_getElem? (i := 377) (by decide +kernel), List.mem_of_getElem? (i := 378) (by decide +kernel)⟩
theorem lw_p11 : lw_okq (⟨"PathDesk$Reader", "changeRepeat", "(I)Z"⟩, 8) := ⟨⟨by decide +kernel, by decide +kernel⟩, List.mem_of_getElem? (i := 43) (by decide +kernel), List.mem_of_getElem? (i := 381) (by decide +kernel), List.mem_of_getElem? (i := 382) (by decide +kernel)⟩
theorem lw_p12 : lw_okq (⟨"PathDesk$Reader", "takeStep", "(II)Z"⟩, 8) := ⟨⟨by decide +kernel, by decide +kernel⟩, List.mem_of_getElem? (i := 43) (by decide +kernel), List.mem_of_getElem? (i := 385) (by decide +kernel), List.mem_of_getElem? (i := 386) (by decide +kernel)⟩
theorem lw_p13 : lw_okq (⟨"PathDesk$Reader", "addStep", "(II)V"⟩, 8) := ⟨⟨by decide +kernel, by decide +kernel⟩, List.mem_of_getElem? (i := 43) (by decide +kernel), List.mem_of_getElem? (i := 389) (by decide +kernel), List.mem_of_getElem? (i := 390) (by decide +kernel)⟩
theorem lw_p14 : lw_okq (⟨"PathDesk$Reader", "takeInside", "(I)Z"⟩, 8) := ⟨⟨by decide +kernel, by decide +kernel⟩, List.mem_of_getElem? (i := 43) (by decide +kernel), List.mem_of_getElem? (i := 393) (by decide +kernel), List.mem_of_getElem? (i := 394) (by decide +kernel)⟩
theorem lw_p15 : lw_okq (⟨"PathDesk$Reader", "takeTag", "(II)Z"⟩, 8) := ⟨⟨by decide +kernel, by decide +kernel⟩, List.mem_of_getElem? (i := 43) (by decide +kernel), List.mem_of_getElem? (i := 397) (by decide +kernel), List.mem_of_getElem? (i := 398) (by decide +kernel)⟩
def lw_privs_1 : List (MethodName × Nat) := [(⟨"java/lang/Throwable", "fillInStackTrace", "(I)Ljava/lang/Throwable;"⟩, 6), (⟨"PathDesk", "forgetRelations", "()V"⟩, 8), (⟨"PathDesk$Reader", "start", "(LPathDesk$Expression;)V"⟩, 8), (⟨"PathDesk$Reader", "startAlternative", "()V"⟩, 8), (⟨"PathDesk$Reader", "takeInRow", "(I)Z"⟩, 8), (⟨"PathDesk$Reader", "openGroup", "()Z"⟩, 8), (⟨"PathDesk$Reader", "endRepeat", "()V"⟩, 8), (⟨"PathDesk$Reader", "closeGroup", "()Z"⟩, 8), (⟨"PathDesk$Reader", "endRow", "()V"⟩, 8), (⟨"PathDesk$Reader", "startRepeat", "(I)V"⟩, 8), (⟨"PathDesk$Reader", "goOnTo", "(I)Z"⟩, 8), (⟨"PathDesk$Reader", "changeRepeat", "(I)Z"⟩, 8), (⟨"PathDesk$Reader", "takeStep", "(II)Z"⟩, 8), (⟨"PathDesk$Reader", "addStep", "(II)V"⟩, 8), (⟨"PathDesk$Reader", "takeInside", "(I)Z"⟩, 8), (⟨"PathDesk$Reader", "takeTag", "(II)Z"⟩, 8)]
theorem lw_r1 : ∀ q ∈ lw_privs_1, lw_okq q := List.forall_mem_cons.mpr ⟨lw_p0, List.forall_mem_cons.mpr ⟨lw_p1, List.forall_mem_cons.mpr ⟨lw_p2, List.forall_mem_cons.mpr ⟨lw_p3, List.forall_mem_cons.mpr ⟨lw_p4, List.forall_mem_cons.mpr ⟨lw_p5, List.forall_mem_cons.mpr ⟨lw_p6, List.forall_mem_cons.mpr ⟨lw_p7, List.forall_mem_cons.mpr ⟨lw_p8, List.forall_mem_cons.mpr ⟨lw_p9, List.forall_mem_cons.mpr ⟨lw_p10, List.forall_mem_cons.mpr ⟨lw_p11, List.forall_mem_cons.mpr ⟨lw_p12, List.forall_mem_cons.mpr ⟨lw_p13, List.forall_mem_cons.mpr ⟨lw_p14, List.forall_mem_cons.mpr ⟨lw_p15, fun _ h => absurd h List.not_mem_nil⟩⟩⟩⟩⟩⟩⟩⟩⟩⟩⟩⟩⟩⟩⟩⟩
theorem lw_p16 : lw_okq (⟨"PathDesk$Reader", "takeLeast", "(I)Z"⟩, 8) := ⟨⟨by decide +kernel, by decide +kernel⟩, List.mem_of_getElem? (i := 43) (by decide +kernel), List.mem_of_getElem? (i := 401) (by decide +kernel), List.mem_of_getElem? (i := 402) (by decide +kernel)⟩
theorem lw_p17 : lw_okq (⟨"PathDesk$Reader", "takeBraceEnd", "(I)Z"⟩, 8) := ⟨⟨by decide +kernel, by decide +kernel⟩, List.mem_of_getElem? (i := 43) (by decide +kernel), List.mem_of_getElem? (i := 408) (by decide +kernel), List.mem_of_getElem? (i := 409) (by decide +kernel)⟩
theorem lw_p18 : lw_okq (⟨"PathDesk$Reader", "takeMost", "(I)Z"⟩, 8) := ⟨⟨by decide +kernel, by decide +kernel⟩, List.mem_of_getElem? (i := 43) (by decide +kernel), List.mem_of_getElem? (i := 412) (by decide +kernel), List.mem_of_getElem? (i := 413) (by decide +kernel)⟩
theorem lw_p19 : lw_okq (⟨"PathDesk", "relationOf", "(I)LPathDesk$Relation;"⟩, 8) := ⟨⟨by decide +kernel, by decide +kernel⟩, List.mem_of_getElem? (i := 17) (by decide +kernel), List.mem_of_getElem? (i := 429) (by decide +kernel), List.mem_of_getElem? (i := 430) (by decide +kernel)⟩
theorem lw_p20 : lw_okq (⟨"PathDesk$Bench", "layDown", "()LPathDesk$Relation;"⟩, 3) := ⟨⟨by decide +kernel, by decide +kernel⟩, List.mem_of_getElem? (i := 94) (by decide +kernel), List.mem_of_getElem? (i := 441) (by decide +kernel), List.mem_of_getElem? (i := 442) (by decide +kernel)⟩
theorem lw_p21 : lw_okq (⟨"PathDesk$Bench", "at", "(I)LPathDesk$Relation;"⟩, 3) := ⟨⟨by decide +kernel, by decide +kernel⟩, List.mem_of_getElem? (i := 94) (by decide +kernel), List.mem_of_getElem? (i := 446) (by decide +kernel), List.mem_of_getElem? (i := 447) (by decide +kernel)⟩
theorem lw_p22 : lw_okq (⟨"PathDesk$Bench", "chainTwo", "()V"⟩, 3) := ⟨⟨by decide +kernel, by decide +kernel⟩, List.mem_of_getElem? (i := 94) (by decide +kernel), List.mem_of_getElem? (i := 478) (by decide +kernel), List.mem_of_getElem? (i := 479) (by decide +kernel)⟩
theorem lw_p23 : lw_okq (⟨"PathDesk$Relation", "addGoingOn", "(IILPathDesk$Relation;I)V"⟩, 2) := ⟨⟨by decide +kernel, by decide +kernel⟩, List.mem_of_getElem? (i := 101) (by decide +kernel), List.mem_of_getElem? (i := 491) (by decide +kernel), List.mem_of_getElem? (i := 492) (by decide +kernel)⟩
theorem lw_p24 : lw_okq (⟨"PathDesk$Bench", "joinTwo", "()V"⟩, 3) := ⟨⟨by decide +kernel, by decide +kernel⟩, List.mem_of_getElem? (i := 94) (by decide +kernel), List.mem_of_getElem? (i := 495) (by decide +kernel), List.mem_of_getElem? (i := 496) (by decide +kernel)⟩
theorem lw_p25 : lw_okq (⟨"PathDesk$Bench", "copyTop", "(II)V"⟩, 3) := ⟨⟨by decide +kernel, by decide +kernel⟩, List.mem_of_getElem? (i := 94) (by decide +kernel), List.mem_of_getElem? (i := 507) (by decide +kernel), List.mem_of_getElem? (i := 508) (by decide +kernel)⟩
theorem lw_p26 : lw_okq (⟨"PathDeskModel", "fails", "(ZZ)Z"⟩, 20) := ⟨⟨by decide +kernel, by decide +kernel⟩, List.mem_of_getElem? (i := 590) (by decide +kernel), List.mem_of_getElem? (i := 669) (by decide +kernel), List.mem_of_getElem? (i := 670) (by decide +kernel)⟩
theorem lw_p27 : lw_okq (⟨"PathDeskModel", "begin", "(Z)V"⟩, 20) := ⟨⟨by decide +kernel, by decide +kernel⟩, List.mem_of_getElem? (i := 590) (by decide +kernel), List.mem_of_getElem? (i := 693) (by decide +kernel), List.mem_of_getElem? (i := 694) (by decide +kernel)⟩
theorem lw_p28 : lw_okq (⟨"PathDeskModel", "bracket", "()V"⟩, 20) := ⟨⟨by decide +kernel, by decide +kernel⟩, List.mem_of_getElem? (i := 590) (by decide +kernel), List.mem_of_getElem? (i := 697) (by decide +kernel), List.mem_of_getElem? (i := 698) (by decide +kernel)⟩
theorem lw_p29 : lw_okq (⟨"PathDeskModel", "plain", "(IZ)V"⟩, 20) := ⟨⟨by decide +kernel, by decide +kernel⟩, List.mem_of_getElem? (i := 590) (by decide +kernel), List.mem_of_getElem? (i := 701) (by decide +kernel), List.mem_of_getElem? (i := 702) (by decide +kernel)⟩
theorem lw_p30 : lw_okq (⟨"PathDeskModel", "read", "()V"⟩, 20) := ⟨⟨by decide +kernel, by decide +kernel⟩, List.mem_of_getElem? (i := 590) (by decide +kernel), List.mem_of_getElem? (i := 706) (by decide +kernel), List.mem_of_getElem? (i := 707) (by decide +kernel)⟩
theorem lw_p31 : lw_okq (⟨"PathDeskModel", "goes", "()Z"⟩, 20) := ⟨⟨by decide +kernel, by decide +kernel⟩, List.mem_of_getElem? (i := 590) (by decide +kernel), List.mem_of_getElem? (i := 710) (by decide +kernel), List.mem_of_getElem? (i := 711) (by decide +kernel)⟩
def lw_privs_2 : List (MethodName × Nat) := [(⟨"PathDesk$Reader", "takeLeast", "(I)Z"⟩, 8), (⟨"PathDesk$Reader", "takeBraceEnd", "(I)Z"⟩, 8), (⟨"PathDesk$Reader", "takeMost", "(I)Z"⟩, 8), (⟨"PathDesk", "relationOf", "(I)LPathDesk$Relation;"⟩, 8), (⟨"PathDesk$Bench", "layDown", "()LPathDesk$Relation;"⟩, 3), (⟨"PathDesk$Bench", "at", "(I)LPathDesk$Relation;"⟩, 3), (⟨"PathDesk$Bench", "chainTwo", "()V"⟩, 3), (⟨"PathDesk$Relation", "addGoingOn", "(IILPathDesk$Relation;I)V"⟩, 2), (⟨"PathDesk$Bench", "joinTwo", "()V"⟩, 3), (⟨"PathDesk$Bench", "copyTop", "(II)V"⟩, 3), (⟨"PathDeskModel", "fails", "(ZZ)Z"⟩, 20), (⟨"PathDeskModel", "begin", "(Z)V"⟩, 20), (⟨"PathDeskModel", "bracket", "()V"⟩, 20), (⟨"PathDeskModel", "plain", "(IZ)V"⟩, 20), (⟨"PathDeskModel", "read", "()V"⟩, 20), (⟨"PathDeskModel", "goes", "()Z"⟩, 20)]
theorem lw_r2 : ∀ q ∈ lw_privs_2, lw_okq q := List.forall_mem_cons.mpr ⟨lw_p16, List.forall_mem_cons.mpr ⟨lw_p17, List.forall_mem_cons.mpr ⟨lw_p18, List.forall_mem_cons.mpr ⟨lw_p19, List.forall_mem_cons.mpr ⟨lw_p20, List.forall_mem_cons.mpr ⟨lw_p21, List.forall_mem_cons.mpr ⟨lw_p22, List.forall_mem_cons.mpr ⟨lw_p23, List.forall_mem_cons.mpr ⟨lw_p24, List.forall_mem_cons.mpr ⟨lw_p25, List.forall_mem_cons.mpr ⟨lw_p26, List.forall_mem_cons.mpr ⟨lw_p27, List.forall_mem_cons.mpr ⟨lw_p28, List.forall_mem_cons.mpr ⟨lw_p29, List.forall_mem_cons.mpr ⟨lw_p30, List.forall_mem_cons.mpr ⟨lw_p31, fun _ h => absurd h List.not_mem_nil⟩⟩⟩⟩⟩⟩⟩⟩⟩⟩⟩⟩⟩⟩⟩⟩
theorem lw_p32 : lw_okq (⟨"PathDeskModel", "now", "()I"⟩, 20) := ⟨⟨by decide +kernel, by decide +kernel⟩, List.mem_of_getElem? (i := 590) (by decide +kernel), List.mem_of_getElem? (i := 714) (by decide +kernel), List.mem_of_getElem? (i := 715) (by decide +kernel)⟩
theorem lw_p33 : lw_okq (⟨"PathDeskModel", "opens", "()V"⟩, 20) := ⟨⟨by decide +kernel, by decide +kernel⟩, List.mem_of_getElem? (i := 590) (by decide +kernel), List.mem_of_getElem? (i := 718) (by decide +kernel), List.mem_of_getElem? (i := 719) (by decide +kernel)⟩
theorem lw_p34 : lw_okq (⟨"PathDeskModel", "fail", "()V"⟩, 20) := ⟨⟨by decide +kernel, by decide +kernel⟩, List.mem_of_getElem? (i := 590) (by decide +kernel), List.mem_of_getElem? (i := 722) (by decide +kernel), List.mem_of_getElem? (i := 723) (by decide +kernel)⟩
theorem lw_p35 : lw_okq (⟨"PathDeskModel", "shuts", "()V"⟩, 20) := ⟨⟨by decide +kernel, by decide +kernel⟩, List.mem_of_getElem? (i := 590) (by decide +kernel), List.mem_of_getElem? (i := 726) (by decide +kernel), List.mem_of_getElem? (i := 727) (by decide +kernel)⟩
theorem lw_p36 : lw_okq (⟨"PathDeskModel", "bar", "()V"⟩, 20) := ⟨⟨by decide +kernel, by decide +kernel⟩, List.mem_of_getElem? (i := 590) (by decide +kernel), List.mem_of_getElem? (i := 730) (by decide +kernel), List.mem_of_getElem? (i := 731) (by decide +kernel)⟩
theorem lw_p37 : lw_okq (⟨"PathDeskModel", "either", "(II)V"⟩, 20) := ⟨⟨by decide +kernel, by decide +kernel⟩, List.mem_of_getElem? (i := 590) (by decide +kernel), List.mem_of_getElem? (i := 734) (by decide +kernel), List.mem_of_getElem? (i := 735) (by decide +kernel)⟩
theorem lw_p38 : lw_okq (⟨"PathDeskModel", "copy", "(II)V"⟩, 20) := ⟨⟨by decide +kernel, by decide +kernel⟩, List.mem_of_getElem? (i := 590) (by decide +kernel), List.mem_of_getElem? (i := 738) (by decide +kernel), List.mem_of_getElem? (i := 739) (by decide +kernel)⟩
theorem lw_p39 : lw_okq (⟨"PathDeskModel", "signs", "()V"⟩, 20) := ⟨⟨by decide +kernel, by decide +kernel⟩, List.mem_of_getElem? (i := 590) (by decide +kernel), List.mem_of_getElem? (i := 742) (by decide +kernel), List.mem_of_getElem? (i := 743) (by decide +kernel)⟩
theorem lw_p40 : lw_okq (⟨"PathDeskModel", "counted", "(I)V"⟩, 20) := ⟨⟨by decide +kernel, by decide +kernel⟩, List.mem_of_getElem? (i := 590) (by decide +kernel), List.mem_of_getElem? (i := 746) (by decide +kernel), List.mem_of_getElem? (i := 747) (by decide +kernel)⟩
theorem lw_p41 : lw_okq (⟨"PathDeskModel", "digit", "(I)I"⟩, 20) := ⟨⟨by decide +kernel, by decide +kernel⟩, List.mem_of_getElem? (i := 590) (by decide +kernel), List.mem_of_getElem? (i := 750) (by decide +kernel), List.mem_of_getElem? (i := 751) (by decide +kernel)⟩
theorem lw_p42 : lw_okq (⟨"PathDeskModel", "must", "(I)V"⟩, 20) := ⟨⟨by decide +kernel, by decide +kernel⟩, List.mem_of_getElem? (i := 590) (by decide +kernel), List.mem_of_getElem? (i := 754) (by decide +kernel), List.mem_of_getElem? (i := 755) (by decide +kernel)⟩
theorem lw_p43 : lw_okq (⟨"PathDeskModel", "behind", "(II)V"⟩, 20) := ⟨⟨by decide +kernel, by decide +kernel⟩, List.mem_of_getElem? (i := 590) (by decide +kernel), List.mem_of_getElem? (i := 758) (by decide +kernel), List.mem_of_getElem? (i := 759) (by decide +kernel)⟩
theorem lw_p44 : lw_okq (⟨"PathDeskModel", "spread", "(III)V"⟩, 20) := ⟨⟨by decide +kernel, by decide +kernel⟩, List.mem_of_getElem? (i := 590) (by decide +kernel), List.mem_of_getElem? (i := 762) (by decide +kernel), List.mem_of_getElem? (i := 763) (by decide +kernel)⟩
theorem lw_p45 : lw_okq (⟨"PathDeskModel", "again", "(I)V"⟩, 20) := ⟨⟨by decide +kernel, by decide +kernel⟩, List.mem_of_getElem? (i := 590) (by decide +kernel), List.mem_of_getElem? (i := 767) (by decide +kernel), List.mem_of_getElem? (i := 768) (by decide +kernel)⟩
theorem lw_p46 : lw_okq (⟨"PathDeskModel", "atom", "()V"⟩, 20) := ⟨⟨by decide +kernel, by decide +kernel⟩, List.mem_of_getElem? (i := 590) (by decide +kernel), List.mem_of_getElem? (i := 775) (by decide +kernel), List.mem_of_getElem? (i := 776) (by decide +kernel)⟩
theorem lw_p47 : lw_okq (⟨"PathDeskModel", "test", "(I)V"⟩, 20) := ⟨⟨by decide +kernel, by decide +kernel⟩, List.mem_of_getElem? (i := 590) (by decide +kernel), List.mem_of_getElem? (i := 779) (by decide +kernel), List.mem_of_getElem? (i := 780) (by decide +kernel)⟩
def lw_privs_3 : List (MethodName × Nat) := [(⟨"PathDeskModel", "now", "()I"⟩, 20), (⟨"PathDeskModel", "opens", "()V"⟩, 20), (⟨"PathDeskModel", "fail", "()V"⟩, 20), (⟨"PathDeskModel", "shuts", "()V"⟩, 20), (⟨"PathDeskModel", "bar", "()V"⟩, 20), (⟨"PathDeskModel", "either", "(II)V"⟩, 20), (⟨"PathDeskModel", "copy", "(II)V"⟩, 20), (⟨"PathDeskModel", "signs", "()V"⟩, 20), (⟨"PathDeskModel", "counted", "(I)V"⟩, 20), (⟨"PathDeskModel", "digit", "(I)I"⟩, 20), (⟨"PathDeskModel", "must", "(I)V"⟩, 20), (⟨"PathDeskModel", "behind", "(II)V"⟩, 20), (⟨"PathDeskModel", "spread", "(III)V"⟩, 20), (⟨"PathDeskModel", "again", "(I)V"⟩, 20), (⟨"PathDeskModel", "atom", "()V"⟩, 20), (⟨"PathDeskModel", "test", "(I)V"⟩, 20)]
theorem lw_r3 : ∀ q ∈ lw_privs_3, lw_okq q := List.forall_mem_cons.mpr ⟨lw_p32, List.forall_mem_cons.mpr ⟨lw_p33, List.forall_mem_cons.mpr ⟨lw_p34, List.forall_mem_cons.mpr ⟨lw_p35, List.forall_mem_cons.mpr ⟨lw_p36, List.forall_mem_cons.mpr ⟨lw_p37, List.forall_mem_cons.mpr ⟨lw_p38, List.forall_mem_cons.mpr ⟨lw_p39, List.forall_mem_cons.mpr ⟨lw_p40, List.forall_mem_cons.mpr ⟨lw_p41, List.forall_mem_cons.mpr ⟨lw_p42, List.forall_mem_cons.mpr ⟨lw_p43, List.forall_mem_cons.mpr ⟨lw_p44, List.forall_mem_cons.mpr ⟨lw_p45, List.forall_mem_cons.mpr ⟨lw_p46, List.forall_mem_cons.mpr ⟨lw_p47, fun _ h => absurd h List.not_mem_nil⟩⟩⟩⟩⟩⟩⟩⟩⟩⟩⟩⟩⟩⟩⟩⟩
theorem lw_p48 : lw_okq (⟨"PathDeskModel", "lengths", "(I[I)V"⟩, 20) := ⟨⟨by decide +kernel, by decide +kernel⟩, List.mem_of_getElem? (i := 590) (by decide +kernel), List.mem_of_getElem? (i := 787) (by decide +kernel), List.mem_of_getElem? (i := 788) (by decide +kernel)⟩
def lw_privs_4 : List (MethodName × Nat) := [(⟨"PathDeskModel", "lengths", "(I[I)V"⟩, 20)]
theorem lw_r4 : ∀ q ∈ lw_privs_4, lw_okq q := List.forall_mem_cons.mpr ⟨lw_p48, fun _ h => absurd h List.not_mem_nil⟩
def lw_privs : List (MethodName × Nat) := lw_privs_1 ++ (lw_privs_2 ++ (lw_privs_3 ++ (lw_privs_4)))
def lw_tbl : List Cond := k2_sels lw_privs ++ tables_1
theorem lw_privs_ok : ∀ q ∈ lw_privs, lw_okq q := by
  show ∀ q ∈ lw_privs_1 ++ (lw_privs_2 ++ (lw_privs_3 ++ (lw_privs_4))), lw_okq q
  exact List.forall_mem_append.mpr ⟨lw_r1, List.forall_mem_append.mpr ⟨lw_r2, List.forall_mem_append.mpr ⟨lw_r3, lw_r4⟩⟩⟩
end
section
/-! ===== BEGIN words of one list among another's, by their places ===== -/
theorem goodIn_r {big : List Cond} (ws : List Cond) (ps : List Nat) (hp : ws = ps.filterMap (fun i => big[i]?)) (h : ws.all goodWord = true) : GoodIn big ws := by
  intro w hw
  have h1 := List.all_eq_true.mp h w hw
  rw [hp] at hw
  obtain ⟨i, -, hi⟩ := List.mem_filterMap.mp hw
  have hm : w ∈ big := by first | exact List.mem_of_getElem? hi | exact List.getElem?_mem hi
  exact ⟨hm, good_of_word h1⟩
theorem goodIn_app {big a b : List Cond} (ha : GoodIn big a) (hb : GoodIn big b) : GoodIn big (a ++ b) := fun w h => (List.mem_append.mp h).elim (ha w) (hb w)
theorem goodIn_ca {big a b : List Cond} {c : Cond} (ha : GoodIn big (c :: a)) (hb : GoodIn big b) : GoodIn big (c :: (a ++ b)) := fun w h => (List.mem_cons.mp h).elim (fun e => ha w (List.mem_cons.mpr (Or.inl e))) (fun h => (List.mem_append.mp h).elim (fun h => ha w (List.mem_cons.mpr (Or.inr h))) (hb w))
theorem goodIn_sub {big ws : List Cond} (hm : ∀ w ∈ ws, w ∈ big) (h : ws.all goodWord = true) : GoodIn big ws := fun w hw => ⟨hm w hw, good_of_word (List.all_eq_true.mp h w hw)⟩
/-! ===== END ===== -/

/-! ===== BEGIN exceptions that leave a method, and their catching by the caller (launches without stack traces) ===== -/
section VXA
/-! The laws vx_back, vx_callV, vx_callS, vx_callSW, vx_throw0, vx_throwS follow proofs of the library, with one case more: JvmDerived/Free/Laws.lean (Back.of_free), Shelf42/LK1.lean (callV, callS), Shelf/KitTraced.lean (throwNew0V, throwNewS). -/
/-- where a method has thrown q: the class by its name, the cell, what was written, the world -/
def vx_T (XC : String → State → State → Prop) (st : State) (q : Addr) (t : State) (mc ms : Nat) (free : Addr → Prop) : Prop :=
  ∃ (E : String) (ce : Cell) (L : List Loc), XC E st t ∧ t.heap[q]? = some ce ∧ ce.vm = .none ∧ st.vm.findClass E = some ce.cls ∧ st.WarmedH t.vm ∧ st.sameButNew ({ t with vm := st.vm } : State) L mc ms ∧ ∀ z ∈ L, free z.base
def vx_Q (Qc : Array Value → State → Outcome → State → Prop) (XC : String → State → State → Prop) (mc ms : Nat) (free : Addr → Prop) : Array Value → State → Outcome → State → Prop := fun a st o t =>
  (Qc a st o t ∧ ∃ L, FrameEnd st o t L mc ms ∧ ∀ q ∈ L, free q.base) ∨ ∃ q, o = .threw q ∧ vx_T XC st q t mc ms free
/-- a callee that returns or throws -/
def vx_Met (l : Launch) (y : MethodName) (ws : List Cond) (rm : Room) (Pc : Array Value → State → Prop) (Qc : Array Value → State → Outcome → State → Prop) (XC : String → State → State → Prop) (mc ms : Nat) (free : Addr → Prop) : Prop :=
  MetFree l y (headSpec ws rm) Pc (fun _ _ _ _ _ => True) (vx_Q Qc XC mc ms free)
def vx_Post (XC : String → State → State → Prop) (mc ms : Nat) (free : Addr → Prop) : Pt → Array Value → Addr → Pt → Prop := fun A a q B =>
  ∃ (g : JFrame) (mk : MethodId) (t : State) (L : List Loc) (E : String) (ce : Cell), B.U.heap = t.heap ∧ B.U.vm = t.vm ∧ XC E (A.U.calling g mk a) t ∧ t.heap[q]? = some ce ∧ ce.vm = .none ∧ A.U.vm.findClass E = some ce.cls ∧ B.locs = A.locs ++ L ∧ (∀ z ∈ L, free z.base) ∧ B.cells = A.cells + mc ∧ B.slots = A.slots + ms
def vx_Back (l : Launch) (R : Room) (p : Program) (e : Env) (below : List Frame) (s : State) (sargs : Array Value) (y : MethodName) (len W9 : Nat)
    (Pre : Pt → Array Value → Prop) (Post : Pt → Array Value → Option Value → Pt → Prop) (PostX : Pt → Array Value → Addr → Pt → Prop) : Prop :=
  ∀ (m : MethodId) (meth : Method) (c : Code) (A : Pt) (g : JFrame) (ig : Instr) (mk : MethodId) (a : Array Value),
    Stand p l e R s m sargs below meth c A.U A.locs A.cells A.slots → g.method = m → g.locals.size = c.maxLocals → decode c.code g.pc = .ok (ig, len) →
    2 * g.monitorRoom + (g.stack.map fun v => v.category).sum ≤ W9 → A.U.methodNamed? y = some mk → Pre A a →
    (∃ (v : Option Value) (B : Pt), Stand p l e R s m sargs below meth c B.U B.locs B.cells B.slots ∧ Post A a v B ∧
      Steps p.tables e below (doInvoke e (A.U.setTop g) [] mk a).1 (B.U.setTop { g with pc := g.pc + len, stack := v.toList ++ g.stack })) ∨
    (∃ (q : Addr) (B : Pt), Stand p l e R s m sargs below meth c B.U B.locs B.cells B.slots ∧ PostX A a q B ∧
      Steps p.tables e below (doInvoke e (A.U.setTop g) [] mk a).1 ((B.U.setTop g).pushFrame (.throwing q)))
section Payer
variable {l : Launch} {R : Room} {p : Program} {e : Env} {below : List Frame} {s : State} {sargs : Array Value} {y : MethodName} {len W9 : Nat}
theorem vx_back {ws : List Cond} {rm : Room} {Pc : Array Value → State → Prop} {Qc : Array Value → State → Outcome → State → Prop} {XC : String → State → State → Prop} {mc ms : Nat} {free : Addr → Prop} {bytes : ByteArray} {maxL : Nat} {ret : Option FieldType}
    (hM : vx_Met l y ws rm Pc Qc XC mc ms free) (hblind : FrameBlind Pc) (hrc : rm.cells = mc) (hrs : rm.slots = ms)
    (hframes : rm.frames + 1 ≤ R.frames) (hlocals : W9 + (maxL + 11) + rm.locals ≤ R.locals)
    (hws : ∀ w ∈ ws, ∀ a' U, s.WarmedH U.vm → w.before a' U = true) (hcode : Cond.code y bytes maxL ret ∈ ws) (hinit : ∀ a' U, s.WarmedH U.vm → (Cond.initialized y.cls).before a' U = true) :
    vx_Back l R p e below s sargs y len W9 (PreOf R mc ms Pc) (PostOf Qc mc ms free) (vx_Post XC mc ms free) := by
  intro m meth c A g ig mk a X hg hsize hdg hW hn hp
  have h1 : (headSpec ws rm).pre.before a A.U = true := atoms_intro fun w hw => hws w hw _ _ X.warmed
  have h2 : (Cond.code y bytes maxL ret).before a A.U = true := hws _ hcode _ _ X.warmed
  have h3 : (Cond.initialized y.cls).before a A.U = true := hinit _ _ X.warmed
  have h4 : A.cells + (headSpec ws rm).room.cells ≤ R.cells := by rw [show (headSpec ws rm).room.cells = mc from hrc]; exact hp.1
  have h5 : A.slots + (headSpec ws rm).room.slots ≤ R.slots := by rw [show (headSpec ws rm).room.slots = ms from hrs]; exact hp.2.1
  have hPc : Pc a (A.U.calling g mk a) := hblind _ _ _ _ hp.2.2
  obtain ⟨U, Ls, c0, s0⟩ := A
  dsimp only [Pt.U, Pt.locs, Pt.cells, Pt.slots] at h1 h2 h3 h4 h5 X hn hPc ⊢
  obtain ⟨methY, cY, hmY, hcY, -, hlY, -, -, -, -⟩ := Cond.code_spec hn h2
  obtain ⟨kY, hkY, -⟩ := className_of_methodNamed hn
  have hinitY : kY.init = .initialized := Cond.initialized_spec (findClass_of_methodNamed hn) hkY h3
  have h : At U g.method c below := by rw [hg]; exact X.here
  have hlocals9 : W9 + (maxL + 11) + (headSpec ws rm).room.locals ≤ R.locals := hlocals
  have happ : (headSpec ws rm).appliesLoose y e.platform (U.calling g mk a) = true :=
    Spec.appliesLoose_calling (g := g) h hdg hn hkY hinitY
      (X.room_calling (g := g) (R' := (headSpec ws rm).room) hsize hmY hcY hframes (by rw [hlY]; omega) h4 h5) h1
  obtain ⟨mid, hmid⟩ := h.above
  have hfr : (U.setTop g).frames = (.java g :: mid) ++ below := by rw [State.frames_setTop' g h.top, hmid]; rfl
  obtain ⟨o, s₂, hsteps, -, hend, hq⟩ := Steps.callFree hM p X.admits X.cas X.clock (acts := []) hfr happ hPc trivial
  have hq' : vx_Q Qc XC mc ms free a (U.calling g mk a) o s₂ := hq
  rw [State.frames_setTop' g h.top] at hend
  obtain ⟨g₀, hg0⟩ := Option.isSome_iff_exists.mp h.top
  obtain ⟨r, hr⟩ := State.topJava?_eq_some.mp hg0
  have hr' : (({ U with heap := s₂.heap, slotsUsed := s₂.slotsUsed } : State).setVm s₂.vm).frames = .java g₀ :: r := hr
  rcases hq' with ⟨hqc, L, hfe, hL⟩ | ⟨q, rfl, E, ce, L, hx, hce, hcv, hcl, hW₂, hsm, hL⟩
  · obtain ⟨⟨v, rfl⟩, hW₂, e2, q2, q3, q4, q5, q6⟩ := id hfe
    have e3 : s₂ = ({ (U.calling g mk a).setFrames s₂.frames with heap := s₂.heap, slotsUsed := s₂.slotsUsed } : State).setVm s₂.vm := by
      have : s₂ = ({ s₂ with vm := (U.calling g mk a).vm } : State).setVm s₂.vm := rfl
      rw [e2] at this
      exact this
    obtain ⟨c₂, i₂, len₂, hc₂, hd₂, hf₂⟩ := hend
    have hW' : U.WarmedH s₂.vm := hW₂
    have hcc : c₂ = c := by
      have h1 : s₂.code? g.method = U.code? g.method := by
        rw [State.code?_eq, State.code?_eq, hW'.alike.method?]
      exact Option.some.inj (hc₂.symm.trans (h1.trans h.code))
    subst hcc
    have hlen : len₂ = len := by rw [hdg] at hd₂; cases hd₂; rfl
    subst hlen
    have hs₂ : s₂ = (({ U with heap := s₂.heap, slotsUsed := s₂.slotsUsed } : State).setVm s₂.vm).setTop { g with pc := g.pc + len₂, stack := v.toList ++ g.stack } := by
      refine e3.trans ?_
      rw [hf₂, State.calling_eq h.top, State.setFrames_setFrames, State.setTop_of_frames _ hr', hr]
      rfl
    have hsame : U.sameButNew ({ U with heap := s₂.heap, slotsUsed := s₂.slotsUsed } : State) L mc ms := by
      refine ⟨?_, q2, q3, q4, q5, q6⟩
      obtain ⟨t, ht, -⟩ := State.frames_cons hr
      show ({ U with heap := s₂.heap, slotsUsed := s₂.slotsUsed } : State) = { U.setFrames U.frames with heap := s₂.heap, slotsUsed := s₂.slotsUsed }
      rw [State.setFrames_self ht]
    subst hg
    refine Or.inl ⟨v, ⟨(({ U with heap := s₂.heap, slotsUsed := s₂.slotsUsed } : State).setVm s₂.vm), Ls ++ L, c0 + mc, s0 + ms⟩,
      ⟨X.admits, X.cas, X.clock, X.frames, X.room, X.hears, X.method, X.code, (X.here.setHeapUsed s₂.heap s₂.slotsUsed).setVm hW'.alike, X.tail, State.WarmedH.trans X.warmed hW', X.limits, X.bytes, X.same.trans (hsame.setVm s.vm)⟩,
      ⟨g, mk, s₂, L, rfl, rfl, hqc, rfl, hL, rfl, rfl⟩, ?_⟩
    show Steps p.tables e below _ ((({ U with heap := s₂.heap, slotsUsed := s₂.slotsUsed } : State).setVm s₂.vm).setTop { g with pc := g.pc + len₂, stack := v.toList ++ g.stack })
    rw [← hs₂]
    exact hsteps
  · obtain ⟨e2, q2, q3, q4, q5, q6⟩ := id hsm
    have e3 : s₂ = ({ (U.calling g mk a).setFrames s₂.frames with heap := s₂.heap, slotsUsed := s₂.slotsUsed } : State).setVm s₂.vm := by
      have : s₂ = ({ s₂ with vm := (U.calling g mk a).vm } : State).setVm s₂.vm := rfl
      rw [e2] at this
      exact this
    have hf₂ : s₂.frames = .throwing q :: .java g :: U.frames.tail := hend
    have hW' : U.WarmedH s₂.vm := hW₂
    have hs₂ : s₂ = ((({ U with heap := s₂.heap, slotsUsed := s₂.slotsUsed } : State).setVm s₂.vm).setTop g).pushFrame (.throwing q) := by
      refine e3.trans ?_
      rw [hf₂, State.calling_eq h.top, State.setFrames_setFrames, State.pushFrame, State.frames_setTop _ hr', State.setTop_of_frames _ hr', State.setFrames_setFrames, hr]
      rfl
    have hsame : U.sameButNew ({ U with heap := s₂.heap, slotsUsed := s₂.slotsUsed } : State) L mc ms := by
      refine ⟨?_, q2, q3, q4, q5, q6⟩
      obtain ⟨t, ht, -⟩ := State.frames_cons hr
      show ({ U with heap := s₂.heap, slotsUsed := s₂.slotsUsed } : State) = { U.setFrames U.frames with heap := s₂.heap, slotsUsed := s₂.slotsUsed }
      rw [State.setFrames_self ht]
    subst hg
    refine Or.inr ⟨q, ⟨(({ U with heap := s₂.heap, slotsUsed := s₂.slotsUsed } : State).setVm s₂.vm), Ls ++ L, c0 + mc, s0 + ms⟩,
      ⟨X.admits, X.cas, X.clock, X.frames, X.room, X.hears, X.method, X.code, (X.here.setHeapUsed s₂.heap s₂.slotsUsed).setVm hW'.alike, X.tail, State.WarmedH.trans X.warmed hW', X.limits, X.bytes, X.same.trans (hsame.setVm s.vm)⟩,
      ⟨g, mk, s₂, L, E, ce, rfl, rfl, hx, hce, hcv, hcl, rfl, hL, rfl, rfl⟩, ?_⟩
    show Steps p.tables e below _ (((({ U with heap := s₂.heap, slotsUsed := s₂.slotsUsed } : State).setVm s₂.vm).setTop g).pushFrame (.throwing q))
    rw [← hs₂]
    exact hsteps
end Payer
section Calls
variable {p : Program} {l : Launch} {e : Env} {R : Room} {s : State} {m : MethodId} {args : Array Value} {below : List Frame} {meth : Method} {c : Code} {T : State} {locs : List Loc} {cells slots : Nat}
theorem vx_callV (X : Stand p l e R s m args below meth c T locs cells slots) (hexec : p.tables.exec = Jvm.exec) {own C : String} {index : Nat} {y : MethodName} {bytes : ByteArray} {maxL : Nat} {ret : Option FieldType}
    (hown : s.vm.findClass own = some m.cls) (hlink : (Cond.methodLink own index y).before args s = true) (hinst : (Cond.instanceMethod y).before args s = true) (hsel : (Cond.selects C y y).before args s = true)
    (hcode : (Cond.code y bytes maxL ret).before args s = true) (hy : y.cls ≠ "java/lang/invoke/MethodHandle" ∧ y.cls ≠ "java/lang/invoke/VarHandle")
    {W9 : Nat} {Pre : Pt → Array Value → Prop} {Post : Pt → Array Value → Option Value → Pt → Prop} {PostX : Pt → Array Value → Addr → Pt → Prop} (hK : vx_Back l R p e below s args y 3 W9 Pre Post PostX)
    {b : Addr} {cellB : Cell} (hcell : T.heap[b]? = some cellB) (hobj : cellB.vm.isStatics = false) (hcls : s.vm.findClass C = some cellB.cls)
    {g : JFrame} (hg : g.method = m) (hsize : g.locals.size = c.maxLocals) {argsL rest : List Value} (hlen : ∀ sig, parseMethodDescriptor y.desc = some sig → argsL.length = sig.parameters.length)
    (hstack : g.stack = argsL.reverse ++ .ref b :: rest) (hW : 2 * g.monitorRoom + (rest.map fun v => v.category).sum ≤ W9) (hdg : decode c.code g.pc = .ok (.invokevirtual index, 3))
    (hpre : ∀ vm₁, s.WarmedH vm₁ → Pre ⟨T.setVm vm₁, locs, cells, slots⟩ (Value.ref b :: argsL).toArray) :
    (∃ (v : Option Value) (vm₁ : Vm) (B : Pt), s.WarmedH vm₁ ∧ Stand p l e R s m args below meth c B.U B.locs B.cells B.slots ∧ Post ⟨T.setVm vm₁, locs, cells, slots⟩ (Value.ref b :: argsL).toArray v B ∧
      ∀ target, Steps p.tables e below (B.U.setTop { g with pc := g.pc + 3, stack := v.toList ++ rest }) target → Steps p.tables e below (T.setTop g) target) ∨
    (∃ (q : Addr) (vm₁ : Vm) (B : Pt), s.WarmedH vm₁ ∧ Stand p l e R s m args below meth c B.U B.locs B.cells B.slots ∧ PostX ⟨T.setVm vm₁, locs, cells, slots⟩ (Value.ref b :: argsL).toArray q B ∧
      Steps p.tables e below (T.setTop g) ((B.U.setTop { g with stack := rest }).pushFrame (.throwing q))) := by
  obtain ⟨mk, methM, hnamed, hmethM, hstM, habM⟩ := Cond.instanceMethod_spec hinst
  obtain ⟨methM', cM, hmethM', -, -, -, -, -, -, hsigM⟩ := Cond.code_spec hnamed hcode
  cases hmethM.symm.trans hmethM'
  obtain ⟨c2, r2, m2, q1, q2, q3, q4, kP, hkP, hkPi⟩ := Cond.selects_spec hsel
  cases hcls.symm.trans q1
  cases (State.methodFound?_of_named hnamed hy).symm.trans q2
  cases hnamed.symm.trans q3
  have hselP : selectMethod e.platform s.vm cellB.cls mk = .method mk := by rw [Launch.admits_selectMethod X.admits]; exact q4
  obtain ⟨vm₁, X₁, hstep₁⟩ := X.invokevirtual hexec hown hlink hnamed hmethM hstM hkP hkPi hy (a := b) (cell := cellB) hcell
    (fun z h => by rw [h] at hobj; cases hobj) hselP hmethM habM hkP hkPi (g := g) hg (argsL := argsL) (rest := rest) (hlen _ hsigM) hstack hdg
  rcases hK m meth c ⟨T.setVm vm₁, locs, cells, slots⟩ { g with stack := rest } (.invokevirtual index) mk (Value.ref b :: argsL).toArray X₁ hg hsize hdg hW (X₁.named hnamed) (hpre vm₁ X₁.warmed) with ⟨v, B, X', hpost, hsteps⟩ | ⟨q, B, X', hpost, hsteps⟩
  · exact Or.inl ⟨v, vm₁, B, X₁.warmed, X', hpost, fun target h => hstep₁ _ fun acts => by rw [doInvoke_state]; exact hsteps.trans h⟩
  · exact Or.inr ⟨q, vm₁, B, X₁.warmed, X', hpost, hstep₁ _ fun acts => by rw [doInvoke_state]; exact hsteps⟩
theorem vx_callS (X : Stand p l e R s m args below meth c T locs cells slots) (hexec : p.tables.exec = Jvm.exec) {own : String} {index : Nat} {y : MethodName} {bytes : ByteArray} {maxL : Nat} {ret : Option FieldType}
    (hown : s.vm.findClass own = some m.cls) (hlink : (Cond.methodLink own index y).before args s = true) (hstat : (Cond.static y).before args s = true) (hinit : (Cond.initialized y.cls).before args s = true)
    (hcode : (Cond.code y bytes maxL ret).before args s = true) (hy : y.cls ≠ "java/lang/invoke/MethodHandle" ∧ y.cls ≠ "java/lang/invoke/VarHandle")
    {W9 : Nat} {Pre : Pt → Array Value → Prop} {Post : Pt → Array Value → Option Value → Pt → Prop} {PostX : Pt → Array Value → Addr → Pt → Prop} (hK : vx_Back l R p e below s args y 3 W9 Pre Post PostX)
    {g : JFrame} (hg : g.method = m) (hsize : g.locals.size = c.maxLocals) {argsL rest : List Value} (hlen : ∀ sig, parseMethodDescriptor y.desc = some sig → argsL.length = sig.parameters.length)
    (hstack : g.stack = argsL.reverse ++ rest) (hW : 2 * g.monitorRoom + (rest.map fun v => v.category).sum ≤ W9) (hdg : decode c.code g.pc = .ok (.invokestatic index, 3))
    (hpre : ∀ vm₁, s.WarmedH vm₁ → Pre ⟨T.setVm vm₁, locs, cells, slots⟩ argsL.toArray) :
    (∃ (v : Option Value) (vm₁ : Vm) (B : Pt), s.WarmedH vm₁ ∧ Stand p l e R s m args below meth c B.U B.locs B.cells B.slots ∧ Post ⟨T.setVm vm₁, locs, cells, slots⟩ argsL.toArray v B ∧
      ∀ target, Steps p.tables e below (B.U.setTop { g with pc := g.pc + 3, stack := v.toList ++ rest }) target → Steps p.tables e below (T.setTop g) target) ∨
    (∃ (q : Addr) (vm₁ : Vm) (B : Pt), s.WarmedH vm₁ ∧ Stand p l e R s m args below meth c B.U B.locs B.cells B.slots ∧ PostX ⟨T.setVm vm₁, locs, cells, slots⟩ argsL.toArray q B ∧
      Steps p.tables e below (T.setTop g) ((B.U.setTop { g with stack := rest }).pushFrame (.throwing q))) := by
  obtain ⟨mk, hnamed⟩ := Cond.code_named hcode
  obtain ⟨methM, cM, hmethM, -, -, -, -, -, -, hsigM⟩ := Cond.code_spec hnamed hcode
  have hstatic : methM.isStatic = true := Cond.static_spec hnamed hmethM hstat
  obtain ⟨kP, hkP, -⟩ := className_of_methodNamed hnamed
  have hinitP : kP.init = .initialized := Cond.initialized_spec (findClass_of_methodNamed hnamed) hkP hinit
  obtain ⟨vm₁, X₁, hstep₁⟩ := X.invokestatic hexec hown hlink hnamed hmethM hstatic hkP hinitP hy (g := g) hg (argsL := argsL) (rest := rest) (hlen _ hsigM) hstack hdg
  rcases hK m meth c ⟨T.setVm vm₁, locs, cells, slots⟩ { g with stack := rest } (.invokestatic index) mk argsL.toArray X₁ hg hsize hdg hW (X₁.named hnamed) (hpre vm₁ X₁.warmed) with ⟨v, B, X', hpost, hsteps⟩ | ⟨q, B, X', hpost, hsteps⟩
  · exact Or.inl ⟨v, vm₁, B, X₁.warmed, X', hpost, fun target h => hstep₁ _ fun acts => by rw [doInvoke_state]; exact hsteps.trans h⟩
  · exact Or.inr ⟨q, vm₁, B, X₁.warmed, X', hpost, hstep₁ _ fun acts => by rw [doInvoke_state]; exact hsteps⟩
end Calls
theorem vx_cls {s : State} {T : State} {vm₁ : Vm} {E : String} {k : ClassId} (hW : s.WarmedH vm₁) (h : (T.setVm vm₁).vm.findClass E = some k) : s.vm.findClass E = some k := by
  have h1 : vm₁.findClass E = some k := h
  rw [hW.alike.findClass] at h1
  exact h1
/-- the method's frame g, with q thrown over it -/
def vx_W (p : Program) (l : Launch) (e : Env) (R : Room) (s : State) (m : MethodId) (args : Array Value) (below : List Frame) (meth : Method) (c : Code) (H : Heap) (locs : List Loc) (cells slots : Nat) (Q : State → Prop) (g : JFrame) (q : Addr) : Prop :=
  ∀ T : State, T.heap = H → Stand p l e R s m args below meth c T locs cells slots → ∃ t, Steps p.tables e below ((T.setTop g).pushFrame (.throwing q)) t ∧ Q t
def vx_Run (p : Program) (l : Launch) (e : Env) (R : Room) (s : State) (m : MethodId) (args : Array Value) (below : List Frame) (meth : Method) (c : Code) (H : Heap) (locs : List Loc) (cells slots mc ms : Nat) (g : JFrame) (rest : List Value) (Qa : State → Outcome → State → Prop) (XC : String → State → State → Prop) (free : Addr → Prop) : Prop :=
  ∀ T : State, T.heap = H → Stand p l e R s m args below meth c T locs cells slots →
    (∃ (v : Option Value) (st₀ t T' : State) (L : List Loc), st₀.heap = H ∧ Stand p l e R s m args below meth c T' (locs ++ L) (cells + mc) (slots + ms) ∧ (∀ q ∈ L, free q.base) ∧ T'.heap = t.heap ∧ T'.vm = t.vm ∧ Qa st₀ (.returned v) t ∧
      Goes p e below T g T' { g with pc := g.pc + 3, stack := v.toList ++ rest }) ∨
    (∃ (q : Addr) (st₀ t T' : State) (L : List Loc) (E : String) (ce : Cell), st₀.heap = H ∧ Stand p l e R s m args below meth c T' (locs ++ L) (cells + mc) (slots + ms) ∧ (∀ z ∈ L, free z.base) ∧ T'.heap = t.heap ∧ T'.vm = t.vm ∧ XC E st₀ t ∧ t.heap[q]? = some ce ∧ ce.vm = .none ∧ s.vm.findClass E = some ce.cls ∧
      Steps p.tables e below (T.setTop g) ((T'.setTop { g with stack := rest }).pushFrame (.throwing q)))
def vx_X {S : Type} (px : S → Prop) (B : String → S → State → Prop) (A : Nat → Prop) : String → State → State → Prop := fun E st t => ∃ u : S, px u ∧ B E u t ∧ va_F A st t
section Runs
variable {p : Program} {l : Launch} {e : Env} {R : Room} {s : State} {m : MethodId} {args : Array Value} {below : List Frame} {meth : Method} {c : Code} {H : Heap} {locs : List Loc} {cells slots : Nat}
variable {y : MethodName} {bytes cc : ByteArray} {maxL nL mc ms n index : Nat} {ret : Option FieldType} {ws : List Cond} {rm : Room} {Pc : Array Value → State → Prop} {Qc : Array Value → State → Outcome → State → Prop} {XC : String → State → State → Prop} {free : Addr → Prop} {Ts : List Cond} {own C : String} {b : Addr} {As rest : List Value} {g : JFrame}
theorem vx_callBack (cb : CallB R s args own index y bytes maxL ret ws rm mc ms n) (hM : vx_Met l y ws rm Pc Qc XC mc ms free) (hbl : FrameBlind Pc) : vx_Back l R p e below s args y 3 8 (PreOf R mc ms Pc) (PostOf Qc mc ms free) (vx_Post XC mc ms free) := by
  obtain ⟨hrc, hrs, hfr, hlo, hws, hcw, -, hini, -⟩ := cb
  exact vx_back (bytes := bytes) (maxL := maxL) (ret := ret) hM hbl hrc hrs hfr hlo hws hcw (fun a' U hW => word_at hW (Or.inl (by first | rfl | simp [Cond.onTables, Cond.keeps, Cond.steady])) hini)
theorem vx_runV (S : CallFix p m c cc nL s args Ts own) (hM : vx_Met l y ws rm Pc Qc XC mc ms free) (cw : CallW R s args own C index y bytes maxL ret ws rm mc ms n) (hp : PreV s H C b Pc As)
    (hg : g.method = m) (hn : As.length = n) (hsize : g.locals.size = nL) (hstack : g.stack = As.reverse ++ .ref b :: rest) (hW : 2 * g.monitorRoom + (rest.map fun v => v.category).sum ≤ 8) (hdg : decode cc g.pc = .ok (.invokevirtual index, 3)) (hf : cells + mc ≤ R.cells ∧ slots + ms ≤ R.slots) :
    vx_Run p l e R s m args below meth c H locs cells slots mc ms g rest (Qc (Value.ref b :: As).toArray) XC free := by
  have hK : vx_Back l R p e below s args y 3 8 (PreOf R mc ms Pc) (PostOf Qc mc ms free) (vx_Post XC mc ms free) := vx_callBack cw.1 hM hp.1
  obtain ⟨⟨-, -, -, -, -, -, hcode, -, hy, hlen, hl⟩, hin, hse⟩ := cw
  obtain ⟨hx, hb, hml, ho, -⟩ := S
  obtain ⟨-, ⟨cellB, hcB, hoB, hclB⟩, hPc⟩ := hp
  intro T hT X
  rcases vx_callV X hx (C := C) (bytes := bytes) (maxL := maxL) (ret := ret) ho hl hin hse hcode hy hK (by rw [hT]; exact hcB) hoB hclB hg (hsize.trans hml.symm) (argsL := As) (rest := rest) (fun sig h => hn.trans (hlen sig h)) hstack hW (by rw [hb]; exact hdg)
    (fun vm₁ hW₁ => ⟨hf.1, hf.2, hPc (T.setVm vm₁) hT hW₁⟩) with ⟨v, vm₁, ⟨U', l2, c2, s2⟩, hW₁, X', ⟨g', mk, t, L, e1, e2, hq, h1, hL, h2, h3⟩, st⟩ | ⟨q, vm₁, ⟨U', l2, c2, s2⟩, hW₁, X', ⟨g', mk, t, L, E, ce, e1, e2, hq, hce, hcv, hcl, h1, hL, h2, h3⟩, st⟩
  · dsimp only [Pt.U, Pt.locs, Pt.cells, Pt.slots] at X' e1 e2 h1 h2 h3 st
    subst h1; subst h2; subst h3
    exact Or.inl ⟨v, (T.setVm vm₁).calling g' mk (Value.ref b :: As).toArray, t, U', L, hT, X', hL, e1, e2, hq, st⟩
  · dsimp only [Pt.U, Pt.locs, Pt.cells, Pt.slots] at X' e1 e2 h1 h2 h3 st hcl
    subst h1; subst h2; subst h3
    exact Or.inr ⟨q, (T.setVm vm₁).calling g' mk (Value.ref b :: As).toArray, t, U', L, E, ce, hT, X', hL, e1, e2, hq, hce, hcv, vx_cls hW₁ hcl, st⟩
theorem vx_runS (S : CallFix p m c cc nL s args Ts own) (hM : vx_Met l y ws rm Pc Qc XC mc ms free) (cw : CallB R s args own index y bytes maxL ret ws rm mc ms n ∧ (Cond.static y).before args s = true) (hp : PreS s H Pc As)
    (hg : g.method = m) (hn : As.length = n) (hsize : g.locals.size = nL) (hstack : g.stack = As.reverse ++ rest) (hW : 2 * g.monitorRoom + (rest.map fun v => v.category).sum ≤ 8) (hdg : decode cc g.pc = .ok (.invokestatic index, 3)) (hf : cells + mc ≤ R.cells ∧ slots + ms ≤ R.slots) :
    vx_Run p l e R s m args below meth c H locs cells slots mc ms g rest (Qc As.toArray) XC free := by
  have hK : vx_Back l R p e below s args y 3 8 (PreOf R mc ms Pc) (PostOf Qc mc ms free) (vx_Post XC mc ms free) := vx_callBack cw.1 hM hp.1
  obtain ⟨⟨-, -, -, -, -, -, hcode, hini, hy, hlen, hl⟩, hstt⟩ := cw
  obtain ⟨hx, hb, hml, ho, -⟩ := S
  intro T hT X
  rcases vx_callS X hx (bytes := bytes) (maxL := maxL) (ret := ret) ho hl hstt hini hcode hy hK hg (hsize.trans hml.symm) (argsL := As) (rest := rest) (fun sig h => hn.trans (hlen sig h)) hstack hW (by rw [hb]; exact hdg)
    (fun vm₁ hW₁ => ⟨hf.1, hf.2, hp.2 (T.setVm vm₁) hT hW₁⟩) with ⟨v, vm₁, ⟨U', l2, c2, s2⟩, hW₁, X', ⟨g', mk, t, L, e1, e2, hq, h1, hL, h2, h3⟩, st⟩ | ⟨q, vm₁, ⟨U', l2, c2, s2⟩, hW₁, X', ⟨g', mk, t, L, E, ce, e1, e2, hq, hce, hcv, hcl, h1, hL, h2, h3⟩, st⟩
  · dsimp only [Pt.U, Pt.locs, Pt.cells, Pt.slots] at X' e1 e2 h1 h2 h3 st
    subst h1; subst h2; subst h3
    exact Or.inl ⟨v, (T.setVm vm₁).calling g' mk As.toArray, t, U', L, hT, X', hL, e1, e2, hq, st⟩
  · dsimp only [Pt.U, Pt.locs, Pt.cells, Pt.slots] at X' e1 e2 h1 h2 h3 st hcl
    subst h1; subst h2; subst h3
    exact Or.inr ⟨q, (T.setVm vm₁).calling g' mk As.toArray, t, U', L, E, ce, hT, X', hL, e1, e2, hq, hce, hcv, vx_cls hW₁ hcl, st⟩
end Runs
section Rows
variable {p : Program} {l : Launch} {e : Env} {R : Room} {s : State} {m : MethodId} {args : Array Value} {below : List Frame} {meth : Method} {c : Code} {H : Heap} {locs : List Loc} {cells slots : Nat} {Q : State → Prop}
variable {mc ms : Nat} {free : Addr → Prop} {A0 A1 : Nat → Prop} {H0 : Heap} {a : Array Value} {pc : Nat} {ls : Array Slot} {st0 rest : List Value}
theorem vx_keep {st₀ t T' : State} {L : List Loc} (h0 : st₀.heap = H) (e1 : T'.heap = t.heap) (hS : va_S A0 H0 H locs) (hA : ∀ q, q < H.size → A1 q → A0 q) (hf : ∀ q, free q → A0 q) (hL : ∀ q ∈ L, free q.base) (hF : va_F A1 st₀ t) :
    H.size ≤ T'.heap.size ∧ (∀ q : Nat, q < H.size → ¬ A1 q → T'.heap[q]? = H[q]?) ∧ va_S A0 H0 T'.heap (locs ++ L) := by
  obtain ⟨hz, hk⟩ := hF
  rw [h0] at hz hk
  exact ⟨by rw [e1]; exact hz, fun q h1 h2 => by rw [e1]; exact hk q h1 h2,
    ⟨Nat.le_trans hS.1 (by rw [e1]; exact hz), fun q h1 h2 => by rw [e1, hk q (Nat.lt_of_lt_of_le h1 hS.1) (fun z => h2 (hA q (Nat.lt_of_lt_of_le h1 hS.1) z))]; exact hS.2.1 q h1 h2, fun q hq => by
      rcases List.mem_append.mp hq with h | h
      · exact hS.2.2 q h
      · exact hf _ (hL q h)⟩⟩
theorem vx_calli {S SX : Type} {post : Int32 → S → Prop} {px : SX → Prop} {B : S → State → Prop} {BX : String → SX → State → Prop} {AX : Nat → Prop} (hr : vx_Run p l e R s m args below meth c H locs cells slots mc ms (F0 m pc ls st0) rest (va_Qi post B A1 a) (vx_X px BX AX) free) (hS : va_S A0 H0 H locs) (hA : ∀ q, q < H.size → A1 q → A0 q) (hf : ∀ q, free q → A0 q) (hAX : ∀ q, q < H.size → AX q → A0 q)
    (kx : ∀ (E : String) (ce : Cell) (q9 : Addr) (u : SX) (t : State) (H1 : Heap) (locs1 : List Loc), t.heap = H1 → s.vm.Alike t.vm → px u → BX E u t → H.size ≤ H1.size → (∀ q : Nat, q < H.size → ¬ AX q → H1[q]? = H[q]?) → va_S A0 H0 H1 locs1 → H1[q9]? = some ce → ce.vm = .none → s.vm.findClass E = some ce.cls → vx_W p l e R s m args below meth c H1 locs1 (cells + mc) (slots + ms) Q (F0 m pc ls rest) q9)
    (kk : ∀ (r : Int32) (u : S) (t : State) (H1 : Heap) (locs1 : List Loc), t.heap = H1 → s.vm.Alike t.vm → post r u → B u t → H.size ≤ H1.size → (∀ q : Nat, q < H.size → ¬ A1 q → H1[q]? = H[q]?) → va_S A0 H0 H1 locs1 → W p l e R s m args below meth c H1 locs1 (cells + mc) (slots + ms) Q (F0 m (pc + 3) ls (.int r :: rest))) : W p l e R s m args below meth c H locs cells slots Q (F0 m pc ls st0) := by
  intro T hT X
  rcases hr T hT X with ⟨v, st₀, t, T', L, h0, X', hL, e1, e2, ⟨⟨r, u, hv, hp, hb⟩, hF⟩, st⟩ | ⟨q, st₀, t, T', L, E, ce, h0, X', hL, e1, e2, ⟨u, hp, hb, hF⟩, hce, hcv, hcl, st⟩
  · cases hv
    obtain ⟨k1, k2, k3⟩ := vx_keep h0 e1 hS hA hf hL hF
    obtain ⟨t2, a1, b1⟩ := kk r u t T'.heap (locs ++ L) e1.symm (by rw [← e2]; exact X'.warmed.alike) hp hb k1 k2 k3 T' rfl X'
    exact ⟨t2, st t2 a1, b1⟩
  · obtain ⟨k1, k2, k3⟩ := vx_keep h0 e1 hS hAX hf hL hF
    obtain ⟨t2, a1, b1⟩ := kx E ce q u t T'.heap (locs ++ L) e1.symm (by rw [← e2]; exact X'.warmed.alike) hp hb k1 k2 k3 (by rw [e1]; exact hce) hcv hcl T' rfl X'
    exact ⟨t2, st.trans a1, b1⟩
theorem vx_calll {S SX : Type} {post : Int64 → S → Prop} {px : SX → Prop} {B : S → State → Prop} {BX : String → SX → State → Prop} {AX : Nat → Prop} (hr : vx_Run p l e R s m args below meth c H locs cells slots mc ms (F0 m pc ls st0) rest (va_Ql post B A1 a) (vx_X px BX AX) free) (hS : va_S A0 H0 H locs) (hA : ∀ q, q < H.size → A1 q → A0 q) (hf : ∀ q, free q → A0 q) (hAX : ∀ q, q < H.size → AX q → A0 q)
    (kx : ∀ (E : String) (ce : Cell) (q9 : Addr) (u : SX) (t : State) (H1 : Heap) (locs1 : List Loc), t.heap = H1 → s.vm.Alike t.vm → px u → BX E u t → H.size ≤ H1.size → (∀ q : Nat, q < H.size → ¬ AX q → H1[q]? = H[q]?) → va_S A0 H0 H1 locs1 → H1[q9]? = some ce → ce.vm = .none → s.vm.findClass E = some ce.cls → vx_W p l e R s m args below meth c H1 locs1 (cells + mc) (slots + ms) Q (F0 m pc ls rest) q9)
    (kk : ∀ (r : Int64) (u : S) (t : State) (H1 : Heap) (locs1 : List Loc), t.heap = H1 → s.vm.Alike t.vm → post r u → B u t → H.size ≤ H1.size → (∀ q : Nat, q < H.size → ¬ A1 q → H1[q]? = H[q]?) → va_S A0 H0 H1 locs1 → W p l e R s m args below meth c H1 locs1 (cells + mc) (slots + ms) Q (F0 m (pc + 3) ls (.long r :: rest))) : W p l e R s m args below meth c H locs cells slots Q (F0 m pc ls st0) := by
  intro T hT X
  rcases hr T hT X with ⟨v, st₀, t, T', L, h0, X', hL, e1, e2, ⟨⟨r, u, hv, hp, hb⟩, hF⟩, st⟩ | ⟨q, st₀, t, T', L, E, ce, h0, X', hL, e1, e2, ⟨u, hp, hb, hF⟩, hce, hcv, hcl, st⟩
  · cases hv
    obtain ⟨k1, k2, k3⟩ := vx_keep h0 e1 hS hA hf hL hF
    obtain ⟨t2, a1, b1⟩ := kk r u t T'.heap (locs ++ L) e1.symm (by rw [← e2]; exact X'.warmed.alike) hp hb k1 k2 k3 T' rfl X'
    exact ⟨t2, st t2 a1, b1⟩
  · obtain ⟨k1, k2, k3⟩ := vx_keep h0 e1 hS hAX hf hL hF
    obtain ⟨t2, a1, b1⟩ := kx E ce q u t T'.heap (locs ++ L) e1.symm (by rw [← e2]; exact X'.warmed.alike) hp hb k1 k2 k3 (by rw [e1]; exact hce) hcv hcl T' rfl X'
    exact ⟨t2, st.trans a1, b1⟩
theorem vx_callf {S SX : Type} {post : UInt32 → S → Prop} {px : SX → Prop} {B : S → State → Prop} {BX : String → SX → State → Prop} {AX : Nat → Prop} (hr : vx_Run p l e R s m args below meth c H locs cells slots mc ms (F0 m pc ls st0) rest (va_Qf post B A1 a) (vx_X px BX AX) free) (hS : va_S A0 H0 H locs) (hA : ∀ q, q < H.size → A1 q → A0 q) (hf : ∀ q, free q → A0 q) (hAX : ∀ q, q < H.size → AX q → A0 q)
    (kx : ∀ (E : String) (ce : Cell) (q9 : Addr) (u : SX) (t : State) (H1 : Heap) (locs1 : List Loc), t.heap = H1 → s.vm.Alike t.vm → px u → BX E u t → H.size ≤ H1.size → (∀ q : Nat, q < H.size → ¬ AX q → H1[q]? = H[q]?) → va_S A0 H0 H1 locs1 → H1[q9]? = some ce → ce.vm = .none → s.vm.findClass E = some ce.cls → vx_W p l e R s m args below meth c H1 locs1 (cells + mc) (slots + ms) Q (F0 m pc ls rest) q9)
    (kk : ∀ (r : UInt32) (u : S) (t : State) (H1 : Heap) (locs1 : List Loc), t.heap = H1 → s.vm.Alike t.vm → post r u → B u t → H.size ≤ H1.size → (∀ q : Nat, q < H.size → ¬ A1 q → H1[q]? = H[q]?) → va_S A0 H0 H1 locs1 → W p l e R s m args below meth c H1 locs1 (cells + mc) (slots + ms) Q (F0 m (pc + 3) ls (.float r :: rest))) : W p l e R s m args below meth c H locs cells slots Q (F0 m pc ls st0) := by
  intro T hT X
  rcases hr T hT X with ⟨v, st₀, t, T', L, h0, X', hL, e1, e2, ⟨⟨r, u, hv, hp, hb⟩, hF⟩, st⟩ | ⟨q, st₀, t, T', L, E, ce, h0, X', hL, e1, e2, ⟨u, hp, hb, hF⟩, hce, hcv, hcl, st⟩
  · cases hv
    obtain ⟨k1, k2, k3⟩ := vx_keep h0 e1 hS hA hf hL hF
    obtain ⟨t2, a1, b1⟩ := kk r u t T'.heap (locs ++ L) e1.symm (by rw [← e2]; exact X'.warmed.alike) hp hb k1 k2 k3 T' rfl X'
    exact ⟨t2, st t2 a1, b1⟩
  · obtain ⟨k1, k2, k3⟩ := vx_keep h0 e1 hS hAX hf hL hF
    obtain ⟨t2, a1, b1⟩ := kx E ce q u t T'.heap (locs ++ L) e1.symm (by rw [← e2]; exact X'.warmed.alike) hp hb k1 k2 k3 (by rw [e1]; exact hce) hcv hcl T' rfl X'
    exact ⟨t2, st.trans a1, b1⟩
theorem vx_calld {S SX : Type} {post : UInt64 → S → Prop} {px : SX → Prop} {B : S → State → Prop} {BX : String → SX → State → Prop} {AX : Nat → Prop} (hr : vx_Run p l e R s m args below meth c H locs cells slots mc ms (F0 m pc ls st0) rest (va_Qd post B A1 a) (vx_X px BX AX) free) (hS : va_S A0 H0 H locs) (hA : ∀ q, q < H.size → A1 q → A0 q) (hf : ∀ q, free q → A0 q) (hAX : ∀ q, q < H.size → AX q → A0 q)
    (kx : ∀ (E : String) (ce : Cell) (q9 : Addr) (u : SX) (t : State) (H1 : Heap) (locs1 : List Loc), t.heap = H1 → s.vm.Alike t.vm → px u → BX E u t → H.size ≤ H1.size → (∀ q : Nat, q < H.size → ¬ AX q → H1[q]? = H[q]?) → va_S A0 H0 H1 locs1 → H1[q9]? = some ce → ce.vm = .none → s.vm.findClass E = some ce.cls → vx_W p l e R s m args below meth c H1 locs1 (cells + mc) (slots + ms) Q (F0 m pc ls rest) q9)
    (kk : ∀ (r : UInt64) (u : S) (t : State) (H1 : Heap) (locs1 : List Loc), t.heap = H1 → s.vm.Alike t.vm → post r u → B u t → H.size ≤ H1.size → (∀ q : Nat, q < H.size → ¬ A1 q → H1[q]? = H[q]?) → va_S A0 H0 H1 locs1 → W p l e R s m args below meth c H1 locs1 (cells + mc) (slots + ms) Q (F0 m (pc + 3) ls (.double r :: rest))) : W p l e R s m args below meth c H locs cells slots Q (F0 m pc ls st0) := by
  intro T hT X
  rcases hr T hT X with ⟨v, st₀, t, T', L, h0, X', hL, e1, e2, ⟨⟨r, u, hv, hp, hb⟩, hF⟩, st⟩ | ⟨q, st₀, t, T', L, E, ce, h0, X', hL, e1, e2, ⟨u, hp, hb, hF⟩, hce, hcv, hcl, st⟩
  · cases hv
    obtain ⟨k1, k2, k3⟩ := vx_keep h0 e1 hS hA hf hL hF
    obtain ⟨t2, a1, b1⟩ := kk r u t T'.heap (locs ++ L) e1.symm (by rw [← e2]; exact X'.warmed.alike) hp hb k1 k2 k3 T' rfl X'
    exact ⟨t2, st t2 a1, b1⟩
  · obtain ⟨k1, k2, k3⟩ := vx_keep h0 e1 hS hAX hf hL hF
    obtain ⟨t2, a1, b1⟩ := kx E ce q u t T'.heap (locs ++ L) e1.symm (by rw [← e2]; exact X'.warmed.alike) hp hb k1 k2 k3 (by rw [e1]; exact hce) hcv hcl T' rfl X'
    exact ⟨t2, st.trans a1, b1⟩
theorem vx_callv {S SX : Type} {post : S → Prop} {px : SX → Prop} {B : S → State → Prop} {BX : String → SX → State → Prop} {AX : Nat → Prop} (hr : vx_Run p l e R s m args below meth c H locs cells slots mc ms (F0 m pc ls st0) rest (va_Qv post B A1 a) (vx_X px BX AX) free) (hS : va_S A0 H0 H locs) (hA : ∀ q, q < H.size → A1 q → A0 q) (hf : ∀ q, free q → A0 q) (hAX : ∀ q, q < H.size → AX q → A0 q)
    (kx : ∀ (E : String) (ce : Cell) (q9 : Addr) (u : SX) (t : State) (H1 : Heap) (locs1 : List Loc), t.heap = H1 → s.vm.Alike t.vm → px u → BX E u t → H.size ≤ H1.size → (∀ q : Nat, q < H.size → ¬ AX q → H1[q]? = H[q]?) → va_S A0 H0 H1 locs1 → H1[q9]? = some ce → ce.vm = .none → s.vm.findClass E = some ce.cls → vx_W p l e R s m args below meth c H1 locs1 (cells + mc) (slots + ms) Q (F0 m pc ls rest) q9)
    (kk : ∀ (u : S) (t : State) (H1 : Heap) (locs1 : List Loc), t.heap = H1 → s.vm.Alike t.vm → post u → B u t → H.size ≤ H1.size → (∀ q : Nat, q < H.size → ¬ A1 q → H1[q]? = H[q]?) → va_S A0 H0 H1 locs1 → W p l e R s m args below meth c H1 locs1 (cells + mc) (slots + ms) Q (F0 m (pc + 3) ls (rest))) : W p l e R s m args below meth c H locs cells slots Q (F0 m pc ls st0) := by
  intro T hT X
  rcases hr T hT X with ⟨v, st₀, t, T', L, h0, X', hL, e1, e2, ⟨⟨u, hv, hp, hb⟩, hF⟩, st⟩ | ⟨q, st₀, t, T', L, E, ce, h0, X', hL, e1, e2, ⟨u, hp, hb, hF⟩, hce, hcv, hcl, st⟩
  · cases hv
    obtain ⟨k1, k2, k3⟩ := vx_keep h0 e1 hS hA hf hL hF
    obtain ⟨t2, a1, b1⟩ := kk u t T'.heap (locs ++ L) e1.symm (by rw [← e2]; exact X'.warmed.alike) hp hb k1 k2 k3 T' rfl X'
    exact ⟨t2, st t2 a1, b1⟩
  · obtain ⟨k1, k2, k3⟩ := vx_keep h0 e1 hS hAX hf hL hF
    obtain ⟨t2, a1, b1⟩ := kx E ce q u t T'.heap (locs ++ L) e1.symm (by rw [← e2]; exact X'.warmed.alike) hp hb k1 k2 k3 (by rw [e1]; exact hce) hcv hcl T' rfl X'
    exact ⟨t2, st.trans a1, b1⟩
/-- caught by the row x of this method's table; the rows ahead don't take it -/
theorem vx_catch {own name : String} {E : String} {ce : Cell} {q : Addr} (hown : s.vm.findClass own = some m.cls) (pre : List ExceptionTableEntry) (x : ExceptionTableEntry) (suf : List ExceptionTableEntry) (hsplit : c.exceptionTable.toList = pre ++ x :: suf)
    (hpass : ∀ z ∈ pre, covers z pc = false ∨ (z.catchType ≠ 0 ∧ ∃ nm : String, (Cond.classLink own z.catchType nm).before args s = true ∧ va_Nc E nm s)) (hx : covers x pc = true) (h0 : x.catchType ≠ 0)
    (hlink : (Cond.classLink own x.catchType name).before args s = true) (hcast : (Cond.castable E name).before args s = true) (hcell : H[q]? = some ce) (hv : ce.vm = .none) (hcl : s.vm.findClass E = some ce.cls)
    (kk : W p l e R s m args below meth c H locs cells slots Q (F0 m x.handlerPc ls [.ref q])) : vx_W p l e R s m args below meth c H locs cells slots Q (F0 m pc ls rest) q := by
  intro T hT X
  have hpl : e.platform.magicAccessors = ({} : Platform).magicAccessors := by rw [X.admits.platform]
  obtain ⟨c3, c4, hc3, hc4, hasg⟩ := Cond.castable_spec hcast
  cases Option.some.inj (hc3.symm.trans hcl)
  obtain ⟨c5, hc5, hcl5⟩ := Cond.classLink_spec hown hlink e.platform hpl
  cases Option.some.inj (hc4.symm.trans hc5)
  obtain ⟨vm', X', st⟩ := X.thenCaughtThrough q (g := F0 m pc ls rest) rfl (Steps.refl _) (by rw [hT]; exact hcell) (by rw [hv]; rfl) (by obtain ⟨k9, h9, -⟩ := Vm.findClass_spec hcl; exact ⟨k9, h9⟩) pre x suf hsplit
    (fun z hz => by
      rcases hpass z hz with h | ⟨hz0, nm, hl1, hn1⟩
      · exact Or.inl h
      · obtain ⟨c6, hc6, hcl6⟩ := Cond.classLink_spec hown hl1 e.platform hpl
        obtain ⟨a8, b8, h1, h2, h3⟩ := hn1
        cases Option.some.inj (h1.symm.trans hcl)
        cases Option.some.inj (h2.symm.trans hc6)
        exact Or.inr ⟨hz0, _, hcl6, h3⟩) hx (Or.inr ⟨h0, c4, hcl5, hasg⟩)
  obtain ⟨t, a1, b1⟩ := kk (T.setVm vm') hT X'
  exact ⟨t, st.trans a1, b1⟩
end Rows
section Ends
variable {p : Program} {l : Launch} {e : Env} {R : Room} {s : State} {m : MethodId} {args : Array Value} {below : List Frame} {meth : Method} {c : Code} {H : Heap} {locs : List Loc} {cells slots : Nat} {Q : State → Prop}
variable {mc ms : Nat} {free : Addr → Prop} {A0 A1 : Nat → Prop} {H0 : Heap} {a : Array Value} {ls : Array Slot} {st0 rest : List Value}
variable {Qc : Array Value → State → Outcome → State → Prop} {XC : String → State → State → Prop}
/-- what a body that may throw owes at its end -/
def vx_MQ (below : List Frame) (Qc : Array Value → State → Outcome → State → Prop) (XC : String → State → State → Prop) (a : Array Value) (s : State) (mc ms : Nat) (free : Addr → Prop) : State → Prop := fun t =>
  ∃ o, t.status = .running ∧ Ended t below o ∧ vx_Q Qc XC mc ms free a s o t
theorem vx_ret {g : JFrame} {mc ms : Nat} (k : W p l e R s m args below meth c H locs cells slots (MQ below Qc args s mc ms free) g) : W p l e R s m args below meth c H locs cells slots (vx_MQ below Qc XC args s mc ms free) g := by
  intro T hT X
  obtain ⟨t, a1, o, b1, b2, b3, b4⟩ := k T hT X
  exact ⟨t, a1, o, b1, b2, Or.inl ⟨b3, b4⟩⟩
/-- not caught here: it goes on to the caller -/
theorem vx_widen {g : JFrame} {q : Addr} {k n : Nat} (h1 : cells ≤ k) (h2 : slots ≤ n) (kk : vx_W p l e R s m args below meth c H locs k n Q g q) : vx_W p l e R s m args below meth c H locs cells slots Q g q := fun T hT X => kk T hT (stand_widen X h1 h2)
theorem vx_out {pc : Nat} {E : String} {ce : Cell} {q : Addr} {mc ms : Nat} (hout : ∀ x ∈ c.exceptionTable.toList, covers x pc = false) (hlocks : meth.locks = false) (hcell : H[q]? = some ce) (hv : ce.vm = .none) (hcl : s.vm.findClass E = some ce.cls)
    (hx : ∀ t : State, t.heap = H → s.vm.Alike t.vm → XC E s t) (hf : ∀ z ∈ locs, free z.base) (hc : cells ≤ mc) (hs : slots ≤ ms) :
    vx_W p l e R s m args below meth c H locs cells slots (vx_MQ below Qc XC args s mc ms free) (F0 m pc ls rest) q := by
  intro T hT X
  obtain ⟨st1, hrun, hend, hW, hsm⟩ := X.leaveThrown q (g := F0 m pc ls rest) rfl rfl rfl hout hlocks
  have hcell9 : (T.setFrames (.throwing q :: below)).heap[q]? = some ce := by
    show T.heap[q]? = some ce
    rw [hT]; exact hcell
  exact ⟨_, st1, .threw q, hrun, hend, Or.inr ⟨q, rfl, E, ce, locs, hx _ hT hW.alike, hcell9, hv, hcl, hW, hsm.mono hc hs, hf⟩⟩
theorem vx_frame {U : State} {k n : Nat} (h : s.sameButNew ({ U with vm := s.vm } : State) locs k n) : s.heap.size ≤ U.heap.size ∧ ∀ q : Nat, q < s.heap.size → (∀ z ∈ locs, z.base ≠ q) → U.heap[q]? = s.heap[q]? := by
  obtain ⟨-, h2, -, -, -, h6⟩ := h
  refine ⟨h2, fun q hq hz => ?_⟩
  obtain ⟨c9, e1, e2, e3, e4⟩ := h6 q _ (Array.getElem?_eq_getElem hq)
  have hs : c9.slots = (s.heap[q]).slots := Array.ext_getElem? fun i => e4 i fun hm => hz _ hm rfl
  have h9 : c9 = s.heap[q] := by
    rw [hs] at e2
    exact e2
  have e5 : U.heap[q]? = some c9 := e1
  rw [e5, h9, Array.getElem?_eq_getElem hq]
/-- the words of a throw but the four that speak of the heap -/
def vx_no (w : Cond) : Bool := decide (w ≠ .isRef (.static Bundle.tN "UNASSIGNED_STACK" Bundle.steD)) && decide (w ≠ .isRef (.static Bundle.tN "SUPPRESSED_SENTINEL" Bundle.listD)) && decide (w ≠ .laysStatic Bundle.tN "UNASSIGNED_STACK" Bundle.steD) && decide (w ≠ .laysStatic Bundle.tN "SUPPRESSED_SENTINEL" Bundle.listD)
def vx_at0 (own : String) (ic : Nat) (X : String) (names : List String) : List Cond := (Bundle.ownAtoms0 own ic X names).filter vx_no
def vx_atS (own : String) (ic : Nat) (X : String) (names : List String) : List Cond := (Bundle.ownAtoms own ic X names).filter vx_no
/-- a word that the tables alone decide, or a good one -/
def vx_ot (w : Cond) : Bool := w.onTables || goodWord w
theorem vx_ot_at {args a' : Array Value} {s U : State} {w : Cond} (hW : s.WarmedH U.vm) (hvm : s.vm = U.vm) (hg : vx_ot w = true) (h : w.before args s = true) : w.before a' U = true := by
  simp only [vx_ot, Bool.or_eq_true] at hg
  rcases hg with hg | hg
  · exact va_tabs hg hvm h
  · exact word_at hW (good_of_word hg) h
/-- a list's words: the good ones out of the method's own list, the others by premises of their own -/
theorem vx_hat {args : Array Value} {s : State} {L B : List Cond} (h1 : ∀ w ∈ L.filter goodWord, w.before args s = true) (h2 : ∀ w ∈ L.filter (fun w => !goodWord w), w ∈ B) (h3 : ∀ w ∈ B, w.before args s = true) : ∀ w ∈ L, w.before args s = true := by
  intro w hw
  by_cases g : goodWord w = true
  · exact h1 w (List.mem_filter.mpr ⟨hw, g⟩)
  · refine h3 w (h2 w (List.mem_filter.mpr ⟨hw, ?_⟩))
    show (!goodWord w) = true
    cases hgw : goodWord w
    · rfl
    · exact absurd hgw g
theorem vx_c {args : Array Value} {s : State} {w : Cond} {B : List Cond} (h : w.before args s = true) (t : ∀ w ∈ B, w.before args s = true) : ∀ w' ∈ w :: B, w'.before args s = true := fun w' h' => (List.mem_cons.mp h').elim (fun e => by rw [e]; exact h) (t w')
theorem vx_n {args : Array Value} {s : State} : ∀ w ∈ ([] : List Cond), w.before args s = true := fun _ h => nomatch h
theorem vx_own {args : Array Value} {s : State} {L : List Cond} (h1 : ∀ w ∈ L.filter vx_no, w.before args s = true)
    (hU : (Cond.isRef (.static Bundle.tN "UNASSIGNED_STACK" Bundle.steD)).before args s = true) (hN : (Cond.isRef (.static Bundle.tN "SUPPRESSED_SENTINEL" Bundle.listD)).before args s = true)
    (lU : (Cond.laysStatic Bundle.tN "UNASSIGNED_STACK" Bundle.steD).before args s = true) (lN : (Cond.laysStatic Bundle.tN "SUPPRESSED_SENTINEL" Bundle.listD).before args s = true) : ∀ w ∈ L, w.before args s = true := by
  intro w hw
  by_cases e1 : w = .isRef (.static Bundle.tN "UNASSIGNED_STACK" Bundle.steD)
  · rw [e1]; exact hU
  · by_cases e2 : w = .isRef (.static Bundle.tN "SUPPRESSED_SENTINEL" Bundle.listD)
    · rw [e2]; exact hN
    · by_cases e3 : w = .laysStatic Bundle.tN "UNASSIGNED_STACK" Bundle.steD
      · rw [e3]; exact lU
      · by_cases e4 : w = .laysStatic Bundle.tN "SUPPRESSED_SENTINEL" Bundle.listD
        · rw [e4]; exact lN
        · exact h1 w (List.mem_filter.mpr ⟨hw, by unfold vx_no; rw [decide_eq_true e1, decide_eq_true e2, decide_eq_true e3, decide_eq_true e4]; rfl⟩)
/-- where a static field lies, its class's statics cell in H -/
def vx_L (C n d : String) (A : Nat → Prop) (U : State) (H : Heap) : Prop := ∃ (c : ClassId) (k : Class) (i : Nat) (f : Field) (a : Nat) (cell : Cell), U.vm.findClass C = some c ∧ U.fieldFound? C n d = some (c, k, i, f) ∧ f.isStatic = true ∧ k.statics = some a ∧ H[a]? = some cell ∧ cell.vm.isStatics = true ∧ cell.cls = c ∧ f.slot < cell.slots.size ∧ k.staticTypes[f.slot]? = some f.type ∧ ¬ A a
theorem vx_L.moved {C n d : String} {A : Nat → Prop} {u U : State} {H : Heap} (hvm : u.vm.Alike U.vm) (h : vx_L C n d A u H) : vx_L C n d A U H := by
  obtain ⟨c, k, i, f, a, cell, h1, h2, h3, h4, h5, h6, h7, h8, h9, h10⟩ := h
  obtain ⟨k', hi', he⟩ := State.fieldFound?_setVm hvm h2
  exact ⟨c, k', i, f, a, cell, by rw [hvm.findClass]; exact h1, hi', h3, by rw [he]; exact h4, h5, h6, h7, h8, by rw [he]; exact h9, h10⟩
theorem vx_L.kept {C n d : String} {A : Nat → Prop} {U : State} {H H1 : Heap} (h : vx_L C n d A U H) (hq : ∀ a : Nat, a < H.size → ¬ A a → H1[a]? = H[a]?) : vx_L C n d A U H1 := by
  obtain ⟨c, k, i, f, a, cell, h1, h2, h3, h4, h5, h6, h7, h8, h9, h10⟩ := h
  exact ⟨c, k, i, f, a, cell, h1, h2, h3, h4, by rw [hq a (Array.getElem?_eq_some_iff.mp h5).1 h10]; exact h5, h6, h7, h8, h9, h10⟩
theorem vx_L.narrow {C n d : String} {A B : Nat → Prop} {U : State} {H : Heap} (h : vx_L C n d A U H) (hAB : ∀ q, B q → A q) : vx_L C n d B U H := by
  obtain ⟨c, k, i, f, a, cell, h1, h2, h3, h4, h5, h6, h7, h8, h9, h10⟩ := h
  exact ⟨c, k, i, f, a, cell, h1, h2, h3, h4, h5, h6, h7, h8, h9, fun z => h10 (hAB _ z)⟩
theorem vx_L.word {C n d : String} {A : Nat → Prop} {s : State} {args : Array Value} (h : vx_L C n d A s s.heap) : (Cond.laysStatic C n d).before args s = true := by
  obtain ⟨c, k, i, f, a, cell, h1, h2, h3, h4, h5, h6, h7, h8, h9, -⟩ := h
  show (Cond.laysStatic C n d).holds args s none s [] = true
  exact Cond.laysStatic_of h1 h2 h3 h4 h5 h6 h7 h8 h9
/-- .. and what it holds: null or some reference -/
def vx_Zq (C n d : String) (A : Nat → Prop) (U : State) (H : Heap) : Prop := va_Zq C n d A U H ∧ vx_L C n d A U H
theorem vx_Zq.moved {C n d : String} {A : Nat → Prop} {u U : State} {H : Heap} (hvm : u.vm.Alike U.vm) (h : vx_Zq C n d A u H) : vx_Zq C n d A U H := ⟨va_Zq.moved hvm h.1, vx_L.moved hvm h.2⟩
theorem vx_Zq.kept {C n d : String} {A : Nat → Prop} {U : State} {H H1 : Heap} (h : vx_Zq C n d A U H) (hq : ∀ a : Nat, a < H.size → ¬ A a → H1[a]? = H[a]?) : vx_Zq C n d A U H1 := ⟨va_Zq.kept h.1 hq, vx_L.kept h.2 hq⟩
theorem vx_Zq.narrow {C n d : String} {A B : Nat → Prop} {U : State} {H : Heap} (h : vx_Zq C n d A U H) (hAB : ∀ q, B q → A q) : vx_Zq C n d B U H := ⟨va_Zq.narrow h.1 hAB, vx_L.narrow h.2 hAB⟩
theorem vx_Zqof {args : Array Value} {s : State} {C n d : String} {A : Nat → Prop} (hl : (Cond.laysStatic C n d).before args s = true) (hini : (Cond.initialized C).before args s = true) (h : (Cond.isRef (.static C n d)).before args s = true) (hA : ∀ a : Nat, a < s.heap.size → ¬ A a) : vx_Zq C n d A s s.heap := by
  refine ⟨va_Zqof hl hini h hA, ?_⟩
  obtain ⟨c, k, i, f, a, cell, h1, h2, h3, h4, h5, h6, h7, h8, h9⟩ := Cond.laysStatic_spec hl
  exact ⟨c, k, i, f, a, cell, h1, h2, h3, h4, h5, h6, h7, h8, h9, hA a (Array.getElem?_eq_some_iff.mp h5).1⟩
theorem vx_isRef {C n d : String} {v : Value} {A : Nat → Prop} {s : State} {args : Array Value} (h : va_Z C n d v A s s.heap) (hv : v.isRef = true) : (Cond.isRef (.static C n d)).before args s = true := by
  obtain ⟨cf, kf, fi, f, a, cell, h1, h2, h3, h4, h5, h6, h7, -⟩ := h
  have he : (Term.static C n d).eval args s none [] s = some v := by
    simp [Term.eval, State.fieldNamed?, h1, h2, h4, h5, h6, h7]
  simp only [Cond.before, Cond.holds, Cond.value, he]
  cases v <;> simp_all [Value.isRef]
theorem vx_isRefq {C n d : String} {A : Nat → Prop} {s : State} {args : Array Value} (h : va_Zq C n d A s s.heap) : (Cond.isRef (.static C n d)).before args s = true := by
  rcases h with h | ⟨t, h⟩
  · exact vx_isRef h rfl
  · exact vx_isRef h rfl
/-- the same frame, seen from here: as if the method were called anew in this heap -/
theorem vx_rebase {T : State} (X : Stand p l e R s m args below meth c T locs cells slots) {R' : Room} (hf : R'.frames ≤ R.frames) (hl : R'.locals ≤ R.locals) (hc : cells + R'.cells ≤ R.cells) (hs : slots + R'.slots ≤ R.slots) :
    Stand p l e R' ((T.setVm s.vm).setFrames (.invoking m args :: below)) m args below meth c T [] 0 0 := by
  have htop : (T.setVm s.vm).topJava?.isSome := X.here.top
  have hF : ((T.setVm s.vm).setFrames (.invoking m args :: below)).frames = .invoking m args :: below := State.frames_setFrames _ (State.cur_lt_of_top htop)
  obtain ⟨g₀, hg0⟩ := Option.isSome_iff_exists.mp htop
  obtain ⟨r, hr⟩ := State.topJava?_eq_some.mp hg0
  have hl9 : e.platform.stackLimits (T.setVm s.vm).me = e.platform.stackLimits s.me := X.limits
  have hb9 : (T.setVm s.vm).me.stackBytes = s.me.stackBytes := X.bytes
  refine ⟨X.admits, X.cas, X.clock, hF, ?_, X.hears, X.method, X.code, X.here, X.tail, X.warmed, ?_, ?_, ?_⟩
  · have h := X.room
    have hU : ((T.setVm s.vm).setFrames (.invoking m args :: below)).localsInUse = s.localsInUse := by
      rw [State.localsInUse_invoking hF (meth := meth) (c := c) X.method X.code, State.localsInUse_invoking X.frames X.method X.code]
    simp only [State.hasRoom, Bool.and_eq_true, decide_eq_true_eq] at h ⊢
    obtain ⟨⟨⟨⟨h1, h2, h3, h4, h5, h6⟩, h7⟩, h8⟩, h9⟩ := h
    rw [X.frames, List.length_cons] at h2 h3
    have q1 := X.heapSize
    have q2 := X.used
    simp only [hF, hU, List.length_cons, State.stackLimits_setFrames, State.stackBytes_setFrames, hl9, hb9]
    refine ⟨⟨⟨⟨by omega, by omega, by omega, by omega, by omega, h6⟩, ?_⟩, ?_⟩, X.book⟩
    · show T.heap.size + R'.cells ≤ e.platform.maxCells
      omega
    · show T.slotsUsed + R'.slots ≤ e.platform.maxSlots
      omega
  · rw [State.stackLimits_setFrames]; rfl
  · rw [State.stackBytes_setFrames]; rfl
  · refine ⟨?_, Nat.le_refl _, Nat.le_refl _, ?_, ?_, fun a c9 h9 => ⟨c9, h9, rfl, rfl, fun _ _ => rfl⟩⟩
    · obtain ⟨t, ht, -⟩ := State.frames_cons hr
      show T.setVm s.vm = { ((T.setVm s.vm).setFrames (.invoking m args :: below)).setFrames (T.setVm s.vm).frames with heap := T.heap, slotsUsed := T.slotsUsed }
      rw [State.setFrames_setFrames, State.setFrames_self ht]
      rfl
    · show T.slotsUsed = T.slotsUsed + ((T.heap.toList.drop T.heap.size).map (·.slots.size)).sum
      rw [List.drop_eq_nil_of_le (Nat.le_of_eq Array.length_toList)]
      rfl
    · show ((T.heap.toList.drop T.heap.size).map (·.slots.size)).sum ≤ 0
      rw [List.drop_eq_nil_of_le (Nat.le_of_eq Array.length_toList)]
      exact Nat.le_refl _
/-- 'throw new E()': new; dup; invokespecial; athrow -/
theorem vx_throw0 {cc : ByteArray} {pc : Nat} (hexec : p.tables.exec = Jvm.exec) (hb : c.code = cc) (hl : l.stackTraces = false) {own cls : String} {names : List String} {ik ic mc ms : Nat} {A : Nat → Prop}
    (hown : s.vm.findClass own = some m.cls) (hcls : Bundle.fit cls = true) (hnames : ∀ n ∈ names, Bundle.fit n = true)
    (hk : (Cond.classLink own ik cls).before args s = true) (hini : (Cond.initialized cls).before args s = true) (hat : ∀ w ∈ vx_at0 own ic cls names, w.before args s = true)
    (hgood : ∀ w ∈ Cond.classLink own ik cls :: Cond.initialized cls :: vx_at0 own ic cls names, vx_ot w = true)
    (hU : vx_Zq Bundle.tN "UNASSIGNED_STACK" Bundle.steD A s s.heap) (hN : vx_Zq Bundle.tN "SUPPRESSED_SENTINEL" Bundle.listD A s s.heap) (hS : va_S A s.heap H locs) (hsize : ls.size = c.maxLocals)
    (d0 : decode cc pc = .ok (.new ik, 3)) (d3 : decode cc (pc + 3) = .ok (.dup, 1)) (d4 : decode cc (pc + 4) = .ok (.invokespecial ic, 3)) (d7 : decode cc (pc + 7) = .ok (.athrow, 1))
    (hout : ∀ x ∈ c.exceptionTable.toList, covers x (pc + 7) = false)
    (hRframes : names.length + 3 < R.frames) (hRlocals : (rest.map fun v => v.category).sum + (13 * (names.length + 1) + 42) ≤ R.locals) (hRcells : cells + 1 ≤ R.cells) (hRslots : slots + 6 ≤ R.slots) (hlocks : meth.locks = false)
    (hx : ∀ t : State, s.vm.Alike t.vm → H.size ≤ t.heap.size → (∀ q : Nat, q < H.size → t.heap[q]? = H[q]?) → XC cls s t)
    (hf : ∀ z ∈ locs, free z.base) (hc : cells + 1 ≤ mc) (hs : slots + 6 ≤ ms) :
    W p l e R s m args below meth c H locs cells slots (vx_MQ below Qc XC args s mc ms free) (F0 m pc ls rest) := by
  intro T hT X
  have htr : e.platform.stackTraces = false := (show e.platform.stackTraces = l.stackTraces by rw [X.admits.platform]).trans hl
  have Y := vx_rebase X (R' := { frames := R.frames, locals := R.locals, cells := 1, slots := 6 }) (Nat.le_refl _) (Nat.le_refl _) hRcells hRslots
  obtain ⟨s', hA⟩ : ∃ z, z = (T.setVm s.vm).setFrames (.invoking m args :: below) := ⟨_, rfl⟩
  rw [← hA] at Y
  have hvm : s'.vm = s.vm := by rw [hA]; rfl
  have hhp : s'.heap = H := by rw [hA]; exact hT
  have hW0 : s.WarmedH s'.vm := by rw [hvm]; exact State.WarmedH.refl s
  have hat' : ∀ w ∈ vx_at0 own ic cls names, w.before args s' = true := fun w hw => vx_ot_at hW0 hvm.symm (hgood w (List.mem_cons_of_mem _ (List.mem_cons_of_mem _ hw))) (hat w hw)
  have hk' : (Cond.classLink own ik cls).before args s' = true := vx_ot_at hW0 hvm.symm (hgood _ List.mem_cons_self) hk
  have hini' : (Cond.initialized cls).before args s' = true := vx_ot_at hW0 hvm.symm (hgood _ (List.mem_cons_of_mem _ List.mem_cons_self)) hini
  have hU' : vx_Zq Bundle.tN "UNASSIGNED_STACK" Bundle.steD A s' s'.heap := by rw [hhp]; exact vx_Zq.moved hW0.alike (hU.kept hS.2.1)
  have hN' : vx_Zq Bundle.tN "SUPPRESSED_SENTINEL" Bundle.listD A s' s'.heap := by rw [hhp]; exact vx_Zq.moved hW0.alike (hN.kept hS.2.1)
  have h : ∀ w ∈ Bundle.ownAtoms0 own ic cls names, w.before args s' = true := vx_own hat' (vx_isRefq hU'.1) (vx_isRefq hN'.1) hU'.2.word hN'.2.word
  have hown' : s'.vm.findClass own = some m.cls := by rw [hvm]; exact hown
  have hins : (Cond.instantiable cls 6).before args s' = true := h _ (by simp [Bundle.ownAtoms0])
  obtain ⟨vm₁, cX, kX, hfX, hkX, -, -, X₁, st1⟩ := Y.newCold hexec (own := own) (C := cls) (index := ik) (n := 6) hown' hk' hins hini'
    (g := F0 m pc ls rest) rfl (by rw [hb]; exact d0) (Nat.le_refl _) (Nat.le_refl _)
  generalize hT1 : (T.setVm vm₁).pushCell { cls := cX, slots := kX.instanceTypes.map defaultValue, vm := .none } = T1 at X₁ st1
  have hcat : (Value.ref T.heap.size).category = 1 := rfl
  have hcellA : T1.heap[T.heap.size]? = some (freshCell cX kX) := by rw [← hT1]; exact State.heap_pushCell_size _ _
  have d3' : decode c.code (pc + 3) = .ok (.dup, 1) := by rw [hb]; exact d3
  obtain ⟨U, hsteps, hrun, hend, hW, hsame, ce, hce, hO⟩ := X₁.ctorThrow0 hexec htr (own := own) (cls := cls) (names := names) (ic := ic) hown' hcls hnames h (fun x hx => nomatch hx) hfX hkX hcellA (by rw [hhp, hT]; exact Nat.le_refl _)
    (g := { method := m, pc := pc + 4, locals := ls, stack := .ref T.heap.size :: .ref T.heap.size :: rest, locked := none }) rfl hsize rfl rfl (rest := rest) rfl
    (by rw [hb]; exact d4) (by rw [hb]; exact d7) hout hRframes (by simp only [List.map_cons, List.sum_cons, hcat]; omega) hlocks
  obtain ⟨f1, f2⟩ := vx_frame hsame
  rw [hhp] at f1 f2
  have hWs : s.WarmedH U.vm := State.WarmedH.trans hW0 hW
  have hcl : s.vm.findClass cls = some ce.cls := by
    have h9 := hO.cls
    rw [hvm] at h9
    exact h9
  have hall : s.sameButNew ({ U with vm := s.vm } : State) locs mc ms := by
    subst hA
    obtain ⟨e1, e2⟩ := hsame
    rw [State.setFrames_setFrames] at e1
    have h2 : (T.setVm s.vm).sameButNew ({ U with vm := s.vm } : State) [] (0 + 1) (0 + 6) := ⟨e1, e2⟩
    have h3 := X.same.trans h2
    rw [List.append_nil] at h3
    exact h3.mono hc hs
  refine ⟨U, ?_, .threw T.heap.size, hrun, hend, Or.inr ⟨T.heap.size, rfl, cls, ce, locs, hx U hWs.alike f1 (fun q hq => f2 q hq (fun z hz => nomatch hz)), hce, hO.vm, hcl, hWs, hall, hf⟩⟩
  refine st1 _ ?_
  show Steps p.tables e below (T1.setTop { method := m, pc := pc + 3, locals := ls, stack := .ref T.heap.size :: rest, locked := none }) _
  jvm_step X₁.here [X₁.here.top, hexec, d3', Value.category]
  exact hsteps
/-- 'throw new E("text")': new; dup; ldc; invokespecial; athrow -/
theorem vx_throwS {cc : ByteArray} {pc : Nat} (hexec : p.tables.exec = Jvm.exec) (hb : c.code = cc) (hl : l.stackTraces = false) {own cls text : String} {names : List String} {ik is ic mc ms sa : Nat} {A : Nat → Prop}
    (hown : s.vm.findClass own = some m.cls) (hcls : Bundle.fit cls = true) (hnames : ∀ n ∈ names, Bundle.fit n = true)
    (hk : (Cond.classLink own ik cls).before args s = true) (hini : (Cond.initialized cls).before args s = true) (hstr : vk_R own is text sa s) (hat : ∀ w ∈ vx_atS own ic cls names, w.before args s = true)
    (hgood : ∀ w ∈ Cond.classLink own ik cls :: Cond.initialized cls :: vx_atS own ic cls names, vx_ot w = true)
    (hU : vx_Zq Bundle.tN "UNASSIGNED_STACK" Bundle.steD A s s.heap) (hN : vx_Zq Bundle.tN "SUPPRESSED_SENTINEL" Bundle.listD A s s.heap) (hS : va_S A s.heap H locs) (hsize : ls.size = c.maxLocals)
    (d0 : decode cc pc = .ok (.new ik, 3)) (d3 : decode cc (pc + 3) = .ok (.dup, 1)) (d4 : decode cc (pc + 4) = .ok (.ldc is, 2)) (d6 : decode cc (pc + 6) = .ok (.invokespecial ic, 3)) (d9 : decode cc (pc + 9) = .ok (.athrow, 1))
    (hout : ∀ x ∈ c.exceptionTable.toList, covers x (pc + 9) = false)
    (hRframes : names.length + 3 < R.frames) (hRlocals : (rest.map fun v => v.category).sum + (13 * (names.length + 1) + 43) ≤ R.locals) (hRcells : cells + 1 ≤ R.cells) (hRslots : slots + 6 ≤ R.slots) (hlocks : meth.locks = false)
    (hx : ∀ t : State, s.vm.Alike t.vm → H.size ≤ t.heap.size → (∀ q : Nat, q < H.size → t.heap[q]? = H[q]?) → XC cls s t)
    (hf : ∀ z ∈ locs, free z.base) (hc : cells + 1 ≤ mc) (hs : slots + 6 ≤ ms) :
    W p l e R s m args below meth c H locs cells slots (vx_MQ below Qc XC args s mc ms free) (F0 m pc ls rest) := by
  intro T hT X
  have htr : e.platform.stackTraces = false := (show e.platform.stackTraces = l.stackTraces by rw [X.admits.platform]).trans hl
  have Y := vx_rebase X (R' := { frames := R.frames, locals := R.locals, cells := 1, slots := 6 }) (Nat.le_refl _) (Nat.le_refl _) hRcells hRslots
  obtain ⟨s', hA⟩ : ∃ z, z = (T.setVm s.vm).setFrames (.invoking m args :: below) := ⟨_, rfl⟩
  rw [← hA] at Y
  have hvm : s'.vm = s.vm := by rw [hA]; rfl
  have hhp : s'.heap = H := by rw [hA]; exact hT
  have hW0 : s.WarmedH s'.vm := by rw [hvm]; exact State.WarmedH.refl s
  have hat' : ∀ w ∈ vx_atS own ic cls names, w.before args s' = true := fun w hw => vx_ot_at hW0 hvm.symm (hgood w (List.mem_cons_of_mem _ (List.mem_cons_of_mem _ hw))) (hat w hw)
  have hk' : (Cond.classLink own ik cls).before args s' = true := vx_ot_at hW0 hvm.symm (hgood _ List.mem_cons_self) hk
  have hini' : (Cond.initialized cls).before args s' = true := vx_ot_at hW0 hvm.symm (hgood _ (List.mem_cons_of_mem _ List.mem_cons_self)) hini
  have hU' : vx_Zq Bundle.tN "UNASSIGNED_STACK" Bundle.steD A s' s'.heap := by rw [hhp]; exact vx_Zq.moved hW0.alike (hU.kept hS.2.1)
  have hN' : vx_Zq Bundle.tN "SUPPRESSED_SENTINEL" Bundle.listD A s' s'.heap := by rw [hhp]; exact vx_Zq.moved hW0.alike (hN.kept hS.2.1)
  have h : ∀ w ∈ Bundle.ownAtoms own ic cls names, w.before args s' = true := vx_own hat' (vx_isRefq hU'.1) (vx_isRefq hN'.1) hU'.2.word hN'.2.word
  have hown' : s'.vm.findClass own = some m.cls := by rw [hvm]; exact hown
  have hins : (Cond.instantiable cls 6).before args s' = true := h _ (by simp [Bundle.ownAtoms])
  obtain ⟨vm₁, cX, kX, hfX, hkX, -, -, X₁, st1⟩ := Y.newCold hexec (own := own) (C := cls) (index := ik) (n := 6) hown' hk' hins hini'
    (g := F0 m pc ls rest) rfl (by rw [hb]; exact d0) (Nat.le_refl _) (Nat.le_refl _)
  generalize hT1 : (T.setVm vm₁).pushCell { cls := cX, slots := kX.instanceTypes.map defaultValue, vm := .none } = T1 at X₁ st1
  have hcat : (Value.ref T.heap.size).category = 1 := rfl
  have hcellA : T1.heap[T.heap.size]? = some (freshCell cX kX) := by rw [← hT1]; exact State.heap_pushCell_size _ _
  have d3' : decode c.code (pc + 3) = .ok (.dup, 1) := by rw [hb]; exact d3
  have d4' : decode c.code (pc + 4) = .ok (.ldc is, 2) := by rw [hb]; exact d4
  have hstr' : vk_R own is text sa s' := vk_R.warm hW0 hstr
  obtain ⟨U, hsteps, hrun, hend, hW, hsame, ce, hce, hO⟩ := X₁.ctorThrowS hexec htr (own := own) (cls := cls) (names := names) (ic := ic) hown' hcls hnames h (fun x hx => nomatch hx) hfX hkX hcellA (by rw [hhp, hT]; exact Nat.le_refl _) (msg := .ref sa) rfl
    (g := { method := m, pc := pc + 6, locals := ls, stack := .ref sa :: .ref T.heap.size :: .ref T.heap.size :: rest, locked := none }) rfl hsize rfl rfl (rest := rest) rfl
    (by rw [hb]; exact d6) (by rw [hb]; exact d9) hout hRframes (by simp only [List.map_cons, List.sum_cons, hcat]; omega) hlocks
  obtain ⟨f1, f2⟩ := vx_frame hsame
  rw [hhp] at f1 f2
  have hWs : s.WarmedH U.vm := State.WarmedH.trans hW0 hW
  have hcl : s.vm.findClass cls = some ce.cls := by
    have h9 := hO.cls
    rw [hvm] at h9
    exact h9
  have hall : s.sameButNew ({ U with vm := s.vm } : State) locs mc ms := by
    subst hA
    obtain ⟨e1, e2⟩ := hsame
    rw [State.setFrames_setFrames] at e1
    have h2 : (T.setVm s.vm).sameButNew ({ U with vm := s.vm } : State) [] (0 + 1) (0 + 6) := ⟨e1, e2⟩
    have h3 := X.same.trans h2
    rw [List.append_nil] at h3
    exact h3.mono hc hs
  refine ⟨U, ?_, .threw T.heap.size, hrun, hend, Or.inr ⟨T.heap.size, rfl, cls, ce, locs, hx U hWs.alike f1 (fun q hq => f2 q hq (fun z hz => nomatch hz)), hce, hO.vm, hcl, hWs, hall, hf⟩⟩
  refine st1 _ ?_
  show Steps p.tables e below (T1.setTop { method := m, pc := pc + 3, locals := ls, stack := .ref T.heap.size :: rest, locked := none }) _
  jvm_step X₁.here [X₁.here.top, hexec, d3', Value.category]
  exact X₁.ldcString hexec (own := own) (text := text) (index := is) (a := sa) hown' hstr'.1 hstr'.2
    (g := { method := m, pc := pc + 4, locals := ls, stack := .ref T.heap.size :: .ref T.heap.size :: rest, locked := none }) rfl d4' _ hsteps
/-- 'throw new E("text")', the text by a wide index -/
theorem vx_throwSW {cc : ByteArray} {pc : Nat} (hexec : p.tables.exec = Jvm.exec) (hb : c.code = cc) (hl : l.stackTraces = false) {own cls text : String} {names : List String} {ik is ic mc ms sa : Nat} {A : Nat → Prop}
    (hown : s.vm.findClass own = some m.cls) (hcls : Bundle.fit cls = true) (hnames : ∀ n ∈ names, Bundle.fit n = true)
    (hk : (Cond.classLink own ik cls).before args s = true) (hini : (Cond.initialized cls).before args s = true) (hstr : vk_R own is text sa s) (hat : ∀ w ∈ vx_atS own ic cls names, w.before args s = true)
    (hgood : ∀ w ∈ Cond.classLink own ik cls :: Cond.initialized cls :: vx_atS own ic cls names, vx_ot w = true)
    (hU : vx_Zq Bundle.tN "UNASSIGNED_STACK" Bundle.steD A s s.heap) (hN : vx_Zq Bundle.tN "SUPPRESSED_SENTINEL" Bundle.listD A s s.heap) (hS : va_S A s.heap H locs) (hsize : ls.size = c.maxLocals)
    (d0 : decode cc pc = .ok (.new ik, 3)) (d3 : decode cc (pc + 3) = .ok (.dup, 1)) (d4 : decode cc (pc + 4) = .ok (.ldc_w is, 3)) (d7 : decode cc (pc + 7) = .ok (.invokespecial ic, 3)) (d10 : decode cc (pc + 10) = .ok (.athrow, 1))
    (hout : ∀ x ∈ c.exceptionTable.toList, covers x (pc + 10) = false)
    (hRframes : names.length + 3 < R.frames) (hRlocals : (rest.map fun v => v.category).sum + (13 * (names.length + 1) + 43) ≤ R.locals) (hRcells : cells + 1 ≤ R.cells) (hRslots : slots + 6 ≤ R.slots) (hlocks : meth.locks = false)
    (hx : ∀ t : State, s.vm.Alike t.vm → H.size ≤ t.heap.size → (∀ q : Nat, q < H.size → t.heap[q]? = H[q]?) → XC cls s t)
    (hf : ∀ z ∈ locs, free z.base) (hc : cells + 1 ≤ mc) (hs : slots + 6 ≤ ms) :
    W p l e R s m args below meth c H locs cells slots (vx_MQ below Qc XC args s mc ms free) (F0 m pc ls rest) := by
  intro T hT X
  have htr : e.platform.stackTraces = false := (show e.platform.stackTraces = l.stackTraces by rw [X.admits.platform]).trans hl
  have Y := vx_rebase X (R' := { frames := R.frames, locals := R.locals, cells := 1, slots := 6 }) (Nat.le_refl _) (Nat.le_refl _) hRcells hRslots
  obtain ⟨s', hA⟩ : ∃ z, z = (T.setVm s.vm).setFrames (.invoking m args :: below) := ⟨_, rfl⟩
  rw [← hA] at Y
  have hvm : s'.vm = s.vm := by rw [hA]; rfl
  have hhp : s'.heap = H := by rw [hA]; exact hT
  have hW0 : s.WarmedH s'.vm := by rw [hvm]; exact State.WarmedH.refl s
  have hat' : ∀ w ∈ vx_atS own ic cls names, w.before args s' = true := fun w hw => vx_ot_at hW0 hvm.symm (hgood w (List.mem_cons_of_mem _ (List.mem_cons_of_mem _ hw))) (hat w hw)
  have hk' : (Cond.classLink own ik cls).before args s' = true := vx_ot_at hW0 hvm.symm (hgood _ List.mem_cons_self) hk
  have hini' : (Cond.initialized cls).before args s' = true := vx_ot_at hW0 hvm.symm (hgood _ (List.mem_cons_of_mem _ List.mem_cons_self)) hini
  have hU' : vx_Zq Bundle.tN "UNASSIGNED_STACK" Bundle.steD A s' s'.heap := by rw [hhp]; exact vx_Zq.moved hW0.alike (hU.kept hS.2.1)
  have hN' : vx_Zq Bundle.tN "SUPPRESSED_SENTINEL" Bundle.listD A s' s'.heap := by rw [hhp]; exact vx_Zq.moved hW0.alike (hN.kept hS.2.1)
  have h : ∀ w ∈ Bundle.ownAtoms own ic cls names, w.before args s' = true := vx_own hat' (vx_isRefq hU'.1) (vx_isRefq hN'.1) hU'.2.word hN'.2.word
  have hown' : s'.vm.findClass own = some m.cls := by rw [hvm]; exact hown
  have hins : (Cond.instantiable cls 6).before args s' = true := h _ (by simp [Bundle.ownAtoms])
  obtain ⟨vm₁, cX, kX, hfX, hkX, -, -, X₁, st1⟩ := Y.newCold hexec (own := own) (C := cls) (index := ik) (n := 6) hown' hk' hins hini'
    (g := F0 m pc ls rest) rfl (by rw [hb]; exact d0) (Nat.le_refl _) (Nat.le_refl _)
  generalize hT1 : (T.setVm vm₁).pushCell { cls := cX, slots := kX.instanceTypes.map defaultValue, vm := .none } = T1 at X₁ st1
  have hcat : (Value.ref T.heap.size).category = 1 := rfl
  have hcellA : T1.heap[T.heap.size]? = some (freshCell cX kX) := by rw [← hT1]; exact State.heap_pushCell_size _ _
  have d3' : decode c.code (pc + 3) = .ok (.dup, 1) := by rw [hb]; exact d3
  have d4' : decode c.code (pc + 4) = .ok (.ldc_w is, 3) := by rw [hb]; exact d4
  have hstr' : vk_R own is text sa s' := vk_R.warm hW0 hstr
  obtain ⟨U, hsteps, hrun, hend, hW, hsame, ce, hce, hO⟩ := X₁.ctorThrowS hexec htr (own := own) (cls := cls) (names := names) (ic := ic) hown' hcls hnames h (fun x hx => nomatch hx) hfX hkX hcellA (by rw [hhp, hT]; exact Nat.le_refl _) (msg := .ref sa) rfl
    (g := { method := m, pc := pc + 7, locals := ls, stack := .ref sa :: .ref T.heap.size :: .ref T.heap.size :: rest, locked := none }) rfl hsize rfl rfl (rest := rest) rfl
    (by rw [hb]; exact d7) (by rw [hb]; exact d10) hout hRframes (by simp only [List.map_cons, List.sum_cons, hcat]; omega) hlocks
  obtain ⟨f1, f2⟩ := vx_frame hsame
  rw [hhp] at f1 f2
  have hWs : s.WarmedH U.vm := State.WarmedH.trans hW0 hW
  have hcl : s.vm.findClass cls = some ce.cls := by
    have h9 := hO.cls
    rw [hvm] at h9
    exact h9
  have hall : s.sameButNew ({ U with vm := s.vm } : State) locs mc ms := by
    subst hA
    obtain ⟨e1, e2⟩ := hsame
    rw [State.setFrames_setFrames] at e1
    have h2 : (T.setVm s.vm).sameButNew ({ U with vm := s.vm } : State) [] (0 + 1) (0 + 6) := ⟨e1, e2⟩
    have h3 := X.same.trans h2
    rw [List.append_nil] at h3
    exact h3.mono hc hs
  refine ⟨U, ?_, .threw T.heap.size, hrun, hend, Or.inr ⟨T.heap.size, rfl, cls, ce, locs, hx U hWs.alike f1 (fun q hq => f2 q hq (fun z hz => nomatch hz)), hce, hO.vm, hcl, hWs, hall, hf⟩⟩
  refine st1 _ ?_
  show Steps p.tables e below (T1.setTop { method := m, pc := pc + 3, locals := ls, stack := .ref T.heap.size :: rest, locked := none }) _
  jvm_step X₁.here [X₁.here.top, hexec, d3', Value.category]
  exact X₁.ldcStringW hexec (own := own) (text := text) (index := is) (a := sa) hown' hstr'.1 hstr'.2
    (g := { method := m, pc := pc + 4, locals := ls, stack := .ref T.heap.size :: .ref T.heap.size :: rest, locked := none }) rfl d4' _ hsteps
end Ends
section Bodies
variable {l : Launch}
theorem vx_ofW {y : MethodName} {ws ws' : List Cond} {rm : Room} {Pc : Array Value → State → Prop} {Qc : Array Value → State → Outcome → State → Prop} {XC : String → State → State → Prop} {mc ms : Nat} {free : Addr → Prop} {cc : ByteArray} {maxL : Nat} {ret : Option FieldType}
    (hy : plainName y.cls = true) (hw : ws = Cond.code y cc maxL ret :: ws')
    (body : ∀ p e s m args below meth c s₁, BodyLoose p l y (headSpec ws rm) cc maxL ret e s m args below meth c s₁ → c.maxLocals = maxL → (∀ x ∈ c.exceptionTable.toList, False) → Pc args s →
      W p l e (headSpec ws rm).room s m args below meth c s.heap [] 0 0 (vx_MQ below Qc XC args s mc ms free) (entryFrame m args maxL)) : vx_Met l y ws rm Pc Qc XC mc ms free := by
  refine MetFree.of_bodyS (code := cc) (maxLocals := maxL) (ret := ret) hy ?_ ?_
  · intro args s m h hn
    obtain ⟨meth, c, h1, h2, h3, h4, h5, h6, -, -⟩ := Cond.code_spec hn (atoms_spec (ws := ws) h _ (by rw [hw]; exact List.mem_cons_self))
    exact ⟨meth, c, h1, h2, h3, h4, h5, h6⟩
  · intro p e s m args below meth c s₁ B hml hP _
    have hh0 : s₁.heap = s.heap := by rw [B.state]; rfl
    have ht : ∀ x ∈ c.exceptionTable.toList, False := by
      obtain ⟨meth9, c9, h1, h2, -, -, -, -, h7, -⟩ := Cond.code_spec B.named (atoms_spec (ws := ws) B.pre _ (by rw [hw]; exact List.mem_cons_self))
      cases Option.some.inj (h1.symm.trans B.method)
      cases Option.some.inj (h2.symm.trans (Stand.of_body B).code)
      intro x hx
      rw [Array.isEmpty_iff.mp h7] at hx
      cases hx
    obtain ⟨t, a1, o, b1, b2, b3⟩ := body p e s m args below meth c s₁ B hml ht hP s₁ hh0 (Stand.of_body B)
    exact ⟨t, o, a1, b1, b2, b3⟩
/-- the table of a body with handlers -/
theorem vx_table {p : Program} {x y : MethodName} {S : Spec} {cc bytes : ByteArray} {maxL maxL' : Nat} {ret ret' : Option FieldType} {e : Env} {s s₁ : State} {m : MethodId} {args : Array Value} {below : List Frame} {meth : Method} {c : Code} {hh : List (Nat × Nat × Nat × Nat)}
    (B : BodyLoose p l y S cc maxL ret e s m args below meth c s₁) (h : (Cond.codeWith y bytes maxL' ret' hh).before args s = true) : c.exceptionTable.toList = tableOf hh := by
  obtain ⟨m9, meth9, c9, hn9, h1, h2, -, -, h6, -⟩ := Cond.codeWith_spec h
  cases Option.some.inj (hn9.symm.trans B.named)
  cases Option.some.inj (h1.symm.trans B.method)
  cases Option.some.inj (h2.symm.trans (Stand.of_body B).code)
  rw [← h6, table_eq]
end Bodies
end VXA
/-! ===== END ===== -/
/-! ===== BEGIN a static call of a method with an exception table ===== -/
section VXS
variable {p : Program} {l : Launch} {e : Env} {R : Room} {s : State} {m : MethodId} {args : Array Value} {below : List Frame} {meth : Method} {c : Code} {T : State} {H : Heap} {locs : List Loc} {cells slots : Nat}
abbrev vx_CSW (R : Room) (s : State) (args : Array Value) (own : String) (index : Nat) (y : MethodName) (bytes : ByteArray) (maxL : Nat) (ret : Option FieldType) (hh : List (Nat × Nat × Nat × Nat)) (ws : List Cond) (rm : Room) (mc ms n : Nat) : Prop :=
  (rm.cells = mc ∧ rm.slots = ms ∧ rm.frames + 1 ≤ R.frames ∧ 8 + (maxL + 11) + rm.locals ≤ R.locals ∧ (∀ w ∈ ws, ∀ (a' : Array Value) (U : State), s.WarmedH U.vm → w.before a' U = true) ∧ Cond.codeWith y bytes maxL ret hh ∈ ws) ∧
  (Cond.codeWith y bytes maxL ret hh).before args s = true ∧ (Cond.initialized y.cls).before args s = true ∧ (y.cls ≠ "java/lang/invoke/MethodHandle" ∧ y.cls ≠ "java/lang/invoke/VarHandle") ∧
  (∀ sig, parseMethodDescriptor y.desc = some sig → n = sig.parameters.length) ∧ (Cond.methodLink own index y).before args s = true ∧ (Cond.static y).before args s = true
theorem vx_cwSW {own : String} {index maxL mc ms : Nat} {y : MethodName} {bytes : ByteArray} {ret : Option FieldType} {hh : List (Nat × Nat × Nat × Nat)} {Ts ws ws' : List Cond} {rm : Room} (n : Nat) (ht : ∀ w ∈ Ts, w.before args s = true) (hT : GoodIn Ts (va_wsS own index y ws)) (hw : ws = Cond.codeWith y bytes maxL ret hh :: ws') (hrc : rm.cells = mc) (hrs : rm.slots = ms)
    (hd : y.cls ≠ "java/lang/invoke/MethodHandle" ∧ y.cls ≠ "java/lang/invoke/VarHandle" ∧ (parseMethodDescriptor y.desc).map (fun d => d.parameters.length) = some n) (hR : rm.frames + 1 ≤ R.frames ∧ 8 + (maxL + 11) + rm.locals ≤ R.locals) :
    vx_CSW R s args own index y bytes maxL ret hh ws rm mc ms n := by
  have ok : ∀ w ∈ va_wsS own index y ws, w.before args s = true := fun w h => ht w (hT w h).1
  have hG : GoodIn Ts ws := fun w h => hT w (by unfold va_wsS; exact List.mem_append_right _ h)
  have hc : Cond.codeWith y bytes maxL ret hh ∈ ws := by rw [hw]; exact List.mem_cons_self
  refine ⟨⟨hrc, hrs, hR.1, hR.2, pay_in ht hG, hc⟩, ht _ (hG _ hc).1, ok _ (by simp [va_wsS]), ⟨hd.1, hd.2.1⟩, fun sig h => ?_, ok _ (by simp [va_wsS]), ok _ (by simp [va_wsS])⟩
  have h2 := hd.2.2
  rw [h] at h2
  exact (Option.some.inj h2).symm
theorem vx_callSW (X : Stand p l e R s m args below meth c T locs cells slots) (hexec : p.tables.exec = Jvm.exec) {own : String} {index : Nat} {y : MethodName} {bytes : ByteArray} {maxL : Nat} {ret : Option FieldType} {hh : List (Nat × Nat × Nat × Nat)}
    (hown : s.vm.findClass own = some m.cls) (hlink : (Cond.methodLink own index y).before args s = true) (hstat : (Cond.static y).before args s = true) (hinit : (Cond.initialized y.cls).before args s = true)
    (hcode : (Cond.codeWith y bytes maxL ret hh).before args s = true) (hy : y.cls ≠ "java/lang/invoke/MethodHandle" ∧ y.cls ≠ "java/lang/invoke/VarHandle")
    {W9 : Nat} {Pre : Pt → Array Value → Prop} {Post : Pt → Array Value → Option Value → Pt → Prop} (hK : Back l R p e below s args y 3 W9 Pre Post)
    {g : JFrame} (hg : g.method = m) (hsize : g.locals.size = c.maxLocals) {argsL rest : List Value} (hlen : ∀ sig, parseMethodDescriptor y.desc = some sig → argsL.length = sig.parameters.length)
    (hstack : g.stack = argsL.reverse ++ rest) (hW : 2 * g.monitorRoom + (rest.map fun v => v.category).sum ≤ W9) (hdg : decode c.code g.pc = .ok (.invokestatic index, 3))
    (hpre : ∀ vm₁, s.WarmedH vm₁ → Pre ⟨T.setVm vm₁, locs, cells, slots⟩ argsL.toArray) :
    ∃ (v : Option Value) (vm₁ : Vm) (B : Pt), s.WarmedH vm₁ ∧ Stand p l e R s m args below meth c B.U B.locs B.cells B.slots ∧ Post ⟨T.setVm vm₁, locs, cells, slots⟩ argsL.toArray v B ∧
      ∀ target, Steps p.tables e below (B.U.setTop { g with pc := g.pc + 3, stack := v.toList ++ rest }) target → Steps p.tables e below (T.setTop g) target := by
  obtain ⟨mk, methM, cM, hnamed, hmethM, -, -, -, -, -, -, hsigM⟩ := Cond.codeWith_spec hcode
  have hstatic : methM.isStatic = true := Cond.static_spec hnamed hmethM hstat
  obtain ⟨kP, hkP, -⟩ := className_of_methodNamed hnamed
  have hinitP : kP.init = .initialized := Cond.initialized_spec (findClass_of_methodNamed hnamed) hkP hinit
  obtain ⟨vm₁, X₁, hstep₁⟩ := X.invokestatic hexec hown hlink hnamed hmethM hstatic hkP hinitP hy (g := g) hg (argsL := argsL) (rest := rest) (hlen _ hsigM) hstack hdg
  obtain ⟨v, B, X', hpost, hsteps⟩ := hK m meth c ⟨T.setVm vm₁, locs, cells, slots⟩ { g with stack := rest } (.invokestatic index) mk argsL.toArray X₁ hg hsize hdg hW (X₁.named hnamed) (hpre vm₁ X₁.warmed)
  exact ⟨v, vm₁, B, X₁.warmed, X', hpost, fun target h => hstep₁ _ fun acts => by rw [doInvoke_state]; exact hsteps.trans h⟩
theorem vx_runSW {y : MethodName} {bytes cc : ByteArray} {maxL nL mc ms n index : Nat} {ret : Option FieldType} {hh : List (Nat × Nat × Nat × Nat)} {ws : List Cond} {rm : Room} {Pc : Array Value → State → Prop} {Qc : Array Value → State → Outcome → State → Prop} {free : Addr → Prop} {Ts : List Cond} {own : String} {As rest : List Value} {g : JFrame}
    (S : CallFix p m c cc nL s args Ts own) (hM : Met l y ws rm Pc Qc mc ms free) (cw : vx_CSW R s args own index y bytes maxL ret hh ws rm mc ms n) (hp : PreS s H Pc As)
    (hg : g.method = m) (hn : As.length = n) (hsize : g.locals.size = nL) (hstack : g.stack = As.reverse ++ rest) (hW : 2 * g.monitorRoom + (rest.map fun v => v.category).sum ≤ 8) (hdg : decode cc g.pc = .ok (.invokestatic index, 3)) (hf : cells + mc ≤ R.cells ∧ slots + ms ≤ R.slots) :
    va_Run p l e R s m args below meth c H locs cells slots mc ms g rest (Qc As.toArray) (free) := by
  obtain ⟨⟨hrc, hrs, hfr, hlo, hws, hcw⟩, hcode, hini, hy, hlen, hl, hstt⟩ := cw
  have hK : Back l R p e below s args y 3 8 (PreOf R mc ms Pc) (PostOf Qc mc ms free) := va_backW (hh := hh) (bytes := bytes) (maxL := maxL) (ret := ret) hM hp.1 hrc hrs hfr hlo hws hcw (fun a' U hW => word_at hW (Or.inl (by first | rfl | simp [Cond.onTables, Cond.keeps, Cond.steady])) hini)
  obtain ⟨hx, hb, hml, ho, -⟩ := S
  intro T hT X
  obtain ⟨v, vm₁, ⟨U', l2, c2, s2⟩, hW₁, X', ⟨g', mk, t, L, e1, e2, hq, h1, hL, h2, h3⟩, st⟩ := vx_callSW X hx (hh := hh) (bytes := bytes) (maxL := maxL) (ret := ret) ho hl hstt hini hcode hy hK hg (hsize.trans hml.symm) (argsL := As) (rest := rest) (fun sig h => hn.trans (hlen sig h)) hstack hW (by rw [hb]; exact hdg)
    (fun vm₁ hW₁ => ⟨hf.1, hf.2, hp.2 (T.setVm vm₁) hT hW₁⟩)
  dsimp only [Pt.U, Pt.locs, Pt.cells, Pt.slots] at X' e1 e2 h1 h2 h3 st
  subst h1; subst h2; subst h3
  exact ⟨v, (T.setVm vm₁).calling g' mk As.toArray, t, U', L, hT, X', hL, e1, e2, hq, st⟩
/-- not caught here, past rows that name other classes: it goes on to the caller -/
theorem vx_outP {p : Program} {l : Launch} {e : Env} {R : Room} {s : State} {m : MethodId} {args : Array Value} {below : List Frame} {meth : Method} {c : Code} {H : Heap} {locs : List Loc} {cells slots : Nat} {free : Addr → Prop} {ls : Array Slot} {rest : List Value} {Qc : Array Value → State → Outcome → State → Prop} {XC : String → State → State → Prop}
    {pc : Nat} {own E : String} {ce : Cell} {q : Addr} {mc ms : Nat} (hown : s.vm.findClass own = some m.cls) (hlocks : meth.locks = false)
    (hpass : ∀ z ∈ c.exceptionTable.toList, covers z pc = false ∨ (z.catchType ≠ 0 ∧ ∃ nm : String, (Cond.classLink own z.catchType nm).before args s = true ∧ va_Nc E nm s)) (hcell : H[q]? = some ce) (hv : ce.vm = .none) (hcl : s.vm.findClass E = some ce.cls)
    (hx : ∀ t : State, t.heap = H → s.vm.Alike t.vm → XC E s t) (hf : ∀ z ∈ locs, free z.base) (hc : cells ≤ mc) (hs : slots ≤ ms) :
    vx_W p l e R s m args below meth c H locs cells slots (vx_MQ below Qc XC args s mc ms free) (F0 m pc ls rest) q := by
  intro T hT X
  have hpl : e.platform.magicAccessors = ({} : Platform).magicAccessors := by rw [X.admits.platform]
  obtain ⟨vm', hW', X', st⟩ := X.outThrough hlocks q (g := F0 m pc ls rest) rfl rfl rfl (cell := ce) (by rw [hT]; exact hcell) (by rw [hv]; rfl)
    (by obtain ⟨k9, h9, -⟩ := Vm.findClass_spec hcl; exact ⟨k9, h9⟩) (fun z hz => by
      rcases hpass z hz with h | ⟨hz0, nm, hl1, hn1⟩
      · exact Or.inl h
      · obtain ⟨c6, hc6, hcl6⟩ := Cond.classLink_spec hown hl1 e.platform hpl
        obtain ⟨a8, b8, h1, h2, h3⟩ := hn1
        cases Option.some.inj (h1.symm.trans hcl)
        cases Option.some.inj (h2.symm.trans hc6)
        exact Or.inr ⟨hz0, _, hcl6, h3⟩)
  obtain ⟨g₀, hfr⟩ := X'.frames_eq
  have hcell9 : ((T.setVm vm').setFrames (.throwing q :: below)).heap[q]? = some ce := by
    show T.heap[q]? = some ce
    rw [hT]; exact hcell
  have hend : Ended ((T.setVm vm').setFrames (.throwing q :: below)) below (.threw q) := State.frames_setFrames _ (State.cur_lt_of_frames hfr)
  refine ⟨(T.setVm vm').setFrames (.throwing q :: below), ?_, .threw q, X'.here.running, hend, Or.inr ⟨q, rfl, E, ce, locs, hx _ hT (X'.ends _).1.alike, hcell9, hv, hcl, (X'.ends _).1, (X'.ends _).2.mono hc hs, hf⟩⟩
  rw [X.pushThrowing_eq]
  exact st
/-- a thing of a world lies in the heap -/
theorem vx_lt {D : va_G} {cl : List vw_C} {ws : va_W} {H1 : Heap} (h : va_P D cl ws H1) {k : Nat} {q : Nat × va_E} (hk : ws[k]? = some q) : q.1 < H1.size := (h k q hk).lt
end VXS
/-! ===== END ===== -/
/-! ===== BEGIN methods with a table of their own: called by a name, returning or throwing ===== -/
section VXH
/-! vx_backW, vx_callVX, vx_callSX, vx_callVW, vx_runVW, vx_runVX, vx_runSX, vx_ofWH follow the same proofs as their sisters above (Free/Laws.lean, Shelf42/LK1.lean); vx_outP calls Shelf42/NT130.lean (outThrough). -/
section
variable {l : Launch} {R : Room} {p : Program} {e : Env} {below : List Frame} {s : State} {sargs : Array Value} {y : MethodName} {len W9 : Nat}
theorem vx_backW {ws : List Cond} {rm : Room} {Pc : Array Value → State → Prop} {Qc : Array Value → State → Outcome → State → Prop} {XC : String → State → State → Prop} {mc ms : Nat} {free : Addr → Prop} {bytes : ByteArray} {maxL : Nat} {ret : Option FieldType} {hh : List (Nat × Nat × Nat × Nat)}
    (hM : vx_Met l y ws rm Pc Qc XC mc ms free) (hblind : FrameBlind Pc) (hrc : rm.cells = mc) (hrs : rm.slots = ms)
    (hframes : rm.frames + 1 ≤ R.frames) (hlocals : W9 + (maxL + 11) + rm.locals ≤ R.locals)
    (hws : ∀ w ∈ ws, ∀ a' U, s.WarmedH U.vm → w.before a' U = true) (hcode : Cond.codeWith y bytes maxL ret hh ∈ ws) (hinit : ∀ a' U, s.WarmedH U.vm → (Cond.initialized y.cls).before a' U = true) :
    vx_Back l R p e below s sargs y len W9 (PreOf R mc ms Pc) (PostOf Qc mc ms free) (vx_Post XC mc ms free) := by
  intro m meth c A g ig mk a X hg hsize hdg hW hn hp
  have h1 : (headSpec ws rm).pre.before a A.U = true := atoms_intro fun w hw => hws w hw _ _ X.warmed
  have h2 : (Cond.codeWith y bytes maxL ret hh).before a A.U = true := hws _ hcode _ _ X.warmed
  have h3 : (Cond.initialized y.cls).before a A.U = true := hinit _ _ X.warmed
  have h4 : A.cells + (headSpec ws rm).room.cells ≤ R.cells := by rw [show (headSpec ws rm).room.cells = mc from hrc]; exact hp.1
  have h5 : A.slots + (headSpec ws rm).room.slots ≤ R.slots := by rw [show (headSpec ws rm).room.slots = ms from hrs]; exact hp.2.1
  have hPc : Pc a (A.U.calling g mk a) := hblind _ _ _ _ hp.2.2
  obtain ⟨U, Ls, c0, s0⟩ := A
  dsimp only [Pt.U, Pt.locs, Pt.cells, Pt.slots] at h1 h2 h3 h4 h5 X hn hPc ⊢
  obtain ⟨m9, methY, cY, hn9, hmY, hcY, -, hlY, -⟩ := Cond.codeWith_spec h2
  cases Option.some.inj (hn9.symm.trans hn)
  obtain ⟨kY, hkY, -⟩ := className_of_methodNamed hn
  have hinitY : kY.init = .initialized := Cond.initialized_spec (findClass_of_methodNamed hn) hkY h3
  have h : At U g.method c below := by rw [hg]; exact X.here
  have hlocals9 : W9 + (maxL + 11) + (headSpec ws rm).room.locals ≤ R.locals := hlocals
  have happ : (headSpec ws rm).appliesLoose y e.platform (U.calling g mk a) = true :=
    Spec.appliesLoose_calling (g := g) h hdg hn hkY hinitY
      (X.room_calling (g := g) (R' := (headSpec ws rm).room) hsize hmY hcY hframes (by rw [hlY]; omega) h4 h5) h1
  obtain ⟨mid, hmid⟩ := h.above
  have hfr : (U.setTop g).frames = (.java g :: mid) ++ below := by rw [State.frames_setTop' g h.top, hmid]; rfl
  obtain ⟨o, s₂, hsteps, -, hend, hq⟩ := Steps.callFree hM p X.admits X.cas X.clock (acts := []) hfr happ hPc trivial
  have hq' : vx_Q Qc XC mc ms free a (U.calling g mk a) o s₂ := hq
  rw [State.frames_setTop' g h.top] at hend
  obtain ⟨g₀, hg0⟩ := Option.isSome_iff_exists.mp h.top
  obtain ⟨r, hr⟩ := State.topJava?_eq_some.mp hg0
  have hr' : (({ U with heap := s₂.heap, slotsUsed := s₂.slotsUsed } : State).setVm s₂.vm).frames = .java g₀ :: r := hr
  rcases hq' with ⟨hqc, L, hfe, hL⟩ | ⟨q, rfl, E, ce, L, hx, hce, hcv, hcl, hW₂, hsm, hL⟩
  · obtain ⟨⟨v, rfl⟩, hW₂, e2, q2, q3, q4, q5, q6⟩ := id hfe
    have e3 : s₂ = ({ (U.calling g mk a).setFrames s₂.frames with heap := s₂.heap, slotsUsed := s₂.slotsUsed } : State).setVm s₂.vm := by
      have : s₂ = ({ s₂ with vm := (U.calling g mk a).vm } : State).setVm s₂.vm := rfl
      rw [e2] at this
      exact this
    obtain ⟨c₂, i₂, len₂, hc₂, hd₂, hf₂⟩ := hend
    have hW' : U.WarmedH s₂.vm := hW₂
    have hcc : c₂ = c := by
      have h1 : s₂.code? g.method = U.code? g.method := by
        rw [State.code?_eq, State.code?_eq, hW'.alike.method?]
      exact Option.some.inj (hc₂.symm.trans (h1.trans h.code))
    subst hcc
    have hlen : len₂ = len := by rw [hdg] at hd₂; cases hd₂; rfl
    subst hlen
    have hs₂ : s₂ = (({ U with heap := s₂.heap, slotsUsed := s₂.slotsUsed } : State).setVm s₂.vm).setTop { g with pc := g.pc + len₂, stack := v.toList ++ g.stack } := by
      refine e3.trans ?_
      rw [hf₂, State.calling_eq h.top, State.setFrames_setFrames, State.setTop_of_frames _ hr', hr]
      rfl
    have hsame : U.sameButNew ({ U with heap := s₂.heap, slotsUsed := s₂.slotsUsed } : State) L mc ms := by
      refine ⟨?_, q2, q3, q4, q5, q6⟩
      obtain ⟨t, ht, -⟩ := State.frames_cons hr
      show ({ U with heap := s₂.heap, slotsUsed := s₂.slotsUsed } : State) = { U.setFrames U.frames with heap := s₂.heap, slotsUsed := s₂.slotsUsed }
      rw [State.setFrames_self ht]
    subst hg
    refine Or.inl ⟨v, ⟨(({ U with heap := s₂.heap, slotsUsed := s₂.slotsUsed } : State).setVm s₂.vm), Ls ++ L, c0 + mc, s0 + ms⟩,
      ⟨X.admits, X.cas, X.clock, X.frames, X.room, X.hears, X.method, X.code, (X.here.setHeapUsed s₂.heap s₂.slotsUsed).setVm hW'.alike, X.tail, State.WarmedH.trans X.warmed hW', X.limits, X.bytes, X.same.trans (hsame.setVm s.vm)⟩,
      ⟨g, mk, s₂, L, rfl, rfl, hqc, rfl, hL, rfl, rfl⟩, ?_⟩
    show Steps p.tables e below _ ((({ U with heap := s₂.heap, slotsUsed := s₂.slotsUsed } : State).setVm s₂.vm).setTop { g with pc := g.pc + len₂, stack := v.toList ++ g.stack })
    rw [← hs₂]
    exact hsteps
  · obtain ⟨e2, q2, q3, q4, q5, q6⟩ := id hsm
    have e3 : s₂ = ({ (U.calling g mk a).setFrames s₂.frames with heap := s₂.heap, slotsUsed := s₂.slotsUsed } : State).setVm s₂.vm := by
      have : s₂ = ({ s₂ with vm := (U.calling g mk a).vm } : State).setVm s₂.vm := rfl
      rw [e2] at this
      exact this
    have hf₂ : s₂.frames = .throwing q :: .java g :: U.frames.tail := hend
    have hW' : U.WarmedH s₂.vm := hW₂
    have hs₂ : s₂ = ((({ U with heap := s₂.heap, slotsUsed := s₂.slotsUsed } : State).setVm s₂.vm).setTop g).pushFrame (.throwing q) := by
      refine e3.trans ?_
      rw [hf₂, State.calling_eq h.top, State.setFrames_setFrames, State.pushFrame, State.frames_setTop _ hr', State.setTop_of_frames _ hr', State.setFrames_setFrames, hr]
      rfl
    have hsame : U.sameButNew ({ U with heap := s₂.heap, slotsUsed := s₂.slotsUsed } : State) L mc ms := by
      refine ⟨?_, q2, q3, q4, q5, q6⟩
      obtain ⟨t, ht, -⟩ := State.frames_cons hr
      show ({ U with heap := s₂.heap, slotsUsed := s₂.slotsUsed } : State) = { U.setFrames U.frames with heap := s₂.heap, slotsUsed := s₂.slotsUsed }
      rw [State.setFrames_self ht]
    subst hg
    refine Or.inr ⟨q, ⟨(({ U with heap := s₂.heap, slotsUsed := s₂.slotsUsed } : State).setVm s₂.vm), Ls ++ L, c0 + mc, s0 + ms⟩,
      ⟨X.admits, X.cas, X.clock, X.frames, X.room, X.hears, X.method, X.code, (X.here.setHeapUsed s₂.heap s₂.slotsUsed).setVm hW'.alike, X.tail, State.WarmedH.trans X.warmed hW', X.limits, X.bytes, X.same.trans (hsame.setVm s.vm)⟩,
      ⟨g, mk, s₂, L, E, ce, rfl, rfl, hx, hce, hcv, hcl, rfl, hL, rfl, rfl⟩, ?_⟩
    show Steps p.tables e below _ (((({ U with heap := s₂.heap, slotsUsed := s₂.slotsUsed } : State).setVm s₂.vm).setTop g).pushFrame (.throwing q))
    rw [← hs₂]
    exact hsteps
end
variable {p : Program} {l : Launch} {e : Env} {R : Room} {s : State} {m : MethodId} {args : Array Value} {below : List Frame} {meth : Method} {c : Code} {T : State} {H : Heap} {locs : List Loc} {cells slots : Nat}
theorem vx_callVX (X : Stand p l e R s m args below meth c T locs cells slots) (hexec : p.tables.exec = Jvm.exec) {own C : String} {index : Nat} {y : MethodName} {bytes : ByteArray} {maxL : Nat} {ret : Option FieldType} {hh : List (Nat × Nat × Nat × Nat)}
    (hown : s.vm.findClass own = some m.cls) (hlink : (Cond.methodLink own index y).before args s = true) (hinst : (Cond.instanceMethod y).before args s = true) (hsel : (Cond.selects C y y).before args s = true)
    (hcode : (Cond.codeWith y bytes maxL ret hh).before args s = true) (hy : y.cls ≠ "java/lang/invoke/MethodHandle" ∧ y.cls ≠ "java/lang/invoke/VarHandle")
    {W9 : Nat} {Pre : Pt → Array Value → Prop} {Post : Pt → Array Value → Option Value → Pt → Prop} {PostX : Pt → Array Value → Addr → Pt → Prop} (hK : vx_Back l R p e below s args y 3 W9 Pre Post PostX)
    {b : Addr} {cellB : Cell} (hcell : T.heap[b]? = some cellB) (hobj : cellB.vm.isStatics = false) (hcls : s.vm.findClass C = some cellB.cls)
    {g : JFrame} (hg : g.method = m) (hsize : g.locals.size = c.maxLocals) {argsL rest : List Value} (hlen : ∀ sig, parseMethodDescriptor y.desc = some sig → argsL.length = sig.parameters.length)
    (hstack : g.stack = argsL.reverse ++ .ref b :: rest) (hW : 2 * g.monitorRoom + (rest.map fun v => v.category).sum ≤ W9) (hdg : decode c.code g.pc = .ok (.invokevirtual index, 3))
    (hpre : ∀ vm₁, s.WarmedH vm₁ → Pre ⟨T.setVm vm₁, locs, cells, slots⟩ (Value.ref b :: argsL).toArray) :
    (∃ (v : Option Value) (vm₁ : Vm) (B : Pt), s.WarmedH vm₁ ∧ Stand p l e R s m args below meth c B.U B.locs B.cells B.slots ∧ Post ⟨T.setVm vm₁, locs, cells, slots⟩ (Value.ref b :: argsL).toArray v B ∧
      ∀ target, Steps p.tables e below (B.U.setTop { g with pc := g.pc + 3, stack := v.toList ++ rest }) target → Steps p.tables e below (T.setTop g) target) ∨
    (∃ (q : Addr) (vm₁ : Vm) (B : Pt), s.WarmedH vm₁ ∧ Stand p l e R s m args below meth c B.U B.locs B.cells B.slots ∧ PostX ⟨T.setVm vm₁, locs, cells, slots⟩ (Value.ref b :: argsL).toArray q B ∧
      Steps p.tables e below (T.setTop g) ((B.U.setTop { g with stack := rest }).pushFrame (.throwing q))) := by
  obtain ⟨mk, methM, hnamed, hmethM, hstM, habM⟩ := Cond.instanceMethod_spec hinst
  obtain ⟨m8, methM', cM, hn8, hmethM', -, -, -, -, -, -, hsigM⟩ := Cond.codeWith_spec hcode
  cases Option.some.inj (hn8.symm.trans hnamed)
  cases hmethM.symm.trans hmethM'
  obtain ⟨c2, r2, m2, q1, q2, q3, q4, kP, hkP, hkPi⟩ := Cond.selects_spec hsel
  cases hcls.symm.trans q1
  cases (State.methodFound?_of_named hnamed hy).symm.trans q2
  cases hnamed.symm.trans q3
  have hselP : selectMethod e.platform s.vm cellB.cls mk = .method mk := by rw [Launch.admits_selectMethod X.admits]; exact q4
  obtain ⟨vm₁, X₁, hstep₁⟩ := X.invokevirtual hexec hown hlink hnamed hmethM hstM hkP hkPi hy (a := b) (cell := cellB) hcell
    (fun z h => by rw [h] at hobj; cases hobj) hselP hmethM habM hkP hkPi (g := g) hg (argsL := argsL) (rest := rest) (hlen _ hsigM) hstack hdg
  rcases hK m meth c ⟨T.setVm vm₁, locs, cells, slots⟩ { g with stack := rest } (.invokevirtual index) mk (Value.ref b :: argsL).toArray X₁ hg hsize hdg hW (X₁.named hnamed) (hpre vm₁ X₁.warmed) with ⟨v, B, X', hpost, hsteps⟩ | ⟨q, B, X', hpost, hsteps⟩
  · exact Or.inl ⟨v, vm₁, B, X₁.warmed, X', hpost, fun target h => hstep₁ _ fun acts => by rw [doInvoke_state]; exact hsteps.trans h⟩
  · exact Or.inr ⟨q, vm₁, B, X₁.warmed, X', hpost, hstep₁ _ fun acts => by rw [doInvoke_state]; exact hsteps⟩
theorem vx_callSX (X : Stand p l e R s m args below meth c T locs cells slots) (hexec : p.tables.exec = Jvm.exec) {own : String} {index : Nat} {y : MethodName} {bytes : ByteArray} {maxL : Nat} {ret : Option FieldType} {hh : List (Nat × Nat × Nat × Nat)}
    (hown : s.vm.findClass own = some m.cls) (hlink : (Cond.methodLink own index y).before args s = true) (hstat : (Cond.static y).before args s = true) (hinit : (Cond.initialized y.cls).before args s = true)
    (hcode : (Cond.codeWith y bytes maxL ret hh).before args s = true) (hy : y.cls ≠ "java/lang/invoke/MethodHandle" ∧ y.cls ≠ "java/lang/invoke/VarHandle")
    {W9 : Nat} {Pre : Pt → Array Value → Prop} {Post : Pt → Array Value → Option Value → Pt → Prop} {PostX : Pt → Array Value → Addr → Pt → Prop} (hK : vx_Back l R p e below s args y 3 W9 Pre Post PostX)
    {g : JFrame} (hg : g.method = m) (hsize : g.locals.size = c.maxLocals) {argsL rest : List Value} (hlen : ∀ sig, parseMethodDescriptor y.desc = some sig → argsL.length = sig.parameters.length)
    (hstack : g.stack = argsL.reverse ++ rest) (hW : 2 * g.monitorRoom + (rest.map fun v => v.category).sum ≤ W9) (hdg : decode c.code g.pc = .ok (.invokestatic index, 3))
    (hpre : ∀ vm₁, s.WarmedH vm₁ → Pre ⟨T.setVm vm₁, locs, cells, slots⟩ argsL.toArray) :
    (∃ (v : Option Value) (vm₁ : Vm) (B : Pt), s.WarmedH vm₁ ∧ Stand p l e R s m args below meth c B.U B.locs B.cells B.slots ∧ Post ⟨T.setVm vm₁, locs, cells, slots⟩ argsL.toArray v B ∧
      ∀ target, Steps p.tables e below (B.U.setTop { g with pc := g.pc + 3, stack := v.toList ++ rest }) target → Steps p.tables e below (T.setTop g) target) ∨
    (∃ (q : Addr) (vm₁ : Vm) (B : Pt), s.WarmedH vm₁ ∧ Stand p l e R s m args below meth c B.U B.locs B.cells B.slots ∧ PostX ⟨T.setVm vm₁, locs, cells, slots⟩ argsL.toArray q B ∧
      Steps p.tables e below (T.setTop g) ((B.U.setTop { g with stack := rest }).pushFrame (.throwing q))) := by
  obtain ⟨mk, methM, cM, hnamed, hmethM, -, -, -, -, -, -, hsigM⟩ := Cond.codeWith_spec hcode
  have hstatic : methM.isStatic = true := Cond.static_spec hnamed hmethM hstat
  obtain ⟨kP, hkP, -⟩ := className_of_methodNamed hnamed
  have hinitP : kP.init = .initialized := Cond.initialized_spec (findClass_of_methodNamed hnamed) hkP hinit
  obtain ⟨vm₁, X₁, hstep₁⟩ := X.invokestatic hexec hown hlink hnamed hmethM hstatic hkP hinitP hy (g := g) hg (argsL := argsL) (rest := rest) (hlen _ hsigM) hstack hdg
  rcases hK m meth c ⟨T.setVm vm₁, locs, cells, slots⟩ { g with stack := rest } (.invokestatic index) mk argsL.toArray X₁ hg hsize hdg hW (X₁.named hnamed) (hpre vm₁ X₁.warmed) with ⟨v, B, X', hpost, hsteps⟩ | ⟨q, B, X', hpost, hsteps⟩
  · exact Or.inl ⟨v, vm₁, B, X₁.warmed, X', hpost, fun target h => hstep₁ _ fun acts => by rw [doInvoke_state]; exact hsteps.trans h⟩
  · exact Or.inr ⟨q, vm₁, B, X₁.warmed, X', hpost, hstep₁ _ fun acts => by rw [doInvoke_state]; exact hsteps⟩
theorem vx_callVW (X : Stand p l e R s m args below meth c T locs cells slots) (hexec : p.tables.exec = Jvm.exec) {own C : String} {index : Nat} {y : MethodName} {bytes : ByteArray} {maxL : Nat} {ret : Option FieldType} {hh : List (Nat × Nat × Nat × Nat)}
    (hown : s.vm.findClass own = some m.cls) (hlink : (Cond.methodLink own index y).before args s = true) (hinst : (Cond.instanceMethod y).before args s = true) (hsel : (Cond.selects C y y).before args s = true)
    (hcode : (Cond.codeWith y bytes maxL ret hh).before args s = true) (hy : y.cls ≠ "java/lang/invoke/MethodHandle" ∧ y.cls ≠ "java/lang/invoke/VarHandle")
    {W9 : Nat} {Pre : Pt → Array Value → Prop} {Post : Pt → Array Value → Option Value → Pt → Prop} (hK : Back l R p e below s args y 3 W9 Pre Post)
    {b : Addr} {cellB : Cell} (hcell : T.heap[b]? = some cellB) (hobj : cellB.vm.isStatics = false) (hcls : s.vm.findClass C = some cellB.cls)
    {g : JFrame} (hg : g.method = m) (hsize : g.locals.size = c.maxLocals) {argsL rest : List Value} (hlen : ∀ sig, parseMethodDescriptor y.desc = some sig → argsL.length = sig.parameters.length)
    (hstack : g.stack = argsL.reverse ++ .ref b :: rest) (hW : 2 * g.monitorRoom + (rest.map fun v => v.category).sum ≤ W9) (hdg : decode c.code g.pc = .ok (.invokevirtual index, 3))
    (hpre : ∀ vm₁, s.WarmedH vm₁ → Pre ⟨T.setVm vm₁, locs, cells, slots⟩ (Value.ref b :: argsL).toArray) :
    ∃ (v : Option Value) (vm₁ : Vm) (B : Pt), s.WarmedH vm₁ ∧ Stand p l e R s m args below meth c B.U B.locs B.cells B.slots ∧ Post ⟨T.setVm vm₁, locs, cells, slots⟩ (Value.ref b :: argsL).toArray v B ∧
      ∀ target, Steps p.tables e below (B.U.setTop { g with pc := g.pc + 3, stack := v.toList ++ rest }) target → Steps p.tables e below (T.setTop g) target := by
  obtain ⟨mk, methM, hnamed, hmethM, hstM, habM⟩ := Cond.instanceMethod_spec hinst
  obtain ⟨m8, methM', cM, hn8, hmethM', -, -, -, -, -, -, hsigM⟩ := Cond.codeWith_spec hcode
  cases Option.some.inj (hn8.symm.trans hnamed)
  cases hmethM.symm.trans hmethM'
  obtain ⟨c2, r2, m2, q1, q2, q3, q4, kP, hkP, hkPi⟩ := Cond.selects_spec hsel
  cases hcls.symm.trans q1
  cases (State.methodFound?_of_named hnamed hy).symm.trans q2
  cases hnamed.symm.trans q3
  have hselP : selectMethod e.platform s.vm cellB.cls mk = .method mk := by rw [Launch.admits_selectMethod X.admits]; exact q4
  obtain ⟨vm₁, X₁, hstep₁⟩ := X.invokevirtual hexec hown hlink hnamed hmethM hstM hkP hkPi hy (a := b) (cell := cellB) hcell
    (fun z h => by rw [h] at hobj; cases hobj) hselP hmethM habM hkP hkPi (g := g) hg (argsL := argsL) (rest := rest) (hlen _ hsigM) hstack hdg
  obtain ⟨v, B, X', hpost, hsteps⟩ := hK m meth c ⟨T.setVm vm₁, locs, cells, slots⟩ { g with stack := rest } (.invokevirtual index) mk (Value.ref b :: argsL).toArray X₁ hg hsize hdg hW (X₁.named hnamed) (hpre vm₁ X₁.warmed)
  exact ⟨v, vm₁, B, X₁.warmed, X', hpost, fun target h => hstep₁ _ fun acts => by rw [doInvoke_state]; exact hsteps.trans h⟩
abbrev vx_CVW (R : Room) (s : State) (args : Array Value) (own C : String) (index : Nat) (y : MethodName) (bytes : ByteArray) (maxL : Nat) (ret : Option FieldType) (hh : List (Nat × Nat × Nat × Nat)) (ws : List Cond) (rm : Room) (mc ms n : Nat) : Prop :=
  (rm.cells = mc ∧ rm.slots = ms ∧ rm.frames + 1 ≤ R.frames ∧ 8 + (maxL + 11) + rm.locals ≤ R.locals ∧ (∀ w ∈ ws, ∀ (a' : Array Value) (U : State), s.WarmedH U.vm → w.before a' U = true) ∧ Cond.codeWith y bytes maxL ret hh ∈ ws) ∧
  (Cond.codeWith y bytes maxL ret hh).before args s = true ∧ (Cond.initialized y.cls).before args s = true ∧ (y.cls ≠ "java/lang/invoke/MethodHandle" ∧ y.cls ≠ "java/lang/invoke/VarHandle") ∧
  (∀ sig, parseMethodDescriptor y.desc = some sig → n = sig.parameters.length) ∧ (Cond.methodLink own index y).before args s = true ∧ (Cond.instanceMethod y).before args s = true ∧ (Cond.selects C y y).before args s = true
theorem vx_cwVW {own C : String} {index maxL mc ms : Nat} {y : MethodName} {bytes : ByteArray} {ret : Option FieldType} {hh : List (Nat × Nat × Nat × Nat)} {Ts ws ws' : List Cond} {rm : Room} (n : Nat) (ht : ∀ w ∈ Ts, w.before args s = true) (hT : GoodIn Ts (wsV own index C y ws)) (hw : ws = Cond.codeWith y bytes maxL ret hh :: ws') (hrc : rm.cells = mc) (hrs : rm.slots = ms)
    (hd : y.cls = C ∧ y.cls ≠ "java/lang/invoke/MethodHandle" ∧ y.cls ≠ "java/lang/invoke/VarHandle" ∧ (parseMethodDescriptor y.desc).map (fun d => d.parameters.length) = some n) (hR : rm.frames + 1 ≤ R.frames ∧ 8 + (maxL + 11) + rm.locals ≤ R.locals) :
    vx_CVW R s args own C index y bytes maxL ret hh ws rm mc ms n := by
  obtain ⟨hC, hd⟩ := hd
  subst hC
  have ok : ∀ w ∈ wsV own index y.cls y ws, w.before args s = true := fun w h => ht w (hT w h).1
  have hG : GoodIn Ts ws := fun w h => hT w (by unfold wsV; exact List.mem_append_right _ h)
  have hc : Cond.codeWith y bytes maxL ret hh ∈ ws := by rw [hw]; exact List.mem_cons_self
  refine ⟨⟨hrc, hrs, hR.1, hR.2, pay_in ht hG, hc⟩, ht _ (hG _ hc).1, ok _ (by simp [wsV]), ⟨hd.1, hd.2.1⟩, fun sig h => ?_, ok _ (by simp [wsV]), ok _ (by simp [wsV]), ok _ (by simp [wsV])⟩
  have h2 := hd.2.2
  rw [h] at h2
  exact (Option.some.inj h2).symm
theorem vx_runVW {y : MethodName} {bytes cc : ByteArray} {maxL nL mc ms n index : Nat} {ret : Option FieldType} {hh : List (Nat × Nat × Nat × Nat)} {ws : List Cond} {rm : Room} {Pc : Array Value → State → Prop} {Qc : Array Value → State → Outcome → State → Prop} {free : Addr → Prop} {Ts : List Cond} {own C : String} {b : Addr} {As rest : List Value} {g : JFrame}
    (S : CallFix p m c cc nL s args Ts own) (hM : Met l y ws rm Pc Qc mc ms free) (cw : vx_CVW R s args own C index y bytes maxL ret hh ws rm mc ms n) (hp : PreV s H C b Pc As)
    (hg : g.method = m) (hn : As.length = n) (hsize : g.locals.size = nL) (hstack : g.stack = As.reverse ++ .ref b :: rest) (hW : 2 * g.monitorRoom + (rest.map fun v => v.category).sum ≤ 8) (hdg : decode cc g.pc = .ok (.invokevirtual index, 3)) (hf : cells + mc ≤ R.cells ∧ slots + ms ≤ R.slots) :
    va_Run p l e R s m args below meth c H locs cells slots mc ms g rest (Qc (Value.ref b :: As).toArray) free := by
  obtain ⟨⟨hrc, hrs, hfr, hlo, hws, hcw⟩, hcode, hini, hy, hlen, hl, hin, hse⟩ := cw
  have hK : Back l R p e below s args y 3 8 (PreOf R mc ms Pc) (PostOf Qc mc ms free) := va_backW (hh := hh) (bytes := bytes) (maxL := maxL) (ret := ret) hM hp.1 hrc hrs hfr hlo hws hcw (fun a' U hW => word_at hW (Or.inl (by first | rfl | simp [Cond.onTables, Cond.keeps, Cond.steady])) hini)
  obtain ⟨hx, hb, hml, ho, -⟩ := S
  obtain ⟨-, ⟨cellB, hcB, hoB, hclB⟩, hPc⟩ := hp
  intro T hT X
  obtain ⟨v, vm₁, ⟨U', l2, c2, s2⟩, hW₁, X', ⟨g', mk, t, L, e1, e2, hq, h1, hL, h2, h3⟩, st⟩ := vx_callVW X hx (C := C) (hh := hh) (bytes := bytes) (maxL := maxL) (ret := ret) ho hl hin hse hcode hy hK (by rw [hT]; exact hcB) hoB hclB hg (hsize.trans hml.symm) (argsL := As) (rest := rest) (fun sig h => hn.trans (hlen sig h)) hstack hW (by rw [hb]; exact hdg)
    (fun vm₁ hW₁ => ⟨hf.1, hf.2, hPc (T.setVm vm₁) hT hW₁⟩)
  dsimp only [Pt.U, Pt.locs, Pt.cells, Pt.slots] at X' e1 e2 h1 h2 h3 st
  subst h1; subst h2; subst h3
  exact ⟨v, (T.setVm vm₁).calling g' mk (Value.ref b :: As).toArray, t, U', L, hT, X', hL, e1, e2, hq, st⟩
section
variable {y : MethodName} {bytes cc : ByteArray} {maxL nL mc ms n index : Nat} {ret : Option FieldType} {ws : List Cond} {rm : Room} {Pc : Array Value → State → Prop} {Qc : Array Value → State → Outcome → State → Prop} {XC : String → State → State → Prop} {free : Addr → Prop} {Ts : List Cond} {own C : String} {b : Addr} {As rest : List Value} {g : JFrame}
theorem vx_runVX {hh : List (Nat × Nat × Nat × Nat)} (S : CallFix p m c cc nL s args Ts own) (hM : vx_Met l y ws rm Pc Qc XC mc ms free) (cw : vx_CVW R s args own C index y bytes maxL ret hh ws rm mc ms n) (hp : PreV s H C b Pc As)
    (hg : g.method = m) (hn : As.length = n) (hsize : g.locals.size = nL) (hstack : g.stack = As.reverse ++ .ref b :: rest) (hW : 2 * g.monitorRoom + (rest.map fun v => v.category).sum ≤ 8) (hdg : decode cc g.pc = .ok (.invokevirtual index, 3)) (hf : cells + mc ≤ R.cells ∧ slots + ms ≤ R.slots) :
    vx_Run p l e R s m args below meth c H locs cells slots mc ms g rest (Qc (Value.ref b :: As).toArray) XC free := by
  obtain ⟨⟨hrc, hrs, hfr, hlo, hws, hcw⟩, hcode, hini, hy, hlen, hl, hin, hse⟩ := cw
  have hK : vx_Back l R p e below s args y 3 8 (PreOf R mc ms Pc) (PostOf Qc mc ms free) (vx_Post XC mc ms free) := vx_backW (hh := hh) (bytes := bytes) (maxL := maxL) (ret := ret) hM hp.1 hrc hrs hfr hlo hws hcw (fun a' U hW => word_at hW (Or.inl (by first | rfl | simp [Cond.onTables, Cond.keeps, Cond.steady])) hini)
  obtain ⟨hx, hb, hml, ho, -⟩ := S
  obtain ⟨-, ⟨cellB, hcB, hoB, hclB⟩, hPc⟩ := hp
  intro T hT X
  rcases vx_callVX X hx (C := C) (hh := hh) (bytes := bytes) (maxL := maxL) (ret := ret) ho hl hin hse hcode hy hK (by rw [hT]; exact hcB) hoB hclB hg (hsize.trans hml.symm) (argsL := As) (rest := rest) (fun sig h => hn.trans (hlen sig h)) hstack hW (by rw [hb]; exact hdg)
    (fun vm₁ hW₁ => ⟨hf.1, hf.2, hPc (T.setVm vm₁) hT hW₁⟩) with ⟨v, vm₁, ⟨U', l2, c2, s2⟩, hW₁, X', ⟨g', mk, t, L, e1, e2, hq, h1, hL, h2, h3⟩, st⟩ | ⟨q, vm₁, ⟨U', l2, c2, s2⟩, hW₁, X', ⟨g', mk, t, L, E, ce, e1, e2, hq, hce, hcv, hcl, h1, hL, h2, h3⟩, st⟩
  · dsimp only [Pt.U, Pt.locs, Pt.cells, Pt.slots] at X' e1 e2 h1 h2 h3 st
    subst h1; subst h2; subst h3
    exact Or.inl ⟨v, (T.setVm vm₁).calling g' mk (Value.ref b :: As).toArray, t, U', L, hT, X', hL, e1, e2, hq, st⟩
  · dsimp only [Pt.U, Pt.locs, Pt.cells, Pt.slots] at X' e1 e2 h1 h2 h3 st hcl
    subst h1; subst h2; subst h3
    exact Or.inr ⟨q, (T.setVm vm₁).calling g' mk (Value.ref b :: As).toArray, t, U', L, E, ce, hT, X', hL, e1, e2, hq, hce, hcv, vx_cls hW₁ hcl, st⟩
theorem vx_runSX {hh : List (Nat × Nat × Nat × Nat)} (S : CallFix p m c cc nL s args Ts own) (hM : vx_Met l y ws rm Pc Qc XC mc ms free) (cw : vx_CSW R s args own index y bytes maxL ret hh ws rm mc ms n) (hp : PreS s H Pc As)
    (hg : g.method = m) (hn : As.length = n) (hsize : g.locals.size = nL) (hstack : g.stack = As.reverse ++ rest) (hW : 2 * g.monitorRoom + (rest.map fun v => v.category).sum ≤ 8) (hdg : decode cc g.pc = .ok (.invokestatic index, 3)) (hf : cells + mc ≤ R.cells ∧ slots + ms ≤ R.slots) :
    vx_Run p l e R s m args below meth c H locs cells slots mc ms g rest (Qc As.toArray) XC free := by
  obtain ⟨⟨hrc, hrs, hfr, hlo, hws, hcw⟩, hcode, hini, hy, hlen, hl, hstt⟩ := cw
  have hK : vx_Back l R p e below s args y 3 8 (PreOf R mc ms Pc) (PostOf Qc mc ms free) (vx_Post XC mc ms free) := vx_backW (hh := hh) (bytes := bytes) (maxL := maxL) (ret := ret) hM hp.1 hrc hrs hfr hlo hws hcw (fun a' U hW => word_at hW (Or.inl (by first | rfl | simp [Cond.onTables, Cond.keeps, Cond.steady])) hini)
  obtain ⟨hx, hb, hml, ho, -⟩ := S
  intro T hT X
  rcases vx_callSX X hx (hh := hh) (bytes := bytes) (maxL := maxL) (ret := ret) ho hl hstt hini hcode hy hK hg (hsize.trans hml.symm) (argsL := As) (rest := rest) (fun sig h => hn.trans (hlen sig h)) hstack hW (by rw [hb]; exact hdg)
    (fun vm₁ hW₁ => ⟨hf.1, hf.2, hp.2 (T.setVm vm₁) hT hW₁⟩) with ⟨v, vm₁, ⟨U', l2, c2, s2⟩, hW₁, X', ⟨g', mk, t, L, e1, e2, hq, h1, hL, h2, h3⟩, st⟩ | ⟨q, vm₁, ⟨U', l2, c2, s2⟩, hW₁, X', ⟨g', mk, t, L, E, ce, e1, e2, hq, hce, hcv, hcl, h1, hL, h2, h3⟩, st⟩
  · dsimp only [Pt.U, Pt.locs, Pt.cells, Pt.slots] at X' e1 e2 h1 h2 h3 st
    subst h1; subst h2; subst h3
    exact Or.inl ⟨v, (T.setVm vm₁).calling g' mk As.toArray, t, U', L, hT, X', hL, e1, e2, hq, st⟩
  · dsimp only [Pt.U, Pt.locs, Pt.cells, Pt.slots] at X' e1 e2 h1 h2 h3 st hcl
    subst h1; subst h2; subst h3
    exact Or.inr ⟨q, (T.setVm vm₁).calling g' mk As.toArray, t, U', L, E, ce, hT, X', hL, e1, e2, hq, hce, hcv, vx_cls hW₁ hcl, st⟩
end
end VXH
theorem vx_ofWH {l : Launch} {y : MethodName} {ws ws' : List Cond} {rm : Room} {Pc : Array Value → State → Prop} {Qc : Array Value → State → Outcome → State → Prop} {XC : String → State → State → Prop} {mc ms : Nat} {free : Addr → Prop} {cc : ByteArray} {maxL : Nat} {ret : Option FieldType} {hh : List (Nat × Nat × Nat × Nat)}
    (hy : plainName y.cls = true) (hw : ws = Cond.codeWith y cc maxL ret hh :: ws')
    (body : ∀ p e s m args below meth c s₁, BodyLoose p l y (headSpec ws rm) cc maxL ret e s m args below meth c s₁ → c.maxLocals = maxL → Pc args s →
      W p l e (headSpec ws rm).room s m args below meth c s.heap [] 0 0 (vx_MQ below Qc XC args s mc ms free) (entryFrame m args maxL)) : vx_Met l y ws rm Pc Qc XC mc ms free := by
  refine MetFree.of_bodyS (code := cc) (maxLocals := maxL) (ret := ret) hy ?_ ?_
  · intro args s m h hn
    obtain ⟨m9, meth, c, hn9, h1, h2, h3, h4, -, h5, h6, -⟩ := Cond.codeWith_spec (atoms_spec (ws := ws) h _ (by rw [hw]; exact List.mem_cons_self))
    cases hn.symm.trans hn9
    exact ⟨meth, c, h1, h2, h3, h4, h5, h6⟩
  · intro p e s m args below meth c s₁ B hml hP _
    have hh0 : s₁.heap = s.heap := by rw [B.state]; rfl
    obtain ⟨t, a1, o, b1, b2, b3⟩ := body p e s m args below meth c s₁ B hml hP s₁ hh0 (Stand.of_body B)
    exact ⟨t, o, a1, b1, b2, b3⟩
/-! ===== END ===== -/
end
section
def xr_PD : String := "PathDesk"
def xr_GR : String := "PathDesk$Graph"
def xr_RE : String := "PathDesk$Relation"
def xr_EX : String := "PathDesk$Expression"
def xr_RD : String := "PathDesk$Reader"
def xr_BE : String := "PathDesk$Bench"
def xr_MO : String := "PathDeskModel"
def xr_LW : String := "PathDeskLaw"
def xr_JI : String := "java/lang/Integer"
def xr_JA : String := "java/util/Arrays"
def xr_JM : String := "java/lang/Math"
def xr_JO : String := "java/lang/Object"
def xr_JT : String := "java/lang/Throwable"
def xr_JE : String := "java/lang/Exception"
def xr_JR : String := "java/lang/RuntimeException"
def xr_JG : String := "java/lang/IllegalArgumentException"
def xr_JX : String := "java/lang/IndexOutOfBoundsException"
def xf_PD : u_T := fun k => match k with
  | 0 => ("PathDesk", "graph", "LPathDesk$Graph;", true)
  | 1 => ("PathDesk", "reader", "LPathDesk$Reader;", true)
  | 2 => ("PathDesk", "bench", "LPathDesk$Bench;", true)
  | 3 => ("PathDesk", "characters", "[I", true)
  | 4 => ("PathDesk", "waiting", "I", false)
  | 5 => ("PathDesk", "expressions", "[LPathDesk$Expression;", true)
  | 6 => ("PathDesk", "relations", "[LPathDesk$Relation;", true)
  | _ => ("PathDesk", "known", "[Z", true)
def xt_PD : Nat → FieldType := fun k => match k with
  | 0 => .object "PathDesk$Graph"
  | 1 => .object "PathDesk$Reader"
  | 2 => .object "PathDesk$Bench"
  | 3 => .array .int
  | 4 => .int
  | 5 => .array (.object "PathDesk$Expression")
  | 6 => .array (.object "PathDesk$Relation")
  | _ => .array .boolean
theorem xn_PD : ∀ a, a < 8 → ∀ b, b < 8 → a ≠ b → (xf_PD a).2.1 ≠ (xf_PD b).2.1 := by decide +kernel
theorem xo_PD : ∀ k, k < 8 → parseFieldDescriptor (xf_PD k).2.2.1 = some (xt_PD k) := by decide +kernel
def xf_GR : u_T := fun k => match k with
  | 0 => ("PathDesk$Graph", "targets", "[I", true)
  | 1 => ("PathDesk$Graph", "tagged", "[I", true)
  | _ => ("PathDesk$Graph", "edges", "I", false)
def xt_GR : Nat → FieldType := fun k => match k with
  | 0 => .array .int
  | 1 => .array .int
  | _ => .int
theorem xn_GR : ∀ a, a < 3 → ∀ b, b < 3 → a ≠ b → (xf_GR a).2.1 ≠ (xf_GR b).2.1 := by decide +kernel
theorem xo_GR : ∀ k, k < 3 → parseFieldDescriptor (xf_GR k).2.2.1 = some (xt_GR k) := by decide +kernel
def xf_RE : u_T := fun k => match k with
  | 0 => ("PathDesk$Relation", "targets", "[I", true)
  | _ => ("PathDesk$Relation", "lengths", "[I", true)
def xt_RE : Nat → FieldType := fun k => match k with
  | 0 => .array .int
  | _ => .array .int
theorem xn_RE : ∀ a, a < 2 → ∀ b, b < 2 → a ≠ b → (xf_RE a).2.1 ≠ (xf_RE b).2.1 := by decide +kernel
theorem xo_RE : ∀ k, k < 2 → parseFieldDescriptor (xf_RE k).2.2.1 = some (xt_RE k) := by decide +kernel
def xf_EX : u_T := fun k => match k with
  | 0 => ("PathDesk$Expression", "orders", "[I", true)
  | 1 => ("PathDesk$Expression", "size", "I", false)
  | _ => ("PathDesk$Expression", "steps", "I", false)
def xt_EX : Nat → FieldType := fun k => match k with
  | 0 => .array .int
  | 1 => .int
  | _ => .int
theorem xn_EX : ∀ a, a < 3 → ∀ b, b < 3 → a ≠ b → (xf_EX a).2.1 ≠ (xf_EX b).2.1 := by decide +kernel
theorem xo_EX : ∀ k, k < 3 → parseFieldDescriptor (xf_EX k).2.2.1 = some (xt_EX k) := by decide +kernel
def xf_RD : u_T := fun k => match k with
  | 0 => ("PathDesk$Reader", "endedSteps", "[I", true)
  | 1 => ("PathDesk$Reader", "told", "LPathDesk$Expression;", false)
  | 2 => ("PathDesk$Reader", "state", "I", false)
  | 3 => ("PathDesk$Reader", "open", "I", false)
  | 4 => ("PathDesk$Reader", "inRepeat", "Z", false)
  | 5 => ("PathDesk$Reader", "repeatSteps", "I", false)
  | 6 => ("PathDesk$Reader", "least", "I", false)
  | _ => ("PathDesk$Reader", "most", "I", false)
def xt_RD : Nat → FieldType := fun k => match k with
  | 0 => .array .int
  | 1 => .object "PathDesk$Expression"
  | 2 => .int
  | 3 => .int
  | 4 => .boolean
  | 5 => .int
  | 6 => .int
  | _ => .int
theorem xn_RD : ∀ a, a < 8 → ∀ b, b < 8 → a ≠ b → (xf_RD a).2.1 ≠ (xf_RD b).2.1 := by decide +kernel
theorem xo_RD : ∀ k, k < 8 → parseFieldDescriptor (xf_RD k).2.2.1 = some (xt_RD k) := by decide +kernel
def xf_BE : u_T := fun k => match k with
  | 0 => ("PathDesk$Bench", "pile", "[LPathDesk$Relation;", true)
  | 1 => ("PathDesk$Bench", "height", "I", false)
  | _ => ("PathDesk$Bench", "spare", "LPathDesk$Relation;", false)
def xt_BE : Nat → FieldType := fun k => match k with
  | 0 => .array (.object "PathDesk$Relation")
  | 1 => .int
  | _ => .object "PathDesk$Relation"
theorem xn_BE : ∀ a, a < 3 → ∀ b, b < 3 → a ≠ b → (xf_BE a).2.1 ≠ (xf_BE b).2.1 := by decide +kernel
theorem xo_BE : ∀ k, k < 3 → parseFieldDescriptor (xf_BE k).2.2.1 = some (xt_BE k) := by decide +kernel
def xf_MO : u_T := fun k => match k with
  | 0 => ("PathDeskModel", "thrown", "I", false)
  | 1 => ("PathDeskModel", "edges", "[Z", true)
  | 2 => ("PathDeskModel", "tags", "[Z", true)
  | 3 => ("PathDeskModel", "many", "I", false)
  | 4 => ("PathDeskModel", "chars", "[I", true)
  | 5 => ("PathDeskModel", "size", "I", false)
  | 6 => ("PathDeskModel", "texts", "[I", true)
  | 7 => ("PathDeskModel", "sizes", "[I", true)
  | 8 => ("PathDeskModel", "steps", "[I", true)
  | 9 => ("PathDeskModel", "text", "[I", true)
  | 10 => ("PathDeskModel", "length", "I", false)
  | 11 => ("PathDeskModel", "at", "I", false)
  | 12 => ("PathDeskModel", "fault", "I", false)
  | 13 => ("PathDeskModel", "makes", "Z", false)
  | 14 => ("PathDeskModel", "squares", "[I", true)
  | 15 => ("PathDeskModel", "stepsOf", "[I", true)
  | 16 => ("PathDeskModel", "barred", "[Z", true)
  | 17 => ("PathDeskModel", "open", "I", false)
  | 18 => ("PathDeskModel", "first", "[I", true)
  | _ => ("PathDeskModel", "second", "[I", true)
def xt_MO : Nat → FieldType := fun k => match k with
  | 0 => .int
  | 1 => .array .boolean
  | 2 => .array .boolean
  | 3 => .int
  | 4 => .array .int
  | 5 => .int
  | 6 => .array .int
  | 7 => .array .int
  | 8 => .array .int
  | 9 => .array .int
  | 10 => .int
  | 11 => .int
  | 12 => .int
  | 13 => .boolean
  | 14 => .array .int
  | 15 => .array .int
  | 16 => .array .boolean
  | 17 => .int
  | 18 => .array .int
  | _ => .array .int
theorem xn_MO : ∀ a, a < 20 → ∀ b, b < 20 → a ≠ b → (xf_MO a).2.1 ≠ (xf_MO b).2.1 := by decide +kernel
theorem xo_MO : ∀ k, k < 20 → parseFieldDescriptor (xf_MO k).2.2.1 = some (xt_MO k) := by decide +kernel
def x_cl : List vw_C := [(xr_PD, xf_PD, 8), (xr_GR, xf_GR, 3), (xr_RE, xf_RE, 2), (xr_EX, xf_EX, 3), (xr_RD, xf_RD, 8), (xr_BE, xf_BE, 3), (xr_MO, xf_MO, 20)]
/-- the words that hold at every launch state of a run: the table of the claim, but for those that only hold at its start -/
def x_T : List Cond := lw_tbl.filter goodWord
theorem x_T_good : ∀ w ∈ x_T, (w.onTables && w.keeps) = true ∨ ∃ ty, w = .arrayClass ty := fun w h => good_of_word (List.mem_filter.mp h).2
abbrev xc_PD_init : ByteArray := prog_1_method_1_code
def xy_PD_init : MethodName := ⟨xr_PD, "<init>", "()V"⟩
abbrev xc_JO_init : ByteArray := object_method_1_code
def xy_JO_init : MethodName := ⟨xr_JO, "<init>", "()V"⟩
abbrev xc_GR_init : ByteArray := prog_4_method_1_code
def xy_GR_init : MethodName := ⟨xr_GR, "<init>", "()V"⟩
abbrev xc_RD_init : ByteArray := prog_5_method_1_code
def xy_RD_init : MethodName := ⟨xr_RD, "<init>", "()V"⟩
abbrev xc_EX_init : ByteArray := prog_3_method_1_code
def xy_EX_init : MethodName := ⟨xr_EX, "<init>", "()V"⟩
abbrev xc_BE_init : ByteArray := prog_2_method_1_code
def xy_BE_init : MethodName := ⟨xr_BE, "<init>", "()V"⟩
abbrev xc_RE_init : ByteArray := prog_6_method_1_code
def xy_RE_init : MethodName := ⟨xr_RE, "<init>", "()V"⟩
abbrev xc_PD_count : ByteArray := prog_1_method_13_code
def xy_PD_count : MethodName := ⟨xr_PD, "count", "(I)I"⟩
abbrev xc_GR_edgesOf : ByteArray := prog_4_method_7_code
def xy_GR_edgesOf : MethodName := ⟨xr_GR, "edgesOf", "(I)I"⟩
abbrev xc_JI_bitCount : ByteArray := prog_12_method_49_code
def xy_JI_bitCount : MethodName := ⟨xr_JI, "bitCount", "(I)I"⟩
abbrev xc_GR_nodesWith : ByteArray := prog_4_method_6_code
def xy_GR_nodesWith : MethodName := ⟨xr_GR, "nodesWith", "(I)I"⟩
abbrev xc_LW_edge : ByteArray := method_3_code
def xy_LW_edge : MethodName := ⟨xr_LW, "edge", "(LPathDesk;III[J)I"⟩
abbrev xc_PD_edge : ByteArray := prog_1_method_2_code
def xy_PD_edge : MethodName := ⟨xr_PD, "edge", "(III)Z"⟩
abbrev xc_PD_needNode : ByteArray := prog_1_method_17_code
def xy_PD_needNode : MethodName := ⟨xr_PD, "needNode", "(I)V"⟩
abbrev xc_JT_init : ByteArray := prog_16_method_1_code
def xy_JT_init : MethodName := ⟨xr_JT, "<init>", "()V"⟩
abbrev xc_JT_fillInStackTrace : ByteArray := prog_16_method_18_code
def xy_JT_fillInStackTrace : MethodName := ⟨xr_JT, "fillInStackTrace", "()Ljava/lang/Throwable;"⟩
abbrev xc_JG_init : ByteArray := prog_10_method_2_code
def xy_JG_init : MethodName := ⟨xr_JG, "<init>", "(Ljava/lang/String;)V"⟩
abbrev xc_JR_init : ByteArray := prog_14_method_2_code
def xy_JR_init : MethodName := ⟨xr_JR, "<init>", "(Ljava/lang/String;)V"⟩
abbrev xc_JE_init : ByteArray := prog_9_method_2_code
def xy_JE_init : MethodName := ⟨xr_JE, "<init>", "(Ljava/lang/String;)V"⟩
abbrev xc_JT_init_237 : ByteArray := prog_16_method_2_code
def xy_JT_init_237 : MethodName := ⟨xr_JT, "<init>", "(Ljava/lang/String;)V"⟩
abbrev xc_PD_needLabel : ByteArray := prog_1_method_18_code
def xy_PD_needLabel : MethodName := ⟨xr_PD, "needLabel", "(I)V"⟩
abbrev xc_GR_hasEdge : ByteArray := prog_4_method_2_code
def xy_GR_hasEdge : MethodName := ⟨xr_GR, "hasEdge", "(III)Z"⟩
abbrev xc_PD_isIn : ByteArray := prog_1_method_19_code
def xy_PD_isIn : MethodName := ⟨xr_PD, "isIn", "(II)Z"⟩
abbrev xc_GR_putEdge : ByteArray := prog_4_method_3_code
def xy_GR_putEdge : MethodName := ⟨xr_GR, "putEdge", "(III)V"⟩
abbrev xc_PD_forgetRelations : ByteArray := prog_1_method_15_code
def xy_PD_forgetRelations : MethodName := ⟨xr_PD, "forgetRelations", "()V"⟩
abbrev xc_LW_cut : ByteArray := method_4_code
def xy_LW_cut : MethodName := ⟨xr_LW, "cut", "(LPathDesk;III[J)I"⟩
abbrev xc_PD_cut : ByteArray := prog_1_method_3_code
def xy_PD_cut : MethodName := ⟨xr_PD, "cut", "(III)Z"⟩
abbrev xc_GR_dropEdge : ByteArray := prog_4_method_4_code
def xy_GR_dropEdge : MethodName := ⟨xr_GR, "dropEdge", "(III)V"⟩
abbrev xc_LW_tag : ByteArray := method_5_code
def xy_LW_tag : MethodName := ⟨xr_LW, "tag", "(LPathDesk;IIZ)I"⟩
abbrev xc_PD_tag : ByteArray := prog_1_method_4_code
def xy_PD_tag : MethodName := ⟨xr_PD, "tag", "(IIZ)V"⟩
abbrev xc_GR_setTag : ByteArray := prog_4_method_5_code
def xy_GR_setTag : MethodName := ⟨xr_GR, "setTag", "(IIZ)V"⟩
abbrev xc_LW_feed : ByteArray := method_6_code
def xy_LW_feed : MethodName := ⟨xr_LW, "feed", "(LPathDesk;JI[J)I"⟩
abbrev xc_PD_feed : ByteArray := prog_1_method_5_code
def xy_PD_feed : MethodName := ⟨xr_PD, "feed", "(JI)I"⟩
abbrev xc_LW_load : ByteArray := method_7_code
def xy_LW_load : MethodName := ⟨xr_LW, "load", "(LPathDesk;I[J)I"⟩
abbrev xc_PD_load : ByteArray := prog_1_method_6_code
def xy_PD_load : MethodName := ⟨xr_PD, "load", "(I)I"⟩
abbrev xc_PD_needSlot : ByteArray := prog_1_method_16_code
def xy_PD_needSlot : MethodName := ⟨xr_PD, "needSlot", "(I)V"⟩
abbrev xc_JX_init : ByteArray := prog_11_method_2_code
def xy_JX_init : MethodName := ⟨xr_JX, "<init>", "(Ljava/lang/String;)V"⟩
abbrev xc_RD_read : ByteArray := prog_5_method_2_code
def xy_RD_read : MethodName := ⟨xr_RD, "read", "([IILPathDesk$Expression;)I"⟩
abbrev xc_RD_start : ByteArray := prog_5_method_3_code
def xy_RD_start : MethodName := ⟨xr_RD, "start", "(LPathDesk$Expression;)V"⟩
abbrev xc_EX_clear : ByteArray := prog_3_method_2_code
def xy_EX_clear : MethodName := ⟨xr_EX, "clear", "()V"⟩
abbrev xc_RD_startAlternative : ByteArray := prog_5_method_15_code
def xy_RD_startAlternative : MethodName := ⟨xr_RD, "startAlternative", "()V"⟩
abbrev xc_EX_append : ByteArray := prog_3_method_4_code
def xy_EX_append : MethodName := ⟨xr_EX, "append", "(II)V"⟩
abbrev xc_RD_takeInRow : ByteArray := prog_5_method_5_code
def xy_RD_takeInRow : MethodName := ⟨xr_RD, "takeInRow", "(I)Z"⟩
abbrev xc_RD_openGroup : ByteArray := prog_5_method_13_code
def xy_RD_openGroup : MethodName := ⟨xr_RD, "openGroup", "()Z"⟩
abbrev xc_RD_endRepeat : ByteArray := prog_5_method_19_code
def xy_RD_endRepeat : MethodName := ⟨xr_RD, "endRepeat", "()V"⟩
abbrev xc_JM_min : ByteArray := prog_13_method_69_code
def xy_JM_min : MethodName := ⟨xr_JM, "min", "(II)I"⟩
abbrev xc_RD_closeGroup : ByteArray := prog_5_method_14_code
def xy_RD_closeGroup : MethodName := ⟨xr_RD, "closeGroup", "()Z"⟩
abbrev xc_RD_endRow : ByteArray := prog_5_method_16_code
def xy_RD_endRow : MethodName := ⟨xr_RD, "endRow", "()V"⟩
abbrev xc_RD_startRepeat : ByteArray := prog_5_method_18_code
def xy_RD_startRepeat : MethodName := ⟨xr_RD, "startRepeat", "(I)V"⟩
abbrev xc_RD_goOnTo : ByteArray := prog_5_method_6_code
def xy_RD_goOnTo : MethodName := ⟨xr_RD, "goOnTo", "(I)Z"⟩
abbrev xc_RD_changeRepeat : ByteArray := prog_5_method_12_code
def xy_RD_changeRepeat : MethodName := ⟨xr_RD, "changeRepeat", "(I)Z"⟩
abbrev xc_RD_takeStep : ByteArray := prog_5_method_7_code
def xy_RD_takeStep : MethodName := ⟨xr_RD, "takeStep", "(II)Z"⟩
abbrev xc_RD_addStep : ByteArray := prog_5_method_17_code
def xy_RD_addStep : MethodName := ⟨xr_RD, "addStep", "(II)V"⟩
abbrev xc_RD_takeInside : ByteArray := prog_5_method_4_code
def xy_RD_takeInside : MethodName := ⟨xr_RD, "takeInside", "(I)Z"⟩
abbrev xc_RD_takeTag : ByteArray := prog_5_method_8_code
def xy_RD_takeTag : MethodName := ⟨xr_RD, "takeTag", "(II)Z"⟩
abbrev xc_RD_takeLeast : ByteArray := prog_5_method_9_code
def xy_RD_takeLeast : MethodName := ⟨xr_RD, "takeLeast", "(I)Z"⟩
abbrev xc_RD_isDigit : ByteArray := prog_5_method_20_code
def xy_RD_isDigit : MethodName := ⟨xr_RD, "isDigit", "(I)Z"⟩
abbrev xc_RD_takeBraceEnd : ByteArray := prog_5_method_11_code
def xy_RD_takeBraceEnd : MethodName := ⟨xr_RD, "takeBraceEnd", "(I)Z"⟩
abbrev xc_RD_takeMost : ByteArray := prog_5_method_10_code
def xy_RD_takeMost : MethodName := ⟨xr_RD, "takeMost", "(I)Z"⟩
abbrev xc_EX_makeEmptyRow : ByteArray := prog_3_method_3_code
def xy_EX_makeEmptyRow : MethodName := ⟨xr_EX, "makeEmptyRow", "()V"⟩
abbrev xc_LW_reach : ByteArray := method_8_code
def xy_LW_reach : MethodName := ⟨xr_LW, "reach", "(LPathDesk;IIZ[J)I"⟩
abbrev xc_PD_reach : ByteArray := prog_1_method_7_code
def xy_PD_reach : MethodName := ⟨xr_PD, "reach", "(IIZ)I"⟩
abbrev xc_PD_relationOf : ByteArray := prog_1_method_14_code
def xy_PD_relationOf : MethodName := ⟨xr_PD, "relationOf", "(I)LPathDesk$Relation;"⟩
abbrev xc_BE_clear : ByteArray := prog_2_method_2_code
def xy_BE_clear : MethodName := ⟨xr_BE, "clear", "()V"⟩
abbrev xc_BE_carryOut : ByteArray := prog_2_method_4_code
def xy_BE_carryOut : MethodName := ⟨xr_BE, "carryOut", "(ILPathDesk$Graph;)V"⟩
abbrev xc_BE_layDown : ByteArray := prog_2_method_6_code
def xy_BE_layDown : MethodName := ⟨xr_BE, "layDown", "()LPathDesk$Relation;"⟩
abbrev xc_BE_at : ByteArray := prog_2_method_5_code
def xy_BE_at : MethodName := ⟨xr_BE, "at", "(I)LPathDesk$Relation;"⟩
abbrev xc_JM_max : ByteArray := prog_13_method_65_code
def xy_JM_max : MethodName := ⟨xr_JM, "max", "(II)I"⟩
abbrev xc_RE_clear : ByteArray := prog_6_method_2_code
def xy_RE_clear : MethodName := ⟨xr_RE, "clear", "()V"⟩
abbrev xc_JA_fill : ByteArray := prog_17_method_103_code
def xy_JA_fill : MethodName := ⟨xr_JA, "fill", "([II)V"⟩
abbrev xc_RE_addStays : ByteArray := prog_6_method_4_code
def xy_RE_addStays : MethodName := ⟨xr_RE, "addStays", "(I)V"⟩
abbrev xc_RE_offer : ByteArray := prog_6_method_3_code
def xy_RE_offer : MethodName := ⟨xr_RE, "offer", "(III)V"⟩
abbrev xc_RE_addEdges : ByteArray := prog_6_method_5_code
def xy_RE_addEdges : MethodName := ⟨xr_RE, "addEdges", "(LPathDesk$Graph;IZ)V"⟩
abbrev xc_GR_nextOf : ByteArray := prog_4_method_8_code
def xy_GR_nextOf : MethodName := ⟨xr_GR, "nextOf", "(II)I"⟩
abbrev xc_BE_chainTwo : ByteArray := prog_2_method_8_code
def xy_BE_chainTwo : MethodName := ⟨xr_BE, "chainTwo", "()V"⟩
abbrev xc_BE_top : ByteArray := prog_2_method_3_code
def xy_BE_top : MethodName := ⟨xr_BE, "top", "()LPathDesk$Relation;"⟩
abbrev xc_RE_setToChain : ByteArray := prog_6_method_7_code
def xy_RE_setToChain : MethodName := ⟨xr_RE, "setToChain", "(LPathDesk$Relation;LPathDesk$Relation;)V"⟩
abbrev xc_RE_addGoingOn : ByteArray := prog_6_method_9_code
def xy_RE_addGoingOn : MethodName := ⟨xr_RE, "addGoingOn", "(IILPathDesk$Relation;I)V"⟩
abbrev xc_BE_joinTwo : ByteArray := prog_2_method_7_code
def xy_BE_joinTwo : MethodName := ⟨xr_BE, "joinTwo", "()V"⟩
abbrev xc_RE_addAll : ByteArray := prog_6_method_6_code
def xy_RE_addAll : MethodName := ⟨xr_RE, "addAll", "(LPathDesk$Relation;)V"⟩
abbrev xc_RE_repeatAtWill : ByteArray := prog_6_method_8_code
def xy_RE_repeatAtWill : MethodName := ⟨xr_RE, "repeatAtWill", "()V"⟩
abbrev xc_BE_copyTop : ByteArray := prog_2_method_9_code
def xy_BE_copyTop : MethodName := ⟨xr_BE, "copyTop", "(II)V"⟩
abbrev xc_RE_sourcesOf : ByteArray := prog_6_method_10_code
def xy_RE_sourcesOf : MethodName := ⟨xr_RE, "sourcesOf", "(I)I"⟩
abbrev xc_LW_distance : ByteArray := method_9_code
def xy_LW_distance : MethodName := ⟨xr_LW, "distance", "(LPathDesk;III[J)I"⟩
abbrev xc_PD_distance : ByteArray := prog_1_method_8_code
def xy_PD_distance : MethodName := ⟨xr_PD, "distance", "(III)I"⟩
abbrev xc_RE_lengthOf : ByteArray := prog_6_method_11_code
def xy_RE_lengthOf : MethodName := ⟨xr_RE, "lengthOf", "(II)I"⟩
abbrev xc_LW_span : ByteArray := method_10_code
def xy_LW_span : MethodName := ⟨xr_LW, "span", "(LPathDesk;I[J)I"⟩
abbrev xc_PD_span : ByteArray := prog_1_method_9_code
def xy_PD_span : MethodName := ⟨xr_PD, "span", "(I)I"⟩
abbrev xc_RE_greatestLength : ByteArray := prog_6_method_12_code
def xy_RE_greatestLength : MethodName := ⟨xr_RE, "greatestLength", "()I"⟩
abbrev xc_LW_pairs : ByteArray := method_11_code
def xy_LW_pairs : MethodName := ⟨xr_LW, "pairs", "(LPathDesk;III[J)I"⟩
abbrev xc_PD_pairs : ByteArray := prog_1_method_10_code
def xy_PD_pairs : MethodName := ⟨xr_PD, "pairs", "(III)I"⟩
abbrev xc_RE_pairCount : ByteArray := prog_6_method_13_code
def xy_RE_pairCount : MethodName := ⟨xr_RE, "pairCount", "()I"⟩
abbrev xc_RE_pairsSharedWith : ByteArray := prog_6_method_14_code
def xy_RE_pairsSharedWith : MethodName := ⟨xr_RE, "pairsSharedWith", "(LPathDesk$Relation;)I"⟩
abbrev xc_RE_pairsTurnedIn : ByteArray := prog_6_method_15_code
def xy_RE_pairsTurnedIn : MethodName := ⟨xr_RE, "pairsTurnedIn", "(LPathDesk$Relation;)I"⟩
abbrev xc_RE_pairsLedOnBy : ByteArray := prog_6_method_16_code
def xy_RE_pairsLedOnBy : MethodName := ⟨xr_RE, "pairsLedOnBy", "(LPathDesk$Relation;)I"⟩
abbrev xc_LW_circle : ByteArray := method_12_code
def xy_LW_circle : MethodName := ⟨xr_LW, "circle", "(LPathDesk;I[J)I"⟩
abbrev xc_PD_circle : ByteArray := prog_1_method_11_code
def xy_PD_circle : MethodName := ⟨xr_PD, "circle", "(I)I"⟩
abbrev xc_RE_leastOnCircle : ByteArray := prog_6_method_17_code
def xy_RE_leastOnCircle : MethodName := ⟨xr_RE, "leastOnCircle", "()I"⟩
abbrev xc_LW_best : ByteArray := method_13_code
def xy_LW_best : MethodName := ⟨xr_LW, "best", "(LPathDesk;I[J)I"⟩
abbrev xc_PD_best : ByteArray := prog_1_method_12_code
def xy_PD_best : MethodName := ⟨xr_PD, "best", "(I)I"⟩
abbrev xc_RE_richestNode : ByteArray := prog_6_method_18_code
def xy_RE_richestNode : MethodName := ⟨xr_RE, "richestNode", "()I"⟩
abbrev xc_MO_init : ByteArray := prog_8_method_1_code
def xy_MO_init : MethodName := ⟨xr_MO, "<init>", "()V"⟩
abbrev xc_MO_thrown : ByteArray := prog_8_method_2_code
def xy_MO_thrown : MethodName := ⟨xr_MO, "thrown", "()I"⟩
abbrev xc_MO_edge : ByteArray := prog_8_method_6_code
def xy_MO_edge : MethodName := ⟨xr_MO, "edge", "(III)Z"⟩
abbrev xc_MO_in : ByteArray := prog_8_method_4_code
def xy_MO_in : MethodName := ⟨xr_MO, "in", "(II)Z"⟩
abbrev xc_MO_fails : ByteArray := prog_8_method_3_code
def xy_MO_fails : MethodName := ⟨xr_MO, "fails", "(ZZ)Z"⟩
abbrev xc_MO_place : ByteArray := prog_8_method_5_code
def xy_MO_place : MethodName := ⟨xr_MO, "place", "(III)I"⟩
abbrev xc_MO_cut : ByteArray := prog_8_method_7_code
def xy_MO_cut : MethodName := ⟨xr_MO, "cut", "(III)Z"⟩
abbrev xc_MO_tag : ByteArray := prog_8_method_8_code
def xy_MO_tag : MethodName := ⟨xr_MO, "tag", "(IIZ)V"⟩
abbrev xc_MO_feed : ByteArray := prog_8_method_9_code
def xy_MO_feed : MethodName := ⟨xr_MO, "feed", "(JI)I"⟩
abbrev xc_MO_load : ByteArray := prog_8_method_32_code
def xy_MO_load : MethodName := ⟨xr_MO, "load", "(I)I"⟩
abbrev xc_MO_begin : ByteArray := prog_8_method_21_code
def xy_MO_begin : MethodName := ⟨xr_MO, "begin", "(Z)V"⟩
abbrev xc_MO_bracket : ByteArray := prog_8_method_22_code
def xy_MO_bracket : MethodName := ⟨xr_MO, "bracket", "()V"⟩
abbrev xc_MO_plain : ByteArray := prog_8_method_15_code
def xy_MO_plain : MethodName := ⟨xr_MO, "plain", "(IZ)V"⟩
abbrev xc_MO_read : ByteArray := prog_8_method_24_code
def xy_MO_read : MethodName := ⟨xr_MO, "read", "()V"⟩
abbrev xc_MO_goes : ByteArray := prog_8_method_12_code
def xy_MO_goes : MethodName := ⟨xr_MO, "goes", "()Z"⟩
abbrev xc_MO_now : ByteArray := prog_8_method_10_code
def xy_MO_now : MethodName := ⟨xr_MO, "now", "()I"⟩
abbrev xc_MO_opens : ByteArray := prog_8_method_25_code
def xy_MO_opens : MethodName := ⟨xr_MO, "opens", "()V"⟩
abbrev xc_MO_fail : ByteArray := prog_8_method_11_code
def xy_MO_fail : MethodName := ⟨xr_MO, "fail", "()V"⟩
abbrev xc_MO_shuts : ByteArray := prog_8_method_26_code
def xy_MO_shuts : MethodName := ⟨xr_MO, "shuts", "()V"⟩
abbrev xc_MO_bar : ByteArray := prog_8_method_23_code
def xy_MO_bar : MethodName := ⟨xr_MO, "bar", "()V"⟩
abbrev xc_MO_either : ByteArray := prog_8_method_17_code
def xy_MO_either : MethodName := ⟨xr_MO, "either", "(II)V"⟩
abbrev xc_MO_copy : ByteArray := prog_8_method_16_code
def xy_MO_copy : MethodName := ⟨xr_MO, "copy", "(II)V"⟩
abbrev xc_MO_signs : ByteArray := prog_8_method_29_code
def xy_MO_signs : MethodName := ⟨xr_MO, "signs", "()V"⟩
abbrev xc_MO_counted : ByteArray := prog_8_method_30_code
def xy_MO_counted : MethodName := ⟨xr_MO, "counted", "(I)V"⟩
abbrev xc_MO_digit : ByteArray := prog_8_method_31_code
def xy_MO_digit : MethodName := ⟨xr_MO, "digit", "(I)I"⟩
abbrev xc_MO_must : ByteArray := prog_8_method_13_code
def xy_MO_must : MethodName := ⟨xr_MO, "must", "(I)V"⟩
abbrev xc_MO_behind : ByteArray := prog_8_method_18_code
def xy_MO_behind : MethodName := ⟨xr_MO, "behind", "(II)V"⟩
abbrev xc_MO_spread : ByteArray := prog_8_method_19_code
def xy_MO_spread : MethodName := ⟨xr_MO, "spread", "(III)V"⟩
abbrev xc_MO_again : ByteArray := prog_8_method_20_code
def xy_MO_again : MethodName := ⟨xr_MO, "again", "(I)V"⟩
abbrev xc_MO_isLetter : ByteArray := prog_8_method_14_code
def xy_MO_isLetter : MethodName := ⟨xr_MO, "isLetter", "(I)Z"⟩
abbrev xc_MO_atom : ByteArray := prog_8_method_27_code
def xy_MO_atom : MethodName := ⟨xr_MO, "atom", "()V"⟩
abbrev xc_MO_test : ByteArray := prog_8_method_28_code
def xy_MO_test : MethodName := ⟨xr_MO, "test", "(I)V"⟩
abbrev xc_MO_reach : ByteArray := prog_8_method_34_code
def xy_MO_reach : MethodName := ⟨xr_MO, "reach", "(IIZ)I"⟩
abbrev xc_MO_lengths : ByteArray := prog_8_method_33_code
def xy_MO_lengths : MethodName := ⟨xr_MO, "lengths", "(I[I)V"⟩
abbrev xc_MO_distance : ByteArray := prog_8_method_35_code
def xy_MO_distance : MethodName := ⟨xr_MO, "distance", "(III)I"⟩
abbrev xc_MO_span : ByteArray := prog_8_method_36_code
def xy_MO_span : MethodName := ⟨xr_MO, "span", "(I)I"⟩
abbrev xc_MO_pairs : ByteArray := prog_8_method_37_code
def xy_MO_pairs : MethodName := ⟨xr_MO, "pairs", "(III)I"⟩
abbrev xc_MO_circle : ByteArray := prog_8_method_38_code
def xy_MO_circle : MethodName := ⟨xr_MO, "circle", "(I)I"⟩
abbrev xc_MO_best : ByteArray := prog_8_method_39_code
def xy_MO_best : MethodName := ⟨xr_MO, "best", "(I)I"⟩
abbrev xc_MO_count : ByteArray := prog_8_method_40_code
def xy_MO_count : MethodName := ⟨xr_MO, "count", "(I)I"⟩
def xw_PD_init : List Cond := .code xy_PD_init xc_PD_init 2 none :: x_T
def xw_JO_init : List Cond := .code xy_JO_init xc_JO_init 1 none :: x_T
def xw_GR_init : List Cond := .code xy_GR_init xc_GR_init 1 none :: x_T
def xw_RD_init : List Cond := .code xy_RD_init xc_RD_init 1 none :: x_T
def xw_EX_init : List Cond := .code xy_EX_init xc_EX_init 1 none :: x_T
def xw_BE_init : List Cond := .code xy_BE_init xc_BE_init 1 none :: x_T
def xw_RE_init : List Cond := .code xy_RE_init xc_RE_init 1 none :: x_T
def xw_PD_count : List Cond := .code xy_PD_count xc_PD_count 2 (some .int) :: x_T
def xw_GR_edgesOf : List Cond := .code xy_GR_edgesOf xc_GR_edgesOf 4 (some .int) :: x_T
def xw_JI_bitCount : List Cond := .code xy_JI_bitCount xc_JI_bitCount 1 (some .int) :: x_T
def xw_GR_nodesWith : List Cond := .code xy_GR_nodesWith xc_GR_nodesWith 2 (some .int) :: x_T
def xw_LW_edge : List Cond := .codeWith xy_LW_edge xc_LW_edge 6 (some .int) [(0, 19, 22, 13)] :: x_T
def xw_PD_edge : List Cond := .code xy_PD_edge xc_PD_edge 4 (some .boolean) :: x_T
def xw_PD_needNode : List Cond := .code xy_PD_needNode xc_PD_needNode 1 none :: x_T
def xw_JT_init : List Cond := .code xy_JT_init xc_JT_init 1 none :: x_T
def xw_JG_init : List Cond := .code xy_JG_init xc_JG_init 2 none :: x_T
def xw_JR_init : List Cond := .code xy_JR_init xc_JR_init 2 none :: x_T
def xw_JE_init : List Cond := .code xy_JE_init xc_JE_init 2 none :: x_T
def xw_JT_init_237 : List Cond := .code xy_JT_init_237 xc_JT_init_237 2 none :: x_T
def xw_PD_needLabel : List Cond := .code xy_PD_needLabel xc_PD_needLabel 1 none :: x_T
def xw_GR_hasEdge : List Cond := .code xy_GR_hasEdge xc_GR_hasEdge 4 (some .boolean) :: x_T
def xw_PD_isIn : List Cond := .code xy_PD_isIn xc_PD_isIn 2 (some .boolean) :: x_T
def xw_GR_putEdge : List Cond := .code xy_GR_putEdge xc_GR_putEdge 4 none :: x_T
def xw_PD_forgetRelations : List Cond := .code xy_PD_forgetRelations xc_PD_forgetRelations 2 none :: x_T
def xw_LW_cut : List Cond := .codeWith xy_LW_cut xc_LW_cut 6 (some .int) [(0, 19, 22, 13)] :: x_T
def xw_PD_cut : List Cond := .code xy_PD_cut xc_PD_cut 4 (some .boolean) :: x_T
def xw_GR_dropEdge : List Cond := .code xy_GR_dropEdge xc_GR_dropEdge 4 none :: x_T
def xw_LW_tag : List Cond := .codeWith xy_LW_tag xc_LW_tag 5 (some .int) [(0, 7, 10, 13)] :: x_T
def xw_PD_tag : List Cond := .code xy_PD_tag xc_PD_tag 4 none :: x_T
def xw_GR_setTag : List Cond := .code xy_GR_setTag xc_GR_setTag 4 none :: x_T
def xw_LW_feed : List Cond := .codeWith xy_LW_feed xc_LW_feed 6 (some .int) [(0, 11, 14, 13)] :: x_T
def xw_PD_feed : List Cond := .code xy_PD_feed xc_PD_feed 5 (some .int) :: x_T
def xw_LW_load : List Cond := .codeWith xy_LW_load xc_LW_load 4 (some .int) [(0, 9, 12, 30)] :: x_T
def xw_PD_load : List Cond := .code xy_PD_load xc_PD_load 4 (some .int) :: x_T
def xw_PD_needSlot : List Cond := .code xy_PD_needSlot xc_PD_needSlot 1 none :: x_T
def xw_JX_init : List Cond := .code xy_JX_init xc_JX_init 2 none :: x_T
def xw_RD_read : List Cond := .code xy_RD_read xc_RD_read 6 (some .int) :: x_T
def xw_RD_start : List Cond := .code xy_RD_start xc_RD_start 2 none :: x_T
def xw_EX_clear : List Cond := .code xy_EX_clear xc_EX_clear 1 none :: x_T
def xw_RD_startAlternative : List Cond := .code xy_RD_startAlternative xc_RD_startAlternative 1 none :: x_T
def xw_EX_append : List Cond := .code xy_EX_append xc_EX_append 3 none :: x_T
def xw_RD_takeInRow : List Cond := .code xy_RD_takeInRow xc_RD_takeInRow 2 (some .boolean) :: x_T
def xw_RD_openGroup : List Cond := .code xy_RD_openGroup xc_RD_openGroup 1 (some .boolean) :: x_T
def xw_RD_endRepeat : List Cond := .code xy_RD_endRepeat xc_RD_endRepeat 1 none :: x_T
def xw_JM_min : List Cond := .code xy_JM_min xc_JM_min 2 (some .int) :: x_T
def xw_RD_closeGroup : List Cond := .code xy_RD_closeGroup xc_RD_closeGroup 1 (some .boolean) :: x_T
def xw_RD_endRow : List Cond := .code xy_RD_endRow xc_RD_endRow 1 none :: x_T
def xw_RD_startRepeat : List Cond := .code xy_RD_startRepeat xc_RD_startRepeat 2 none :: x_T
def xw_RD_goOnTo : List Cond := .code xy_RD_goOnTo xc_RD_goOnTo 2 (some .boolean) :: x_T
def xw_RD_changeRepeat : List Cond := .code xy_RD_changeRepeat xc_RD_changeRepeat 2 (some .boolean) :: x_T
def xw_RD_takeStep : List Cond := .code xy_RD_takeStep xc_RD_takeStep 4 (some .boolean) :: x_T
def xw_RD_addStep : List Cond := .code xy_RD_addStep xc_RD_addStep 3 none :: x_T
def xw_RD_takeInside : List Cond := .code xy_RD_takeInside xc_RD_takeInside 2 (some .boolean) :: x_T
def xw_RD_takeTag : List Cond := .code xy_RD_takeTag xc_RD_takeTag 4 (some .boolean) :: x_T
def xw_RD_takeLeast : List Cond := .code xy_RD_takeLeast xc_RD_takeLeast 2 (some .boolean) :: x_T
def xw_RD_isDigit : List Cond := .code xy_RD_isDigit xc_RD_isDigit 1 (some .boolean) :: x_T
def xw_RD_takeBraceEnd : List Cond := .code xy_RD_takeBraceEnd xc_RD_takeBraceEnd 2 (some .boolean) :: x_T
def xw_RD_takeMost : List Cond := .code xy_RD_takeMost xc_RD_takeMost 2 (some .boolean) :: x_T
def xw_EX_makeEmptyRow : List Cond := .code xy_EX_makeEmptyRow xc_EX_makeEmptyRow 1 none :: x_T
def xw_LW_reach : List Cond := .codeWith xy_LW_reach xc_LW_reach 6 (some .int) [(0, 12, 15, 30), (0, 12, 19, 13)] :: x_T
def xw_PD_reach : List Cond := .code xy_PD_reach xc_PD_reach 5 (some .int) :: x_T
def xw_PD_relationOf : List Cond := .code xy_PD_relationOf xc_PD_relationOf 5 (some (.object "PathDesk$Relation")) :: x_T
def xw_BE_clear : List Cond := .code xy_BE_clear xc_BE_clear 1 none :: x_T
def xw_BE_carryOut : List Cond := .code xy_BE_carryOut xc_BE_carryOut 4 none :: x_T
def xw_BE_layDown : List Cond := .code xy_BE_layDown xc_BE_layDown 2 (some (.object "PathDesk$Relation")) :: x_T
def xw_BE_at : List Cond := .code xy_BE_at xc_BE_at 3 (some (.object "PathDesk$Relation")) :: x_T
def xw_JM_max : List Cond := .code xy_JM_max xc_JM_max 2 (some .int) :: x_T
def xw_RE_clear : List Cond := .code xy_RE_clear xc_RE_clear 1 none :: x_T
def xw_JA_fill : List Cond := .code xy_JA_fill xc_JA_fill 4 none :: x_T
def xw_RE_addStays : List Cond := .code xy_RE_addStays xc_RE_addStays 3 none :: x_T
def xw_RE_offer : List Cond := .code xy_RE_offer xc_RE_offer 6 none :: x_T
def xw_RE_addEdges : List Cond := .code xy_RE_addEdges xc_RE_addEdges 7 none :: x_T
def xw_GR_nextOf : List Cond := .code xy_GR_nextOf xc_GR_nextOf 5 (some .int) :: x_T
def xw_BE_chainTwo : List Cond := .code xy_BE_chainTwo xc_BE_chainTwo 2 none :: x_T
def xw_BE_top : List Cond := .code xy_BE_top xc_BE_top 1 (some (.object "PathDesk$Relation")) :: x_T
def xw_RE_setToChain : List Cond := .code xy_RE_setToChain xc_RE_setToChain 6 none :: x_T
def xw_RE_addGoingOn : List Cond := .code xy_RE_addGoingOn xc_RE_addGoingOn 7 none :: x_T
def xw_BE_joinTwo : List Cond := .code xy_BE_joinTwo xc_BE_joinTwo 1 none :: x_T
def xw_RE_addAll : List Cond := .code xy_RE_addAll xc_RE_addAll 3 none :: x_T
def xw_RE_repeatAtWill : List Cond := .code xy_RE_repeatAtWill xc_RE_repeatAtWill 3 none :: x_T
def xw_BE_copyTop : List Cond := .code xy_BE_copyTop xc_BE_copyTop 7 none :: x_T
def xw_RE_sourcesOf : List Cond := .code xy_RE_sourcesOf xc_RE_sourcesOf 4 (some .int) :: x_T
def xw_LW_distance : List Cond := .codeWith xy_LW_distance xc_LW_distance 6 (some .int) [(0, 12, 15, 30), (0, 12, 19, 13)] :: x_T
def xw_PD_distance : List Cond := .code xy_PD_distance xc_PD_distance 4 (some .int) :: x_T
def xw_RE_lengthOf : List Cond := .code xy_RE_lengthOf xc_RE_lengthOf 3 (some .int) :: x_T
def xw_LW_span : List Cond := .codeWith xy_LW_span xc_LW_span 4 (some .int) [(0, 9, 12, 30)] :: x_T
def xw_PD_span : List Cond := .code xy_PD_span xc_PD_span 2 (some .int) :: x_T
def xw_RE_greatestLength : List Cond := .code xy_RE_greatestLength xc_RE_greatestLength 4 (some .int) :: x_T
def xw_LW_pairs : List Cond := .codeWith xy_LW_pairs xc_LW_pairs 6 (some .int) [(0, 12, 15, 30), (0, 12, 19, 13)] :: x_T
def xw_PD_pairs : List Cond := .code xy_PD_pairs xc_PD_pairs 6 (some .int) :: x_T
def xw_RE_pairCount : List Cond := .code xy_RE_pairCount xc_RE_pairCount 3 (some .int) :: x_T
def xw_RE_pairsSharedWith : List Cond := .code xy_RE_pairsSharedWith xc_RE_pairsSharedWith 4 (some .int) :: x_T
def xw_RE_pairsTurnedIn : List Cond := .code xy_RE_pairsTurnedIn xc_RE_pairsTurnedIn 4 (some .int) :: x_T
def xw_RE_pairsLedOnBy : List Cond := .code xy_RE_pairsLedOnBy xc_RE_pairsLedOnBy 6 (some .int) :: x_T
def xw_LW_circle : List Cond := .codeWith xy_LW_circle xc_LW_circle 4 (some .int) [(0, 9, 12, 30)] :: x_T
def xw_PD_circle : List Cond := .code xy_PD_circle xc_PD_circle 2 (some .int) :: x_T
def xw_RE_leastOnCircle : List Cond := .code xy_RE_leastOnCircle xc_RE_leastOnCircle 2 (some .int) :: x_T
def xw_LW_best : List Cond := .codeWith xy_LW_best xc_LW_best 4 (some .int) [(0, 9, 12, 30)] :: x_T
def xw_PD_best : List Cond := .code xy_PD_best xc_PD_best 2 (some .int) :: x_T
def xw_RE_richestNode : List Cond := .code xy_RE_richestNode xc_RE_richestNode 5 (some .int) :: x_T
def xw_MO_init : List Cond := .code xy_MO_init xc_MO_init 1 none :: x_T
def xw_MO_thrown : List Cond := .code xy_MO_thrown xc_MO_thrown 1 (some .int) :: x_T
def xw_MO_edge : List Cond := .code xy_MO_edge xc_MO_edge 5 (some .boolean) :: x_T
def xw_MO_in : List Cond := .code xy_MO_in xc_MO_in 2 (some .boolean) :: x_T
def xw_MO_fails : List Cond := .code xy_MO_fails xc_MO_fails 3 (some .boolean) :: x_T
def xw_MO_place : List Cond := .code xy_MO_place xc_MO_place 3 (some .int) :: x_T
def xw_MO_cut : List Cond := .code xy_MO_cut xc_MO_cut 6 (some .boolean) :: x_T
def xw_MO_tag : List Cond := .code xy_MO_tag xc_MO_tag 4 none :: x_T
def xw_MO_feed : List Cond := .code xy_MO_feed xc_MO_feed 5 (some .int) :: x_T
def xw_MO_load : List Cond := .code xy_MO_load xc_MO_load 3 (some .int) :: x_T
def xw_MO_begin : List Cond := .code xy_MO_begin xc_MO_begin 2 none :: x_T
def xw_MO_bracket : List Cond := .code xy_MO_bracket xc_MO_bracket 1 none :: x_T
def xw_MO_plain : List Cond := .code xy_MO_plain xc_MO_plain 4 none :: x_T
def xw_MO_read : List Cond := .code xy_MO_read xc_MO_read 3 none :: x_T
def xw_MO_goes : List Cond := .code xy_MO_goes xc_MO_goes 1 (some .boolean) :: x_T
def xw_MO_now : List Cond := .code xy_MO_now xc_MO_now 1 (some .int) :: x_T
def xw_MO_opens : List Cond := .code xy_MO_opens xc_MO_opens 1 none :: x_T
def xw_MO_fail : List Cond := .code xy_MO_fail xc_MO_fail 1 none :: x_T
def xw_MO_shuts : List Cond := .code xy_MO_shuts xc_MO_shuts 1 none :: x_T
def xw_MO_bar : List Cond := .code xy_MO_bar xc_MO_bar 1 none :: x_T
def xw_MO_either : List Cond := .code xy_MO_either xc_MO_either 5 none :: x_T
def xw_MO_copy : List Cond := .code xy_MO_copy xc_MO_copy 4 none :: x_T
def xw_MO_signs : List Cond := .code xy_MO_signs xc_MO_signs 3 none :: x_T
def xw_MO_counted : List Cond := .code xy_MO_counted xc_MO_counted 5 none :: x_T
def xw_MO_digit : List Cond := .code xy_MO_digit xc_MO_digit 3 (some .int) :: x_T
def xw_MO_must : List Cond := .code xy_MO_must xc_MO_must 2 none :: x_T
def xw_MO_behind : List Cond := .code xy_MO_behind xc_MO_behind 5 none :: x_T
def xw_MO_spread : List Cond := .code xy_MO_spread xc_MO_spread 6 none :: x_T
def xw_MO_again : List Cond := .code xy_MO_again xc_MO_again 6 none :: x_T
def xw_MO_isLetter : List Cond := .code xy_MO_isLetter xc_MO_isLetter 1 (some .boolean) :: x_T
def xw_MO_atom : List Cond := .code xy_MO_atom xc_MO_atom 7 none :: x_T
def xw_MO_test : List Cond := .code xy_MO_test xc_MO_test 5 none :: x_T
def xw_MO_reach : List Cond := .code xy_MO_reach xc_MO_reach 7 (some .int) :: x_T
def xw_MO_lengths : List Cond := .code xy_MO_lengths xc_MO_lengths 4 none :: x_T
def xw_MO_distance : List Cond := .code xy_MO_distance xc_MO_distance 6 (some .int) :: x_T
def xw_MO_span : List Cond := .code xy_MO_span xc_MO_span 4 (some .int) :: x_T
def xw_MO_pairs : List Cond := .code xy_MO_pairs xc_MO_pairs 9 (some .int) :: x_T
def xw_MO_circle : List Cond := .code xy_MO_circle xc_MO_circle 3 (some .int) :: x_T
def xw_MO_best : List Cond := .code xy_MO_best xc_MO_best 7 (some .int) :: x_T
def xw_MO_count : List Cond := .code xy_MO_count xc_MO_count 4 (some .int) :: x_T
end
section
theorem x_mem {w : Cond} (i : Nat) (h : (lw_tbl[i]? == some w) = true) (hg : goodWord w = true) : w ∈ x_T := List.mem_filter.mpr ⟨List.mem_of_getElem? (i := i) (by simpa using h), hg⟩
theorem x_good {c : Cond} (h : c ∈ x_T) : GoodIn x_T (c :: x_T) := fun w hw => by
  rcases List.mem_cons.mp hw with rfl | hw
  · exact ⟨h, x_T_good _ h⟩
  · exact ⟨hw, x_T_good _ hw⟩
theorem xk_s_PD_forgetRelations : Cond.selects xr_PD xy_PD_forgetRelations xy_PD_forgetRelations ∈ x_T := x_mem 1 (by decide +kernel) (by decide +kernel)
theorem xk_s_RD_start : Cond.selects xr_RD xy_RD_start xy_RD_start ∈ x_T := x_mem 2 (by decide +kernel) (by decide +kernel)
theorem xk_s_RD_startAlternative : Cond.selects xr_RD xy_RD_startAlternative xy_RD_startAlternative ∈ x_T := x_mem 3 (by decide +kernel) (by decide +kernel)
theorem xk_s_RD_takeInRow : Cond.selects xr_RD xy_RD_takeInRow xy_RD_takeInRow ∈ x_T := x_mem 4 (by decide +kernel) (by decide +kernel)
theorem xk_s_RD_openGroup : Cond.selects xr_RD xy_RD_openGroup xy_RD_openGroup ∈ x_T := x_mem 5 (by decide +kernel) (by decide +kernel)
theorem xk_s_RD_endRepeat : Cond.selects xr_RD xy_RD_endRepeat xy_RD_endRepeat ∈ x_T := x_mem 6 (by decide +kernel) (by decide +kernel)
theorem xk_s_RD_closeGroup : Cond.selects xr_RD xy_RD_closeGroup xy_RD_closeGroup ∈ x_T := x_mem 7 (by decide +kernel) (by decide +kernel)
theorem xk_s_RD_endRow : Cond.selects xr_RD xy_RD_endRow xy_RD_endRow ∈ x_T := x_mem 8 (by decide +kernel) (by decide +kernel)
theorem xk_s_RD_startRepeat : Cond.selects xr_RD xy_RD_startRepeat xy_RD_startRepeat ∈ x_T := x_mem 9 (by decide +kernel) (by decide +kernel)
theorem xk_s_RD_goOnTo : Cond.selects xr_RD xy_RD_goOnTo xy_RD_goOnTo ∈ x_T := x_mem 10 (by decide +kernel) (by decide +kernel)
theorem xk_s_RD_changeRepeat : Cond.selects xr_RD xy_RD_changeRepeat xy_RD_changeRepeat ∈ x_T := x_mem 11 (by decide +kernel) (by decide +kernel)
theorem xk_s_RD_takeStep : Cond.selects xr_RD xy_RD_takeStep xy_RD_takeStep ∈ x_T := x_mem 12 (by decide +kernel) (by decide +kernel)
theorem xk_s_RD_addStep : Cond.selects xr_RD xy_RD_addStep xy_RD_addStep ∈ x_T := x_mem 13 (by decide +kernel) (by decide +kernel)
theorem xk_s_RD_takeInside : Cond.selects xr_RD xy_RD_takeInside xy_RD_takeInside ∈ x_T := x_mem 14 (by decide +kernel) (by decide +kernel)
theorem xk_s_RD_takeTag : Cond.selects xr_RD xy_RD_takeTag xy_RD_takeTag ∈ x_T := x_mem 15 (by decide +kernel) (by decide +kernel)
theorem xk_s_RD_takeLeast : Cond.selects xr_RD xy_RD_takeLeast xy_RD_takeLeast ∈ x_T := x_mem 16 (by decide +kernel) (by decide +kernel)
theorem xk_s_RD_takeBraceEnd : Cond.selects xr_RD xy_RD_takeBraceEnd xy_RD_takeBraceEnd ∈ x_T := x_mem 17 (by decide +kernel) (by decide +kernel)
theorem xk_s_RD_takeMost : Cond.selects xr_RD xy_RD_takeMost xy_RD_takeMost ∈ x_T := x_mem 18 (by decide +kernel) (by decide +kernel)
theorem xk_s_PD_relationOf : Cond.selects xr_PD xy_PD_relationOf xy_PD_relationOf ∈ x_T := x_mem 19 (by decide +kernel) (by decide +kernel)
theorem xk_s_BE_layDown : Cond.selects xr_BE xy_BE_layDown xy_BE_layDown ∈ x_T := x_mem 20 (by decide +kernel) (by decide +kernel)
theorem xk_s_BE_at : Cond.selects xr_BE xy_BE_at xy_BE_at ∈ x_T := x_mem 21 (by decide +kernel) (by decide +kernel)
theorem xk_s_BE_chainTwo : Cond.selects xr_BE xy_BE_chainTwo xy_BE_chainTwo ∈ x_T := x_mem 22 (by decide +kernel) (by decide +kernel)
theorem xk_s_RE_addGoingOn : Cond.selects xr_RE xy_RE_addGoingOn xy_RE_addGoingOn ∈ x_T := x_mem 23 (by decide +kernel) (by decide +kernel)
theorem xk_s_BE_joinTwo : Cond.selects xr_BE xy_BE_joinTwo xy_BE_joinTwo ∈ x_T := x_mem 24 (by decide +kernel) (by decide +kernel)
theorem xk_s_BE_copyTop : Cond.selects xr_BE xy_BE_copyTop xy_BE_copyTop ∈ x_T := x_mem 25 (by decide +kernel) (by decide +kernel)
theorem xk_s_MO_fails : Cond.selects xr_MO xy_MO_fails xy_MO_fails ∈ x_T := x_mem 26 (by decide +kernel) (by decide +kernel)
theorem xk_s_MO_begin : Cond.selects xr_MO xy_MO_begin xy_MO_begin ∈ x_T := x_mem 27 (by decide +kernel) (by decide +kernel)
theorem xk_s_MO_bracket : Cond.selects xr_MO xy_MO_bracket xy_MO_bracket ∈ x_T := x_mem 28 (by decide +kernel) (by decide +kernel)
theorem xk_s_MO_plain : Cond.selects xr_MO xy_MO_plain xy_MO_plain ∈ x_T := x_mem 29 (by decide +kernel) (by decide +kernel)
theorem xk_s_MO_read : Cond.selects xr_MO xy_MO_read xy_MO_read ∈ x_T := x_mem 30 (by decide +kernel) (by decide +kernel)
theorem xk_s_MO_goes : Cond.selects xr_MO xy_MO_goes xy_MO_goes ∈ x_T := x_mem 31 (by decide +kernel) (by decide +kernel)
theorem xk_s_MO_now : Cond.selects xr_MO xy_MO_now xy_MO_now ∈ x_T := x_mem 32 (by decide +kernel) (by decide +kernel)
theorem xk_s_MO_opens : Cond.selects xr_MO xy_MO_opens xy_MO_opens ∈ x_T := x_mem 33 (by decide +kernel) (by decide +kernel)
theorem xk_s_MO_fail : Cond.selects xr_MO xy_MO_fail xy_MO_fail ∈ x_T := x_mem 34 (by decide +kernel) (by decide +kernel)
theorem xk_s_MO_shuts : Cond.selects xr_MO xy_MO_shuts xy_MO_shuts ∈ x_T := x_mem 35 (by decide +kernel) (by decide +kernel)
theorem xk_s_MO_bar : Cond.selects xr_MO xy_MO_bar xy_MO_bar ∈ x_T := x_mem 36 (by decide +kernel) (by decide +kernel)
theorem xk_s_MO_either : Cond.selects xr_MO xy_MO_either xy_MO_either ∈ x_T := x_mem 37 (by decide +kernel) (by decide +kernel)
theorem xk_s_MO_copy : Cond.selects xr_MO xy_MO_copy xy_MO_copy ∈ x_T := x_mem 38 (by decide +kernel) (by decide +kernel)
theorem xk_s_MO_signs : Cond.selects xr_MO xy_MO_signs xy_MO_signs ∈ x_T := x_mem 39 (by decide +kernel) (by decide +kernel)
theorem xk_s_MO_counted : Cond.selects xr_MO xy_MO_counted xy_MO_counted ∈ x_T := x_mem 40 (by decide +kernel) (by decide +kernel)
theorem xk_s_MO_digit : Cond.selects xr_MO xy_MO_digit xy_MO_digit ∈ x_T := x_mem 41 (by decide +kernel) (by decide +kernel)
theorem xk_s_MO_must : Cond.selects xr_MO xy_MO_must xy_MO_must ∈ x_T := x_mem 42 (by decide +kernel) (by decide +kernel)
theorem xk_s_MO_behind : Cond.selects xr_MO xy_MO_behind xy_MO_behind ∈ x_T := x_mem 43 (by decide +kernel) (by decide +kernel)
theorem xk_s_MO_spread : Cond.selects xr_MO xy_MO_spread xy_MO_spread ∈ x_T := x_mem 44 (by decide +kernel) (by decide +kernel)
theorem xk_s_MO_again : Cond.selects xr_MO xy_MO_again xy_MO_again ∈ x_T := x_mem 45 (by decide +kernel) (by decide +kernel)
theorem xk_s_MO_atom : Cond.selects xr_MO xy_MO_atom xy_MO_atom ∈ x_T := x_mem 46 (by decide +kernel) (by decide +kernel)
theorem xk_s_MO_test : Cond.selects xr_MO xy_MO_test xy_MO_test ∈ x_T := x_mem 47 (by decide +kernel) (by decide +kernel)
theorem xk_s_MO_lengths : Cond.selects xr_MO xy_MO_lengths xy_MO_lengths ∈ x_T := x_mem 48 (by decide +kernel) (by decide +kernel)
theorem xk_n_LW : Cond.initialized xr_LW ∈ x_T := x_mem 49 (by decide +kernel) (by decide +kernel)
theorem xk_n_PD : Cond.initialized xr_PD ∈ x_T := x_mem 50 (by decide +kernel) (by decide +kernel)
theorem xk_n_GR : Cond.initialized xr_GR ∈ x_T := x_mem 51 (by decide +kernel) (by decide +kernel)
theorem xk_n_RD : Cond.initialized xr_RD ∈ x_T := x_mem 52 (by decide +kernel) (by decide +kernel)
theorem xk_n_EX : Cond.initialized xr_EX ∈ x_T := x_mem 53 (by decide +kernel) (by decide +kernel)
theorem xk_n_BE : Cond.initialized xr_BE ∈ x_T := x_mem 54 (by decide +kernel) (by decide +kernel)
theorem xk_n_RE : Cond.initialized xr_RE ∈ x_T := x_mem 55 (by decide +kernel) (by decide +kernel)
theorem xk_n_MO : Cond.initialized xr_MO ∈ x_T := x_mem 56 (by decide +kernel) (by decide +kernel)
theorem xk_n_JT : Cond.initialized xr_JT ∈ x_T := x_mem 57 (by decide +kernel) (by decide +kernel)
theorem xk_n_JE : Cond.initialized xr_JE ∈ x_T := x_mem 58 (by decide +kernel) (by decide +kernel)
theorem xk_n_JR : Cond.initialized xr_JR ∈ x_T := x_mem 59 (by decide +kernel) (by decide +kernel)
theorem xk_n_JG : Cond.initialized xr_JG ∈ x_T := x_mem 60 (by decide +kernel) (by decide +kernel)
theorem xk_n_JX : Cond.initialized xr_JX ∈ x_T := x_mem 61 (by decide +kernel) (by decide +kernel)
theorem xk_n_JM : Cond.initialized xr_JM ∈ x_T := x_mem 62 (by decide +kernel) (by decide +kernel)
theorem xk_n_JA : Cond.initialized xr_JA ∈ x_T := x_mem 63 (by decide +kernel) (by decide +kernel)
theorem xk_n_JI : Cond.initialized xr_JI ∈ x_T := x_mem 64 (by decide +kernel) (by decide +kernel)
theorem xk_LW_c8 : Cond.classLink xr_LW 8 xr_PD ∈ x_T := x_mem 65 (by decide +kernel) (by decide +kernel)
theorem xk_a_PD : Cond.instantiable xr_PD 8 ∈ x_T := x_mem 66 (by decide +kernel) (by decide +kernel)
theorem xk_LW_m52 : Cond.methodLink xr_LW 52 xy_PD_init ∈ x_T := x_mem 67 (by decide +kernel) (by decide +kernel)
theorem xk_i_PD_init : Cond.instanceMethod xy_PD_init ∈ x_T := x_mem 68 (by decide +kernel) (by decide +kernel)
theorem xk_c_PD_init : Cond.code xy_PD_init xc_PD_init 2 none ∈ x_T := x_mem 69 (by decide +kernel) (by decide +kernel)
theorem xk_PD_m3 : Cond.methodLink xr_PD 3 xy_JO_init ∈ x_T := x_mem 70 (by decide +kernel) (by decide +kernel)
theorem xk_i_JO_init : Cond.instanceMethod xy_JO_init ∈ x_T := x_mem 71 (by decide +kernel) (by decide +kernel)
theorem xk_c_JO_init : Cond.code xy_JO_init xc_JO_init 1 none ∈ x_T := x_mem 72 (by decide +kernel) (by decide +kernel)
theorem xk_PD_c9 : Cond.classLink xr_PD 9 xr_GR ∈ x_T := x_mem 73 (by decide +kernel) (by decide +kernel)
theorem xk_a_GR : Cond.instantiable xr_GR 3 ∈ x_T := x_mem 74 (by decide +kernel) (by decide +kernel)
theorem xk_i_GR_init : Cond.instanceMethod xy_GR_init ∈ x_T := x_mem 76 (by decide +kernel) (by decide +kernel)
theorem xk_c_GR_init : Cond.code xy_GR_init xc_GR_init 1 none ∈ x_T := x_mem 77 (by decide +kernel) (by decide +kernel)
theorem xk_GR_m3 : Cond.methodLink xr_GR 3 xy_JO_init ∈ x_T := x_mem 78 (by decide +kernel) (by decide +kernel)
theorem xk_GR_f9 : Cond.fieldLink xr_GR 9 (xf_GR 0).1 (xf_GR 0).2.1 (xf_GR 0).2.2.1 ∈ x_T := x_mem 79 (by decide +kernel) (by decide +kernel)
theorem xk_GR_f15 : Cond.fieldLink xr_GR 15 (xf_GR 1).1 (xf_GR 1).2.1 (xf_GR 1).2.2.1 ∈ x_T := x_mem 80 (by decide +kernel) (by decide +kernel)
theorem xk_GR_f18 : Cond.fieldLink xr_GR 18 (xf_GR 2).1 (xf_GR 2).2.1 (xf_GR 2).2.2.1 ∈ x_T := x_mem 81 (by decide +kernel) (by decide +kernel)
theorem xk_ac_int : Cond.arrayClass .int ∈ x_T := x_mem 90 (by decide +kernel) (by decide +kernel)
theorem xk_PD_c16 : Cond.classLink xr_PD 16 xr_RD ∈ x_T := x_mem 91 (by decide +kernel) (by decide +kernel)
theorem xk_a_RD : Cond.instantiable xr_RD 8 ∈ x_T := x_mem 92 (by decide +kernel) (by decide +kernel)
theorem xk_i_RD_init : Cond.instanceMethod xy_RD_init ∈ x_T := x_mem 94 (by decide +kernel) (by decide +kernel)
theorem xk_c_RD_init : Cond.code xy_RD_init xc_RD_init 1 none ∈ x_T := x_mem 95 (by decide +kernel) (by decide +kernel)
theorem xk_RD_m3 : Cond.methodLink xr_RD 3 xy_JO_init ∈ x_T := x_mem 96 (by decide +kernel) (by decide +kernel)
theorem xk_RD_c15 : Cond.classLink xr_RD 15 xr_EX ∈ x_T := x_mem 97 (by decide +kernel) (by decide +kernel)
theorem xk_a_EX : Cond.instantiable xr_EX 3 ∈ x_T := x_mem 98 (by decide +kernel) (by decide +kernel)
theorem xk_RD_m17 : Cond.methodLink xr_RD 17 xy_EX_init ∈ x_T := x_mem 99 (by decide +kernel) (by decide +kernel)
theorem xk_i_EX_init : Cond.instanceMethod xy_EX_init ∈ x_T := x_mem 100 (by decide +kernel) (by decide +kernel)
theorem xk_c_EX_init : Cond.code xy_EX_init xc_EX_init 1 none ∈ x_T := x_mem 101 (by decide +kernel) (by decide +kernel)
theorem xk_EX_m5 : Cond.methodLink xr_EX 5 xy_JO_init ∈ x_T := x_mem 102 (by decide +kernel) (by decide +kernel)
theorem xk_EX_f11 : Cond.fieldLink xr_EX 11 (xf_EX 0).1 (xf_EX 0).2.1 (xf_EX 0).2.2.1 ∈ x_T := x_mem 103 (by decide +kernel) (by decide +kernel)
theorem xk_EX_f15 : Cond.fieldLink xr_EX 15 (xf_EX 1).1 (xf_EX 1).2.1 (xf_EX 1).2.2.1 ∈ x_T := x_mem 105 (by decide +kernel) (by decide +kernel)
theorem xk_EX_f19 : Cond.fieldLink xr_EX 19 (xf_EX 2).1 (xf_EX 2).2.1 (xf_EX 2).2.2.1 ∈ x_T := x_mem 107 (by decide +kernel) (by decide +kernel)
theorem xk_RD_f9 : Cond.fieldLink xr_RD 9 (xf_RD 0).1 (xf_RD 0).2.1 (xf_RD 0).2.2.1 ∈ x_T := x_mem 117 (by decide +kernel) (by decide +kernel)
theorem xk_RD_f18 : Cond.fieldLink xr_RD 18 (xf_RD 1).1 (xf_RD 1).2.1 (xf_RD 1).2.2.1 ∈ x_T := x_mem 118 (by decide +kernel) (by decide +kernel)
theorem xk_RD_f22 : Cond.fieldLink xr_RD 22 (xf_RD 2).1 (xf_RD 2).2.1 (xf_RD 2).2.2.1 ∈ x_T := x_mem 119 (by decide +kernel) (by decide +kernel)
theorem xk_RD_f26 : Cond.fieldLink xr_RD 26 (xf_RD 3).1 (xf_RD 3).2.1 (xf_RD 3).2.2.1 ∈ x_T := x_mem 120 (by decide +kernel) (by decide +kernel)
theorem xk_RD_f29 : Cond.fieldLink xr_RD 29 (xf_RD 4).1 (xf_RD 4).2.1 (xf_RD 4).2.2.1 ∈ x_T := x_mem 121 (by decide +kernel) (by decide +kernel)
theorem xk_RD_f33 : Cond.fieldLink xr_RD 33 (xf_RD 5).1 (xf_RD 5).2.1 (xf_RD 5).2.2.1 ∈ x_T := x_mem 122 (by decide +kernel) (by decide +kernel)
theorem xk_RD_f36 : Cond.fieldLink xr_RD 36 (xf_RD 6).1 (xf_RD 6).2.1 (xf_RD 6).2.2.1 ∈ x_T := x_mem 123 (by decide +kernel) (by decide +kernel)
theorem xk_RD_f39 : Cond.fieldLink xr_RD 39 (xf_RD 7).1 (xf_RD 7).2.1 (xf_RD 7).2.2.1 ∈ x_T := x_mem 124 (by decide +kernel) (by decide +kernel)
theorem xk_PD_c23 : Cond.classLink xr_PD 23 xr_BE ∈ x_T := x_mem 142 (by decide +kernel) (by decide +kernel)
theorem xk_a_BE : Cond.instantiable xr_BE 3 ∈ x_T := x_mem 143 (by decide +kernel) (by decide +kernel)
theorem xk_i_BE_init : Cond.instanceMethod xy_BE_init ∈ x_T := x_mem 145 (by decide +kernel) (by decide +kernel)
theorem xk_c_BE_init : Cond.code xy_BE_init xc_BE_init 1 none ∈ x_T := x_mem 146 (by decide +kernel) (by decide +kernel)
theorem xk_BE_m3 : Cond.methodLink xr_BE 3 xy_JO_init ∈ x_T := x_mem 147 (by decide +kernel) (by decide +kernel)
theorem xk_BE_c11 : Cond.classLink xr_BE 11 xr_RE ∈ x_T := x_mem 148 (by decide +kernel) (by decide +kernel)
theorem xk_a_RE : Cond.instantiable xr_RE 2 ∈ x_T := x_mem 150 (by decide +kernel) (by decide +kernel)
theorem xk_i_RE_init : Cond.instanceMethod xy_RE_init ∈ x_T := x_mem 152 (by decide +kernel) (by decide +kernel)
theorem xk_c_RE_init : Cond.code xy_RE_init xc_RE_init 1 none ∈ x_T := x_mem 153 (by decide +kernel) (by decide +kernel)
theorem xk_RE_m3 : Cond.methodLink xr_RE 3 xy_JO_init ∈ x_T := x_mem 154 (by decide +kernel) (by decide +kernel)
theorem xk_RE_f9 : Cond.fieldLink xr_RE 9 (xf_RE 0).1 (xf_RE 0).2.1 (xf_RE 0).2.2.1 ∈ x_T := x_mem 155 (by decide +kernel) (by decide +kernel)
theorem xk_RE_f15 : Cond.fieldLink xr_RE 15 (xf_RE 1).1 (xf_RE 1).2.1 (xf_RE 1).2.2.1 ∈ x_T := x_mem 157 (by decide +kernel) (by decide +kernel)
theorem xk_BE_f13 : Cond.fieldLink xr_BE 13 (xf_BE 0).1 (xf_BE 0).2.1 (xf_BE 0).2.2.1 ∈ x_T := x_mem 163 (by decide +kernel) (by decide +kernel)
theorem xk_BE_f17 : Cond.fieldLink xr_BE 17 (xf_BE 1).1 (xf_BE 1).2.1 (xf_BE 1).2.2.1 ∈ x_T := x_mem 164 (by decide +kernel) (by decide +kernel)
theorem xk_BE_f22 : Cond.fieldLink xr_BE 22 (xf_BE 2).1 (xf_BE 2).2.1 (xf_BE 2).2.2.1 ∈ x_T := x_mem 165 (by decide +kernel) (by decide +kernel)
theorem xk_PD_c38 : Cond.classLink xr_PD 38 xr_EX ∈ x_T := x_mem 173 (by decide +kernel) (by decide +kernel)
theorem xk_PD_c44 : Cond.classLink xr_PD 44 xr_RE ∈ x_T := x_mem 175 (by decide +kernel) (by decide +kernel)
theorem xk_PD_m54 : Cond.methodLink xr_PD 54 xy_EX_init ∈ x_T := x_mem 176 (by decide +kernel) (by decide +kernel)
theorem xk_PD_f12 : Cond.fieldLink xr_PD 12 (xf_PD 0).1 (xf_PD 0).2.1 (xf_PD 0).2.2.1 ∈ x_T := x_mem 178 (by decide +kernel) (by decide +kernel)
theorem xk_PD_f19 : Cond.fieldLink xr_PD 19 (xf_PD 1).1 (xf_PD 1).2.1 (xf_PD 1).2.2.1 ∈ x_T := x_mem 179 (by decide +kernel) (by decide +kernel)
theorem xk_PD_f26 : Cond.fieldLink xr_PD 26 (xf_PD 2).1 (xf_PD 2).2.1 (xf_PD 2).2.2.1 ∈ x_T := x_mem 180 (by decide +kernel) (by decide +kernel)
theorem xk_PD_f30 : Cond.fieldLink xr_PD 30 (xf_PD 3).1 (xf_PD 3).2.1 (xf_PD 3).2.2.1 ∈ x_T := x_mem 181 (by decide +kernel) (by decide +kernel)
theorem xk_PD_f34 : Cond.fieldLink xr_PD 34 (xf_PD 4).1 (xf_PD 4).2.1 (xf_PD 4).2.2.1 ∈ x_T := x_mem 182 (by decide +kernel) (by decide +kernel)
theorem xk_PD_f40 : Cond.fieldLink xr_PD 40 (xf_PD 5).1 (xf_PD 5).2.1 (xf_PD 5).2.2.1 ∈ x_T := x_mem 183 (by decide +kernel) (by decide +kernel)
theorem xk_PD_f46 : Cond.fieldLink xr_PD 46 (xf_PD 6).1 (xf_PD 6).2.1 (xf_PD 6).2.2.1 ∈ x_T := x_mem 184 (by decide +kernel) (by decide +kernel)
theorem xk_PD_f50 : Cond.fieldLink xr_PD 50 (xf_PD 7).1 (xf_PD 7).2.1 (xf_PD 7).2.2.1 ∈ x_T := x_mem 185 (by decide +kernel) (by decide +kernel)
theorem xk_ac_boolean : Cond.arrayClass .boolean ∈ x_T := x_mem 203 (by decide +kernel) (by decide +kernel)
theorem xk_LW_m102 : Cond.methodLink xr_LW 102 xy_PD_count ∈ x_T := x_mem 204 (by decide +kernel) (by decide +kernel)
theorem xk_i_PD_count : Cond.instanceMethod xy_PD_count ∈ x_T := x_mem 205 (by decide +kernel) (by decide +kernel)
theorem xk_s_PD_count : Cond.selects xr_PD xy_PD_count xy_PD_count ∈ x_T := x_mem 206 (by decide +kernel) (by decide +kernel)
theorem xk_c_PD_count : Cond.code xy_PD_count xc_PD_count 2 (some .int) ∈ x_T := x_mem 207 (by decide +kernel) (by decide +kernel)
theorem xk_PD_m146 : Cond.methodLink xr_PD 146 xy_GR_edgesOf ∈ x_T := x_mem 208 (by decide +kernel) (by decide +kernel)
theorem xk_i_GR_edgesOf : Cond.instanceMethod xy_GR_edgesOf ∈ x_T := x_mem 209 (by decide +kernel) (by decide +kernel)
theorem xk_s_GR_edgesOf : Cond.selects xr_GR xy_GR_edgesOf xy_GR_edgesOf ∈ x_T := x_mem 210 (by decide +kernel) (by decide +kernel)
theorem xk_c_GR_edgesOf : Cond.code xy_GR_edgesOf xc_GR_edgesOf 4 (some .int) ∈ x_T := x_mem 211 (by decide +kernel) (by decide +kernel)
theorem xk_GR_m26 : Cond.methodLink xr_GR 26 xy_JI_bitCount ∈ x_T := x_mem 212 (by decide +kernel) (by decide +kernel)
theorem xk_t_JI_bitCount : Cond.static xy_JI_bitCount ∈ x_T := x_mem 213 (by decide +kernel) (by decide +kernel)
theorem xk_c_JI_bitCount : Cond.code xy_JI_bitCount xc_JI_bitCount 1 (some .int) ∈ x_T := x_mem 214 (by decide +kernel) (by decide +kernel)
theorem xk_JI_k265 : Cond.constant xr_JI 265 1431655765 ∈ x_T := x_mem 215 (by decide +kernel) (by decide +kernel)
theorem xk_JI_k266 : Cond.constant xr_JI 266 858993459 ∈ x_T := x_mem 216 (by decide +kernel) (by decide +kernel)
theorem xk_JI_k267 : Cond.constant xr_JI 267 252645135 ∈ x_T := x_mem 217 (by decide +kernel) (by decide +kernel)
theorem xk_PD_m149 : Cond.methodLink xr_PD 149 xy_GR_nodesWith ∈ x_T := x_mem 218 (by decide +kernel) (by decide +kernel)
theorem xk_i_GR_nodesWith : Cond.instanceMethod xy_GR_nodesWith ∈ x_T := x_mem 219 (by decide +kernel) (by decide +kernel)
theorem xk_s_GR_nodesWith : Cond.selects xr_GR xy_GR_nodesWith xy_GR_nodesWith ∈ x_T := x_mem 220 (by decide +kernel) (by decide +kernel)
theorem xk_c_GR_nodesWith : Cond.code xy_GR_nodesWith xc_GR_nodesWith 2 (some .int) ∈ x_T := x_mem 221 (by decide +kernel) (by decide +kernel)
theorem xk_PD_m152 : Cond.methodLink xr_PD 152 xy_JI_bitCount ∈ x_T := x_mem 222 (by decide +kernel) (by decide +kernel)
theorem xk_LW_m56 : Cond.methodLink xr_LW 56 xy_LW_edge ∈ x_T := x_mem 223 (by decide +kernel) (by decide +kernel)
theorem xk_t_LW_edge : Cond.static xy_LW_edge ∈ x_T := x_mem 224 (by decide +kernel) (by decide +kernel)
theorem xk_c_LW_edge : Cond.codeWith xy_LW_edge xc_LW_edge 6 (some .int) [(0, 19, 22, 13)] ∈ x_T := x_mem 225 (by decide +kernel) (by decide +kernel)
theorem xk_LW_c13 : Cond.classLink xr_LW 13 xr_JG ∈ x_T := x_mem 226 (by decide +kernel) (by decide +kernel)
theorem xk_LW_m7 : Cond.methodLink xr_LW 7 xy_PD_edge ∈ x_T := x_mem 227 (by decide +kernel) (by decide +kernel)
theorem xk_i_PD_edge : Cond.instanceMethod xy_PD_edge ∈ x_T := x_mem 228 (by decide +kernel) (by decide +kernel)
theorem xk_s_PD_edge : Cond.selects xr_PD xy_PD_edge xy_PD_edge ∈ x_T := x_mem 229 (by decide +kernel) (by decide +kernel)
theorem xk_c_PD_edge : Cond.code xy_PD_edge xc_PD_edge 4 (some .boolean) ∈ x_T := x_mem 230 (by decide +kernel) (by decide +kernel)
theorem xk_PD_m56 : Cond.methodLink xr_PD 56 xy_PD_needNode ∈ x_T := x_mem 231 (by decide +kernel) (by decide +kernel)
theorem xk_t_PD_needNode : Cond.static xy_PD_needNode ∈ x_T := x_mem 232 (by decide +kernel) (by decide +kernel)
theorem xk_c_PD_needNode : Cond.code xy_PD_needNode xc_PD_needNode 1 none ∈ x_T := x_mem 233 (by decide +kernel) (by decide +kernel)
theorem xk_PD_c80 : Cond.classLink xr_PD 80 xr_JG ∈ x_T := x_mem 234 (by decide +kernel) (by decide +kernel)
theorem xk_a_JG : Cond.instantiable xr_JG 6 ∈ x_T := x_mem 235 (by decide +kernel) (by decide +kernel)
theorem xk_i_JT_init : Cond.instanceMethod xy_JT_init ∈ x_T := x_mem 257 (by decide +kernel) (by decide +kernel)
theorem xk_c_JT_init : Cond.code xy_JT_init xc_JT_init 1 none ∈ x_T := x_mem 258 (by decide +kernel) (by decide +kernel)
theorem xk_JT_m1 : Cond.methodLink xr_JT 1 xy_JO_init ∈ x_T := x_mem 259 (by decide +kernel) (by decide +kernel)
theorem xk_JT_m27 : Cond.methodLink xr_JT 27 xy_JT_fillInStackTrace ∈ x_T := x_mem 264 (by decide +kernel) (by decide +kernel)
theorem xk_i_JT_fillInStackTrace : Cond.instanceMethod xy_JT_fillInStackTrace ∈ x_T := x_mem 265 (by decide +kernel) (by decide +kernel)
theorem xk_a_JT : Cond.instantiable xr_JT 6 ∈ x_T := x_mem 272 (by decide +kernel) (by decide +kernel)
theorem xk_PD_m84 : Cond.methodLink xr_PD 84 xy_JG_init ∈ x_T := x_mem 275 (by decide +kernel) (by decide +kernel)
theorem xk_i_JG_init : Cond.instanceMethod xy_JG_init ∈ x_T := x_mem 276 (by decide +kernel) (by decide +kernel)
theorem xk_c_JG_init : Cond.code xy_JG_init xc_JG_init 2 none ∈ x_T := x_mem 277 (by decide +kernel) (by decide +kernel)
theorem xk_JG_m7 : Cond.methodLink xr_JG 7 xy_JR_init ∈ x_T := x_mem 278 (by decide +kernel) (by decide +kernel)
theorem xk_i_JR_init : Cond.instanceMethod xy_JR_init ∈ x_T := x_mem 279 (by decide +kernel) (by decide +kernel)
theorem xk_c_JR_init : Cond.code xy_JR_init xc_JR_init 2 none ∈ x_T := x_mem 280 (by decide +kernel) (by decide +kernel)
theorem xk_JR_m7 : Cond.methodLink xr_JR 7 xy_JE_init ∈ x_T := x_mem 281 (by decide +kernel) (by decide +kernel)
theorem xk_i_JE_init : Cond.instanceMethod xy_JE_init ∈ x_T := x_mem 282 (by decide +kernel) (by decide +kernel)
theorem xk_c_JE_init : Cond.code xy_JE_init xc_JE_init 2 none ∈ x_T := x_mem 283 (by decide +kernel) (by decide +kernel)
theorem xk_JE_m7 : Cond.methodLink xr_JE 7 xy_JT_init_237 ∈ x_T := x_mem 284 (by decide +kernel) (by decide +kernel)
theorem xk_i_JT_init_237 : Cond.instanceMethod xy_JT_init_237 ∈ x_T := x_mem 285 (by decide +kernel) (by decide +kernel)
theorem xk_c_JT_init_237 : Cond.code xy_JT_init_237 xc_JT_init_237 2 none ∈ x_T := x_mem 286 (by decide +kernel) (by decide +kernel)
theorem xk_ac_byte : Cond.arrayClass .byte ∈ x_T := x_mem 300 (by decide +kernel) (by decide +kernel)
theorem xk_PD_m60 : Cond.methodLink xr_PD 60 xy_PD_needLabel ∈ x_T := x_mem 301 (by decide +kernel) (by decide +kernel)
theorem xk_t_PD_needLabel : Cond.static xy_PD_needLabel ∈ x_T := x_mem 302 (by decide +kernel) (by decide +kernel)
theorem xk_c_PD_needLabel : Cond.code xy_PD_needLabel xc_PD_needLabel 1 none ∈ x_T := x_mem 303 (by decide +kernel) (by decide +kernel)
theorem xk_PD_m63 : Cond.methodLink xr_PD 63 xy_GR_hasEdge ∈ x_T := x_mem 305 (by decide +kernel) (by decide +kernel)
theorem xk_i_GR_hasEdge : Cond.instanceMethod xy_GR_hasEdge ∈ x_T := x_mem 306 (by decide +kernel) (by decide +kernel)
theorem xk_s_GR_hasEdge : Cond.selects xr_GR xy_GR_hasEdge xy_GR_hasEdge ∈ x_T := x_mem 307 (by decide +kernel) (by decide +kernel)
theorem xk_c_GR_hasEdge : Cond.code xy_GR_hasEdge xc_GR_hasEdge 4 (some .boolean) ∈ x_T := x_mem 308 (by decide +kernel) (by decide +kernel)
theorem xk_t_PD_isIn : Cond.static xy_PD_isIn ∈ x_T := x_mem 310 (by decide +kernel) (by decide +kernel)
theorem xk_c_PD_isIn : Cond.code xy_PD_isIn xc_PD_isIn 2 (some .boolean) ∈ x_T := x_mem 311 (by decide +kernel) (by decide +kernel)
theorem xk_PD_m70 : Cond.methodLink xr_PD 70 xy_GR_putEdge ∈ x_T := x_mem 312 (by decide +kernel) (by decide +kernel)
theorem xk_i_GR_putEdge : Cond.instanceMethod xy_GR_putEdge ∈ x_T := x_mem 313 (by decide +kernel) (by decide +kernel)
theorem xk_s_GR_putEdge : Cond.selects xr_GR xy_GR_putEdge xy_GR_putEdge ∈ x_T := x_mem 314 (by decide +kernel) (by decide +kernel)
theorem xk_c_GR_putEdge : Cond.code xy_GR_putEdge xc_GR_putEdge 4 none ∈ x_T := x_mem 315 (by decide +kernel) (by decide +kernel)
theorem xk_PD_m74 : Cond.methodLink xr_PD 74 xy_PD_forgetRelations ∈ x_T := x_mem 316 (by decide +kernel) (by decide +kernel)
theorem xk_i_PD_forgetRelations : Cond.instanceMethod xy_PD_forgetRelations ∈ x_T := x_mem 318 (by decide +kernel) (by decide +kernel)
theorem xk_c_PD_forgetRelations : Cond.code xy_PD_forgetRelations xc_PD_forgetRelations 2 none ∈ x_T := x_mem 319 (by decide +kernel) (by decide +kernel)
theorem xk_LW_m66 : Cond.methodLink xr_LW 66 xy_LW_cut ∈ x_T := x_mem 320 (by decide +kernel) (by decide +kernel)
theorem xk_t_LW_cut : Cond.static xy_LW_cut ∈ x_T := x_mem 321 (by decide +kernel) (by decide +kernel)
theorem xk_c_LW_cut : Cond.codeWith xy_LW_cut xc_LW_cut 6 (some .int) [(0, 19, 22, 13)] ∈ x_T := x_mem 322 (by decide +kernel) (by decide +kernel)
theorem xk_LW_m15 : Cond.methodLink xr_LW 15 xy_PD_cut ∈ x_T := x_mem 323 (by decide +kernel) (by decide +kernel)
theorem xk_i_PD_cut : Cond.instanceMethod xy_PD_cut ∈ x_T := x_mem 324 (by decide +kernel) (by decide +kernel)
theorem xk_s_PD_cut : Cond.selects xr_PD xy_PD_cut xy_PD_cut ∈ x_T := x_mem 325 (by decide +kernel) (by decide +kernel)
theorem xk_c_PD_cut : Cond.code xy_PD_cut xc_PD_cut 4 (some .boolean) ∈ x_T := x_mem 326 (by decide +kernel) (by decide +kernel)
theorem xk_PD_m77 : Cond.methodLink xr_PD 77 xy_GR_dropEdge ∈ x_T := x_mem 327 (by decide +kernel) (by decide +kernel)
theorem xk_i_GR_dropEdge : Cond.instanceMethod xy_GR_dropEdge ∈ x_T := x_mem 328 (by decide +kernel) (by decide +kernel)
theorem xk_s_GR_dropEdge : Cond.selects xr_GR xy_GR_dropEdge xy_GR_dropEdge ∈ x_T := x_mem 329 (by decide +kernel) (by decide +kernel)
theorem xk_c_GR_dropEdge : Cond.code xy_GR_dropEdge xc_GR_dropEdge 4 none ∈ x_T := x_mem 330 (by decide +kernel) (by decide +kernel)
theorem xk_LW_m69 : Cond.methodLink xr_LW 69 xy_LW_tag ∈ x_T := x_mem 331 (by decide +kernel) (by decide +kernel)
theorem xk_t_LW_tag : Cond.static xy_LW_tag ∈ x_T := x_mem 332 (by decide +kernel) (by decide +kernel)
theorem xk_c_LW_tag : Cond.codeWith xy_LW_tag xc_LW_tag 5 (some .int) [(0, 7, 10, 13)] ∈ x_T := x_mem 333 (by decide +kernel) (by decide +kernel)
theorem xk_LW_m18 : Cond.methodLink xr_LW 18 xy_PD_tag ∈ x_T := x_mem 334 (by decide +kernel) (by decide +kernel)
theorem xk_i_PD_tag : Cond.instanceMethod xy_PD_tag ∈ x_T := x_mem 335 (by decide +kernel) (by decide +kernel)
theorem xk_s_PD_tag : Cond.selects xr_PD xy_PD_tag xy_PD_tag ∈ x_T := x_mem 336 (by decide +kernel) (by decide +kernel)
theorem xk_c_PD_tag : Cond.code xy_PD_tag xc_PD_tag 4 none ∈ x_T := x_mem 337 (by decide +kernel) (by decide +kernel)
theorem xk_PD_m87 : Cond.methodLink xr_PD 87 xy_GR_setTag ∈ x_T := x_mem 339 (by decide +kernel) (by decide +kernel)
theorem xk_i_GR_setTag : Cond.instanceMethod xy_GR_setTag ∈ x_T := x_mem 340 (by decide +kernel) (by decide +kernel)
theorem xk_s_GR_setTag : Cond.selects xr_GR xy_GR_setTag xy_GR_setTag ∈ x_T := x_mem 341 (by decide +kernel) (by decide +kernel)
theorem xk_c_GR_setTag : Cond.code xy_GR_setTag xc_GR_setTag 4 none ∈ x_T := x_mem 342 (by decide +kernel) (by decide +kernel)
theorem xk_LW_m75 : Cond.methodLink xr_LW 75 xy_LW_feed ∈ x_T := x_mem 343 (by decide +kernel) (by decide +kernel)
theorem xk_t_LW_feed : Cond.static xy_LW_feed ∈ x_T := x_mem 344 (by decide +kernel) (by decide +kernel)
theorem xk_c_LW_feed : Cond.codeWith xy_LW_feed xc_LW_feed 6 (some .int) [(0, 11, 14, 13)] ∈ x_T := x_mem 345 (by decide +kernel) (by decide +kernel)
theorem xk_LW_m22 : Cond.methodLink xr_LW 22 xy_PD_feed ∈ x_T := x_mem 346 (by decide +kernel) (by decide +kernel)
theorem xk_i_PD_feed : Cond.instanceMethod xy_PD_feed ∈ x_T := x_mem 347 (by decide +kernel) (by decide +kernel)
theorem xk_s_PD_feed : Cond.selects xr_PD xy_PD_feed xy_PD_feed ∈ x_T := x_mem 348 (by decide +kernel) (by decide +kernel)
theorem xk_c_PD_feed : Cond.code xy_PD_feed xc_PD_feed 5 (some .int) ∈ x_T := x_mem 349 (by decide +kernel) (by decide +kernel)
theorem xk_LW_m79 : Cond.methodLink xr_LW 79 xy_LW_load ∈ x_T := x_mem 351 (by decide +kernel) (by decide +kernel)
theorem xk_t_LW_load : Cond.static xy_LW_load ∈ x_T := x_mem 352 (by decide +kernel) (by decide +kernel)
theorem xk_c_LW_load : Cond.codeWith xy_LW_load xc_LW_load 4 (some .int) [(0, 9, 12, 30)] ∈ x_T := x_mem 353 (by decide +kernel) (by decide +kernel)
theorem xk_LW_c30 : Cond.classLink xr_LW 30 xr_JX ∈ x_T := x_mem 354 (by decide +kernel) (by decide +kernel)
theorem xk_LW_m26 : Cond.methodLink xr_LW 26 xy_PD_load ∈ x_T := x_mem 355 (by decide +kernel) (by decide +kernel)
theorem xk_i_PD_load : Cond.instanceMethod xy_PD_load ∈ x_T := x_mem 356 (by decide +kernel) (by decide +kernel)
theorem xk_s_PD_load : Cond.selects xr_PD xy_PD_load xy_PD_load ∈ x_T := x_mem 357 (by decide +kernel) (by decide +kernel)
theorem xk_c_PD_load : Cond.code xy_PD_load xc_PD_load 4 (some .int) ∈ x_T := x_mem 358 (by decide +kernel) (by decide +kernel)
theorem xk_PD_m93 : Cond.methodLink xr_PD 93 xy_PD_needSlot ∈ x_T := x_mem 359 (by decide +kernel) (by decide +kernel)
theorem xk_t_PD_needSlot : Cond.static xy_PD_needSlot ∈ x_T := x_mem 360 (by decide +kernel) (by decide +kernel)
theorem xk_c_PD_needSlot : Cond.code xy_PD_needSlot xc_PD_needSlot 1 none ∈ x_T := x_mem 361 (by decide +kernel) (by decide +kernel)
theorem xk_PD_c179 : Cond.classLink xr_PD 179 xr_JX ∈ x_T := x_mem 362 (by decide +kernel) (by decide +kernel)
theorem xk_a_JX : Cond.instantiable xr_JX 6 ∈ x_T := x_mem 363 (by decide +kernel) (by decide +kernel)
theorem xk_PD_m183 : Cond.methodLink xr_PD 183 xy_JX_init ∈ x_T := x_mem 372 (by decide +kernel) (by decide +kernel)
theorem xk_i_JX_init : Cond.instanceMethod xy_JX_init ∈ x_T := x_mem 373 (by decide +kernel) (by decide +kernel)
theorem xk_c_JX_init : Cond.code xy_JX_init xc_JX_init 2 none ∈ x_T := x_mem 374 (by decide +kernel) (by decide +kernel)
theorem xk_JX_m7 : Cond.methodLink xr_JX 7 xy_JR_init ∈ x_T := x_mem 375 (by decide +kernel) (by decide +kernel)
theorem xk_PD_m96 : Cond.methodLink xr_PD 96 xy_RD_read ∈ x_T := x_mem 378 (by decide +kernel) (by decide +kernel)
theorem xk_i_RD_read : Cond.instanceMethod xy_RD_read ∈ x_T := x_mem 379 (by decide +kernel) (by decide +kernel)
theorem xk_s_RD_read : Cond.selects xr_RD xy_RD_read xy_RD_read ∈ x_T := x_mem 380 (by decide +kernel) (by decide +kernel)
theorem xk_c_RD_read : Cond.code xy_RD_read xc_RD_read 6 (some .int) ∈ x_T := x_mem 381 (by decide +kernel) (by decide +kernel)
theorem xk_RD_m42 : Cond.methodLink xr_RD 42 xy_RD_start ∈ x_T := x_mem 382 (by decide +kernel) (by decide +kernel)
theorem xk_i_RD_start : Cond.instanceMethod xy_RD_start ∈ x_T := x_mem 384 (by decide +kernel) (by decide +kernel)
theorem xk_c_RD_start : Cond.code xy_RD_start xc_RD_start 2 none ∈ x_T := x_mem 385 (by decide +kernel) (by decide +kernel)
theorem xk_RD_m59 : Cond.methodLink xr_RD 59 xy_EX_clear ∈ x_T := x_mem 386 (by decide +kernel) (by decide +kernel)
theorem xk_i_EX_clear : Cond.instanceMethod xy_EX_clear ∈ x_T := x_mem 387 (by decide +kernel) (by decide +kernel)
theorem xk_s_EX_clear : Cond.selects xr_EX xy_EX_clear xy_EX_clear ∈ x_T := x_mem 388 (by decide +kernel) (by decide +kernel)
theorem xk_c_EX_clear : Cond.code xy_EX_clear xc_EX_clear 1 none ∈ x_T := x_mem 389 (by decide +kernel) (by decide +kernel)
theorem xk_RD_m62 : Cond.methodLink xr_RD 62 xy_RD_startAlternative ∈ x_T := x_mem 390 (by decide +kernel) (by decide +kernel)
theorem xk_i_RD_startAlternative : Cond.instanceMethod xy_RD_startAlternative ∈ x_T := x_mem 392 (by decide +kernel) (by decide +kernel)
theorem xk_c_RD_startAlternative : Cond.code xy_RD_startAlternative xc_RD_startAlternative 1 none ∈ x_T := x_mem 393 (by decide +kernel) (by decide +kernel)
theorem xk_RD_m91 : Cond.methodLink xr_RD 91 xy_EX_append ∈ x_T := x_mem 394 (by decide +kernel) (by decide +kernel)
theorem xk_i_EX_append : Cond.instanceMethod xy_EX_append ∈ x_T := x_mem 395 (by decide +kernel) (by decide +kernel)
theorem xk_s_EX_append : Cond.selects xr_EX xy_EX_append xy_EX_append ∈ x_T := x_mem 396 (by decide +kernel) (by decide +kernel)
theorem xk_c_EX_append : Cond.code xy_EX_append xc_EX_append 3 none ∈ x_T := x_mem 397 (by decide +kernel) (by decide +kernel)
theorem xk_RD_m46 : Cond.methodLink xr_RD 46 xy_RD_takeInRow ∈ x_T := x_mem 398 (by decide +kernel) (by decide +kernel)
theorem xk_i_RD_takeInRow : Cond.instanceMethod xy_RD_takeInRow ∈ x_T := x_mem 400 (by decide +kernel) (by decide +kernel)
theorem xk_c_RD_takeInRow : Cond.code xy_RD_takeInRow xc_RD_takeInRow 2 (some .boolean) ∈ x_T := x_mem 401 (by decide +kernel) (by decide +kernel)
theorem xk_RD_m84 : Cond.methodLink xr_RD 84 xy_RD_openGroup ∈ x_T := x_mem 402 (by decide +kernel) (by decide +kernel)
theorem xk_i_RD_openGroup : Cond.instanceMethod xy_RD_openGroup ∈ x_T := x_mem 404 (by decide +kernel) (by decide +kernel)
theorem xk_c_RD_openGroup : Cond.code xy_RD_openGroup xc_RD_openGroup 1 (some .boolean) ∈ x_T := x_mem 405 (by decide +kernel) (by decide +kernel)
theorem xk_RD_m110 : Cond.methodLink xr_RD 110 xy_RD_endRepeat ∈ x_T := x_mem 406 (by decide +kernel) (by decide +kernel)
theorem xk_i_RD_endRepeat : Cond.instanceMethod xy_RD_endRepeat ∈ x_T := x_mem 408 (by decide +kernel) (by decide +kernel)
theorem xk_c_RD_endRepeat : Cond.code xy_RD_endRepeat xc_RD_endRepeat 1 none ∈ x_T := x_mem 409 (by decide +kernel) (by decide +kernel)
theorem xk_RD_m104 : Cond.methodLink xr_RD 104 xy_JM_min ∈ x_T := x_mem 410 (by decide +kernel) (by decide +kernel)
theorem xk_t_JM_min : Cond.static xy_JM_min ∈ x_T := x_mem 411 (by decide +kernel) (by decide +kernel)
theorem xk_c_JM_min : Cond.code xy_JM_min xc_JM_min 2 (some .int) ∈ x_T := x_mem 412 (by decide +kernel) (by decide +kernel)
theorem xk_RD_m88 : Cond.methodLink xr_RD 88 xy_RD_closeGroup ∈ x_T := x_mem 413 (by decide +kernel) (by decide +kernel)
theorem xk_i_RD_closeGroup : Cond.instanceMethod xy_RD_closeGroup ∈ x_T := x_mem 415 (by decide +kernel) (by decide +kernel)
theorem xk_c_RD_closeGroup : Cond.code xy_RD_closeGroup xc_RD_closeGroup 1 (some .boolean) ∈ x_T := x_mem 416 (by decide +kernel) (by decide +kernel)
theorem xk_RD_m53 : Cond.methodLink xr_RD 53 xy_RD_endRow ∈ x_T := x_mem 417 (by decide +kernel) (by decide +kernel)
theorem xk_i_RD_endRow : Cond.instanceMethod xy_RD_endRow ∈ x_T := x_mem 419 (by decide +kernel) (by decide +kernel)
theorem xk_c_RD_endRow : Cond.code xy_RD_endRow xc_RD_endRow 1 none ∈ x_T := x_mem 420 (by decide +kernel) (by decide +kernel)
theorem xk_RD_m113 : Cond.methodLink xr_RD 113 xy_RD_startRepeat ∈ x_T := x_mem 421 (by decide +kernel) (by decide +kernel)
theorem xk_i_RD_startRepeat : Cond.instanceMethod xy_RD_startRepeat ∈ x_T := x_mem 423 (by decide +kernel) (by decide +kernel)
theorem xk_c_RD_startRepeat : Cond.code xy_RD_startRepeat xc_RD_startRepeat 2 none ∈ x_T := x_mem 424 (by decide +kernel) (by decide +kernel)
theorem xk_RD_m69 : Cond.methodLink xr_RD 69 xy_RD_goOnTo ∈ x_T := x_mem 425 (by decide +kernel) (by decide +kernel)
theorem xk_i_RD_goOnTo : Cond.instanceMethod xy_RD_goOnTo ∈ x_T := x_mem 427 (by decide +kernel) (by decide +kernel)
theorem xk_c_RD_goOnTo : Cond.code xy_RD_goOnTo xc_RD_goOnTo 2 (some .boolean) ∈ x_T := x_mem 428 (by decide +kernel) (by decide +kernel)
theorem xk_RD_m95 : Cond.methodLink xr_RD 95 xy_RD_changeRepeat ∈ x_T := x_mem 429 (by decide +kernel) (by decide +kernel)
theorem xk_i_RD_changeRepeat : Cond.instanceMethod xy_RD_changeRepeat ∈ x_T := x_mem 431 (by decide +kernel) (by decide +kernel)
theorem xk_c_RD_changeRepeat : Cond.code xy_RD_changeRepeat xc_RD_changeRepeat 2 (some .boolean) ∈ x_T := x_mem 432 (by decide +kernel) (by decide +kernel)
theorem xk_RD_m65 : Cond.methodLink xr_RD 65 xy_RD_takeStep ∈ x_T := x_mem 433 (by decide +kernel) (by decide +kernel)
theorem xk_i_RD_takeStep : Cond.instanceMethod xy_RD_takeStep ∈ x_T := x_mem 435 (by decide +kernel) (by decide +kernel)
theorem xk_c_RD_takeStep : Cond.code xy_RD_takeStep xc_RD_takeStep 4 (some .boolean) ∈ x_T := x_mem 436 (by decide +kernel) (by decide +kernel)
theorem xk_RD_m98 : Cond.methodLink xr_RD 98 xy_RD_addStep ∈ x_T := x_mem 437 (by decide +kernel) (by decide +kernel)
theorem xk_i_RD_addStep : Cond.instanceMethod xy_RD_addStep ∈ x_T := x_mem 439 (by decide +kernel) (by decide +kernel)
theorem xk_c_RD_addStep : Cond.code xy_RD_addStep xc_RD_addStep 3 none ∈ x_T := x_mem 440 (by decide +kernel) (by decide +kernel)
theorem xk_RD_m50 : Cond.methodLink xr_RD 50 xy_RD_takeInside ∈ x_T := x_mem 441 (by decide +kernel) (by decide +kernel)
theorem xk_i_RD_takeInside : Cond.instanceMethod xy_RD_takeInside ∈ x_T := x_mem 443 (by decide +kernel) (by decide +kernel)
theorem xk_c_RD_takeInside : Cond.code xy_RD_takeInside xc_RD_takeInside 2 (some .boolean) ∈ x_T := x_mem 444 (by decide +kernel) (by decide +kernel)
theorem xk_RD_m72 : Cond.methodLink xr_RD 72 xy_RD_takeTag ∈ x_T := x_mem 445 (by decide +kernel) (by decide +kernel)
theorem xk_i_RD_takeTag : Cond.instanceMethod xy_RD_takeTag ∈ x_T := x_mem 447 (by decide +kernel) (by decide +kernel)
theorem xk_c_RD_takeTag : Cond.code xy_RD_takeTag xc_RD_takeTag 4 (some .boolean) ∈ x_T := x_mem 448 (by decide +kernel) (by decide +kernel)
theorem xk_RD_m75 : Cond.methodLink xr_RD 75 xy_RD_takeLeast ∈ x_T := x_mem 449 (by decide +kernel) (by decide +kernel)
theorem xk_i_RD_takeLeast : Cond.instanceMethod xy_RD_takeLeast ∈ x_T := x_mem 451 (by decide +kernel) (by decide +kernel)
theorem xk_c_RD_takeLeast : Cond.code xy_RD_takeLeast xc_RD_takeLeast 2 (some .boolean) ∈ x_T := x_mem 452 (by decide +kernel) (by decide +kernel)
theorem xk_RD_m101 : Cond.methodLink xr_RD 101 xy_RD_isDigit ∈ x_T := x_mem 453 (by decide +kernel) (by decide +kernel)
theorem xk_t_RD_isDigit : Cond.static xy_RD_isDigit ∈ x_T := x_mem 454 (by decide +kernel) (by decide +kernel)
theorem xk_c_RD_isDigit : Cond.code xy_RD_isDigit xc_RD_isDigit 1 (some .boolean) ∈ x_T := x_mem 455 (by decide +kernel) (by decide +kernel)
theorem xk_RD_m78 : Cond.methodLink xr_RD 78 xy_RD_takeBraceEnd ∈ x_T := x_mem 456 (by decide +kernel) (by decide +kernel)
theorem xk_i_RD_takeBraceEnd : Cond.instanceMethod xy_RD_takeBraceEnd ∈ x_T := x_mem 458 (by decide +kernel) (by decide +kernel)
theorem xk_c_RD_takeBraceEnd : Cond.code xy_RD_takeBraceEnd xc_RD_takeBraceEnd 2 (some .boolean) ∈ x_T := x_mem 459 (by decide +kernel) (by decide +kernel)
theorem xk_RD_m81 : Cond.methodLink xr_RD 81 xy_RD_takeMost ∈ x_T := x_mem 460 (by decide +kernel) (by decide +kernel)
theorem xk_i_RD_takeMost : Cond.instanceMethod xy_RD_takeMost ∈ x_T := x_mem 462 (by decide +kernel) (by decide +kernel)
theorem xk_c_RD_takeMost : Cond.code xy_RD_takeMost xc_RD_takeMost 2 (some .boolean) ∈ x_T := x_mem 463 (by decide +kernel) (by decide +kernel)
theorem xk_PD_m100 : Cond.methodLink xr_PD 100 xy_EX_makeEmptyRow ∈ x_T := x_mem 464 (by decide +kernel) (by decide +kernel)
theorem xk_i_EX_makeEmptyRow : Cond.instanceMethod xy_EX_makeEmptyRow ∈ x_T := x_mem 465 (by decide +kernel) (by decide +kernel)
theorem xk_s_EX_makeEmptyRow : Cond.selects xr_EX xy_EX_makeEmptyRow xy_EX_makeEmptyRow ∈ x_T := x_mem 466 (by decide +kernel) (by decide +kernel)
theorem xk_c_EX_makeEmptyRow : Cond.code xy_EX_makeEmptyRow xc_EX_makeEmptyRow 1 none ∈ x_T := x_mem 467 (by decide +kernel) (by decide +kernel)
theorem xk_EX_m22 : Cond.methodLink xr_EX 22 xy_EX_clear ∈ x_T := x_mem 468 (by decide +kernel) (by decide +kernel)
theorem xk_EX_m25 : Cond.methodLink xr_EX 25 xy_EX_append ∈ x_T := x_mem 469 (by decide +kernel) (by decide +kernel)
theorem xk_LW_m83 : Cond.methodLink xr_LW 83 xy_LW_reach ∈ x_T := x_mem 470 (by decide +kernel) (by decide +kernel)
theorem xk_t_LW_reach : Cond.static xy_LW_reach ∈ x_T := x_mem 471 (by decide +kernel) (by decide +kernel)
theorem xk_c_LW_reach : Cond.codeWith xy_LW_reach xc_LW_reach 6 (some .int) [(0, 12, 15, 30), (0, 12, 19, 13)] ∈ x_T := x_mem 472 (by decide +kernel) (by decide +kernel)
theorem xk_LW_m32 : Cond.methodLink xr_LW 32 xy_PD_reach ∈ x_T := x_mem 473 (by decide +kernel) (by decide +kernel)
theorem xk_i_PD_reach : Cond.instanceMethod xy_PD_reach ∈ x_T := x_mem 474 (by decide +kernel) (by decide +kernel)
theorem xk_s_PD_reach : Cond.selects xr_PD xy_PD_reach xy_PD_reach ∈ x_T := x_mem 475 (by decide +kernel) (by decide +kernel)
theorem xk_c_PD_reach : Cond.code xy_PD_reach xc_PD_reach 5 (some .int) ∈ x_T := x_mem 476 (by decide +kernel) (by decide +kernel)
theorem xk_PD_m106 : Cond.methodLink xr_PD 106 xy_PD_relationOf ∈ x_T := x_mem 477 (by decide +kernel) (by decide +kernel)
theorem xk_i_PD_relationOf : Cond.instanceMethod xy_PD_relationOf ∈ x_T := x_mem 479 (by decide +kernel) (by decide +kernel)
theorem xk_c_PD_relationOf : Cond.code xy_PD_relationOf xc_PD_relationOf 5 (some (.object "PathDesk$Relation")) ∈ x_T := x_mem 480 (by decide +kernel) (by decide +kernel)
theorem xk_PD_m157 : Cond.methodLink xr_PD 157 xy_BE_clear ∈ x_T := x_mem 481 (by decide +kernel) (by decide +kernel)
theorem xk_i_BE_clear : Cond.instanceMethod xy_BE_clear ∈ x_T := x_mem 482 (by decide +kernel) (by decide +kernel)
theorem xk_s_BE_clear : Cond.selects xr_BE xy_BE_clear xy_BE_clear ∈ x_T := x_mem 483 (by decide +kernel) (by decide +kernel)
theorem xk_c_BE_clear : Cond.code xy_BE_clear xc_BE_clear 1 none ∈ x_T := x_mem 484 (by decide +kernel) (by decide +kernel)
theorem xk_PD_m166 : Cond.methodLink xr_PD 166 xy_BE_carryOut ∈ x_T := x_mem 485 (by decide +kernel) (by decide +kernel)
theorem xk_i_BE_carryOut : Cond.instanceMethod xy_BE_carryOut ∈ x_T := x_mem 486 (by decide +kernel) (by decide +kernel)
theorem xk_s_BE_carryOut : Cond.selects xr_BE xy_BE_carryOut xy_BE_carryOut ∈ x_T := x_mem 487 (by decide +kernel) (by decide +kernel)
theorem xk_c_BE_carryOut : Cond.code xy_BE_carryOut xc_BE_carryOut 4 none ∈ x_T := x_mem 488 (by decide +kernel) (by decide +kernel)
theorem xk_BE_m32 : Cond.methodLink xr_BE 32 xy_BE_layDown ∈ x_T := x_mem 489 (by decide +kernel) (by decide +kernel)
theorem xk_i_BE_layDown : Cond.instanceMethod xy_BE_layDown ∈ x_T := x_mem 491 (by decide +kernel) (by decide +kernel)
theorem xk_c_BE_layDown : Cond.code xy_BE_layDown xc_BE_layDown 2 (some (.object "PathDesk$Relation")) ∈ x_T := x_mem 492 (by decide +kernel) (by decide +kernel)
theorem xk_BE_m66 : Cond.methodLink xr_BE 66 xy_JM_min ∈ x_T := x_mem 493 (by decide +kernel) (by decide +kernel)
theorem xk_BE_m26 : Cond.methodLink xr_BE 26 xy_BE_at ∈ x_T := x_mem 494 (by decide +kernel) (by decide +kernel)
theorem xk_i_BE_at : Cond.instanceMethod xy_BE_at ∈ x_T := x_mem 496 (by decide +kernel) (by decide +kernel)
theorem xk_c_BE_at : Cond.code xy_BE_at xc_BE_at 3 (some (.object "PathDesk$Relation")) ∈ x_T := x_mem 497 (by decide +kernel) (by decide +kernel)
theorem xk_BE_m72 : Cond.methodLink xr_BE 72 xy_JM_max ∈ x_T := x_mem 498 (by decide +kernel) (by decide +kernel)
theorem xk_t_JM_max : Cond.static xy_JM_max ∈ x_T := x_mem 499 (by decide +kernel) (by decide +kernel)
theorem xk_c_JM_max : Cond.code xy_JM_max xc_JM_max 2 (some .int) ∈ x_T := x_mem 500 (by decide +kernel) (by decide +kernel)
theorem xk_BE_m75 : Cond.methodLink xr_BE 75 xy_RE_clear ∈ x_T := x_mem 501 (by decide +kernel) (by decide +kernel)
theorem xk_i_RE_clear : Cond.instanceMethod xy_RE_clear ∈ x_T := x_mem 502 (by decide +kernel) (by decide +kernel)
theorem xk_s_RE_clear : Cond.selects xr_RE xy_RE_clear xy_RE_clear ∈ x_T := x_mem 503 (by decide +kernel) (by decide +kernel)
theorem xk_c_RE_clear : Cond.code xy_RE_clear xc_RE_clear 1 none ∈ x_T := x_mem 504 (by decide +kernel) (by decide +kernel)
theorem xk_RE_m18 : Cond.methodLink xr_RE 18 xy_JA_fill ∈ x_T := x_mem 505 (by decide +kernel) (by decide +kernel)
theorem xk_t_JA_fill : Cond.static xy_JA_fill ∈ x_T := x_mem 506 (by decide +kernel) (by decide +kernel)
theorem xk_c_JA_fill : Cond.code xy_JA_fill xc_JA_fill 4 none ∈ x_T := x_mem 507 (by decide +kernel) (by decide +kernel)
theorem xk_BE_m36 : Cond.methodLink xr_BE 36 xy_RE_addStays ∈ x_T := x_mem 508 (by decide +kernel) (by decide +kernel)
theorem xk_i_RE_addStays : Cond.instanceMethod xy_RE_addStays ∈ x_T := x_mem 509 (by decide +kernel) (by decide +kernel)
theorem xk_s_RE_addStays : Cond.selects xr_RE xy_RE_addStays xy_RE_addStays ∈ x_T := x_mem 510 (by decide +kernel) (by decide +kernel)
theorem xk_c_RE_addStays : Cond.code xy_RE_addStays xc_RE_addStays 3 none ∈ x_T := x_mem 511 (by decide +kernel) (by decide +kernel)
theorem xk_RE_m28 : Cond.methodLink xr_RE 28 xy_RE_offer ∈ x_T := x_mem 513 (by decide +kernel) (by decide +kernel)
theorem xk_i_RE_offer : Cond.instanceMethod xy_RE_offer ∈ x_T := x_mem 514 (by decide +kernel) (by decide +kernel)
theorem xk_s_RE_offer : Cond.selects xr_RE xy_RE_offer xy_RE_offer ∈ x_T := x_mem 515 (by decide +kernel) (by decide +kernel)
theorem xk_c_RE_offer : Cond.code xy_RE_offer xc_RE_offer 6 none ∈ x_T := x_mem 516 (by decide +kernel) (by decide +kernel)
theorem xk_BE_m40 : Cond.methodLink xr_BE 40 xy_RE_addEdges ∈ x_T := x_mem 517 (by decide +kernel) (by decide +kernel)
theorem xk_i_RE_addEdges : Cond.instanceMethod xy_RE_addEdges ∈ x_T := x_mem 518 (by decide +kernel) (by decide +kernel)
theorem xk_s_RE_addEdges : Cond.selects xr_RE xy_RE_addEdges xy_RE_addEdges ∈ x_T := x_mem 519 (by decide +kernel) (by decide +kernel)
theorem xk_c_RE_addEdges : Cond.code xy_RE_addEdges xc_RE_addEdges 7 none ∈ x_T := x_mem 520 (by decide +kernel) (by decide +kernel)
theorem xk_RE_m32 : Cond.methodLink xr_RE 32 xy_GR_nextOf ∈ x_T := x_mem 521 (by decide +kernel) (by decide +kernel)
theorem xk_i_GR_nextOf : Cond.instanceMethod xy_GR_nextOf ∈ x_T := x_mem 522 (by decide +kernel) (by decide +kernel)
theorem xk_s_GR_nextOf : Cond.selects xr_GR xy_GR_nextOf xy_GR_nextOf ∈ x_T := x_mem 523 (by decide +kernel) (by decide +kernel)
theorem xk_c_GR_nextOf : Cond.code xy_GR_nextOf xc_GR_nextOf 5 (some .int) ∈ x_T := x_mem 524 (by decide +kernel) (by decide +kernel)
theorem xk_BE_m44 : Cond.methodLink xr_BE 44 xy_GR_nodesWith ∈ x_T := x_mem 525 (by decide +kernel) (by decide +kernel)
theorem xk_BE_m50 : Cond.methodLink xr_BE 50 xy_BE_chainTwo ∈ x_T := x_mem 526 (by decide +kernel) (by decide +kernel)
theorem xk_i_BE_chainTwo : Cond.instanceMethod xy_BE_chainTwo ∈ x_T := x_mem 528 (by decide +kernel) (by decide +kernel)
theorem xk_c_BE_chainTwo : Cond.code xy_BE_chainTwo xc_BE_chainTwo 2 none ∈ x_T := x_mem 529 (by decide +kernel) (by decide +kernel)
theorem xk_BE_m56 : Cond.methodLink xr_BE 56 xy_BE_top ∈ x_T := x_mem 530 (by decide +kernel) (by decide +kernel)
theorem xk_i_BE_top : Cond.instanceMethod xy_BE_top ∈ x_T := x_mem 531 (by decide +kernel) (by decide +kernel)
theorem xk_s_BE_top : Cond.selects xr_BE xy_BE_top xy_BE_top ∈ x_T := x_mem 532 (by decide +kernel) (by decide +kernel)
theorem xk_c_BE_top : Cond.code xy_BE_top xc_BE_top 1 (some (.object "PathDesk$Relation")) ∈ x_T := x_mem 533 (by decide +kernel) (by decide +kernel)
theorem xk_BE_m82 : Cond.methodLink xr_BE 82 xy_RE_setToChain ∈ x_T := x_mem 534 (by decide +kernel) (by decide +kernel)
theorem xk_i_RE_setToChain : Cond.instanceMethod xy_RE_setToChain ∈ x_T := x_mem 535 (by decide +kernel) (by decide +kernel)
theorem xk_s_RE_setToChain : Cond.selects xr_RE xy_RE_setToChain xy_RE_setToChain ∈ x_T := x_mem 536 (by decide +kernel) (by decide +kernel)
theorem xk_c_RE_setToChain : Cond.code xy_RE_setToChain xc_RE_setToChain 6 none ∈ x_T := x_mem 537 (by decide +kernel) (by decide +kernel)
theorem xk_RE_m42 : Cond.methodLink xr_RE 42 xy_RE_clear ∈ x_T := x_mem 538 (by decide +kernel) (by decide +kernel)
theorem xk_RE_m38 : Cond.methodLink xr_RE 38 xy_RE_addGoingOn ∈ x_T := x_mem 539 (by decide +kernel) (by decide +kernel)
theorem xk_i_RE_addGoingOn : Cond.instanceMethod xy_RE_addGoingOn ∈ x_T := x_mem 541 (by decide +kernel) (by decide +kernel)
theorem xk_c_RE_addGoingOn : Cond.code xy_RE_addGoingOn xc_RE_addGoingOn 7 none ∈ x_T := x_mem 542 (by decide +kernel) (by decide +kernel)
theorem xk_BE_m53 : Cond.methodLink xr_BE 53 xy_BE_joinTwo ∈ x_T := x_mem 543 (by decide +kernel) (by decide +kernel)
theorem xk_i_BE_joinTwo : Cond.instanceMethod xy_BE_joinTwo ∈ x_T := x_mem 545 (by decide +kernel) (by decide +kernel)
theorem xk_c_BE_joinTwo : Cond.code xy_BE_joinTwo xc_BE_joinTwo 1 none ∈ x_T := x_mem 546 (by decide +kernel) (by decide +kernel)
theorem xk_BE_m78 : Cond.methodLink xr_BE 78 xy_RE_addAll ∈ x_T := x_mem 547 (by decide +kernel) (by decide +kernel)
theorem xk_i_RE_addAll : Cond.instanceMethod xy_RE_addAll ∈ x_T := x_mem 548 (by decide +kernel) (by decide +kernel)
theorem xk_s_RE_addAll : Cond.selects xr_RE xy_RE_addAll xy_RE_addAll ∈ x_T := x_mem 549 (by decide +kernel) (by decide +kernel)
theorem xk_c_RE_addAll : Cond.code xy_RE_addAll xc_RE_addAll 3 none ∈ x_T := x_mem 550 (by decide +kernel) (by decide +kernel)
theorem xk_BE_m59 : Cond.methodLink xr_BE 59 xy_RE_repeatAtWill ∈ x_T := x_mem 551 (by decide +kernel) (by decide +kernel)
theorem xk_i_RE_repeatAtWill : Cond.instanceMethod xy_RE_repeatAtWill ∈ x_T := x_mem 552 (by decide +kernel) (by decide +kernel)
theorem xk_s_RE_repeatAtWill : Cond.selects xr_RE xy_RE_repeatAtWill xy_RE_repeatAtWill ∈ x_T := x_mem 553 (by decide +kernel) (by decide +kernel)
theorem xk_c_RE_repeatAtWill : Cond.code xy_RE_repeatAtWill xc_RE_repeatAtWill 3 none ∈ x_T := x_mem 554 (by decide +kernel) (by decide +kernel)
theorem xk_BE_m62 : Cond.methodLink xr_BE 62 xy_BE_copyTop ∈ x_T := x_mem 555 (by decide +kernel) (by decide +kernel)
theorem xk_i_BE_copyTop : Cond.instanceMethod xy_BE_copyTop ∈ x_T := x_mem 557 (by decide +kernel) (by decide +kernel)
theorem xk_c_BE_copyTop : Cond.code xy_BE_copyTop xc_BE_copyTop 7 none ∈ x_T := x_mem 558 (by decide +kernel) (by decide +kernel)
theorem xk_PD_m170 : Cond.methodLink xr_PD 170 xy_RE_clear ∈ x_T := x_mem 559 (by decide +kernel) (by decide +kernel)
theorem xk_PD_m171 : Cond.methodLink xr_PD 171 xy_BE_top ∈ x_T := x_mem 560 (by decide +kernel) (by decide +kernel)
theorem xk_PD_m175 : Cond.methodLink xr_PD 175 xy_RE_addAll ∈ x_T := x_mem 561 (by decide +kernel) (by decide +kernel)
theorem xk_PD_m110 : Cond.methodLink xr_PD 110 xy_RE_sourcesOf ∈ x_T := x_mem 562 (by decide +kernel) (by decide +kernel)
theorem xk_i_RE_sourcesOf : Cond.instanceMethod xy_RE_sourcesOf ∈ x_T := x_mem 563 (by decide +kernel) (by decide +kernel)
theorem xk_s_RE_sourcesOf : Cond.selects xr_RE xy_RE_sourcesOf xy_RE_sourcesOf ∈ x_T := x_mem 564 (by decide +kernel) (by decide +kernel)
theorem xk_c_RE_sourcesOf : Cond.code xy_RE_sourcesOf xc_RE_sourcesOf 4 (some .int) ∈ x_T := x_mem 565 (by decide +kernel) (by decide +kernel)
theorem xk_LW_m87 : Cond.methodLink xr_LW 87 xy_LW_distance ∈ x_T := x_mem 566 (by decide +kernel) (by decide +kernel)
theorem xk_t_LW_distance : Cond.static xy_LW_distance ∈ x_T := x_mem 567 (by decide +kernel) (by decide +kernel)
theorem xk_c_LW_distance : Cond.codeWith xy_LW_distance xc_LW_distance 6 (some .int) [(0, 12, 15, 30), (0, 12, 19, 13)] ∈ x_T := x_mem 568 (by decide +kernel) (by decide +kernel)
theorem xk_LW_m36 : Cond.methodLink xr_LW 36 xy_PD_distance ∈ x_T := x_mem 569 (by decide +kernel) (by decide +kernel)
theorem xk_i_PD_distance : Cond.instanceMethod xy_PD_distance ∈ x_T := x_mem 570 (by decide +kernel) (by decide +kernel)
theorem xk_s_PD_distance : Cond.selects xr_PD xy_PD_distance xy_PD_distance ∈ x_T := x_mem 571 (by decide +kernel) (by decide +kernel)
theorem xk_c_PD_distance : Cond.code xy_PD_distance xc_PD_distance 4 (some .int) ∈ x_T := x_mem 572 (by decide +kernel) (by decide +kernel)
theorem xk_PD_m117 : Cond.methodLink xr_PD 117 xy_RE_lengthOf ∈ x_T := x_mem 573 (by decide +kernel) (by decide +kernel)
theorem xk_i_RE_lengthOf : Cond.instanceMethod xy_RE_lengthOf ∈ x_T := x_mem 574 (by decide +kernel) (by decide +kernel)
theorem xk_s_RE_lengthOf : Cond.selects xr_RE xy_RE_lengthOf xy_RE_lengthOf ∈ x_T := x_mem 575 (by decide +kernel) (by decide +kernel)
theorem xk_c_RE_lengthOf : Cond.code xy_RE_lengthOf xc_RE_lengthOf 3 (some .int) ∈ x_T := x_mem 576 (by decide +kernel) (by decide +kernel)
theorem xk_LW_m90 : Cond.methodLink xr_LW 90 xy_LW_span ∈ x_T := x_mem 577 (by decide +kernel) (by decide +kernel)
theorem xk_t_LW_span : Cond.static xy_LW_span ∈ x_T := x_mem 578 (by decide +kernel) (by decide +kernel)
theorem xk_c_LW_span : Cond.codeWith xy_LW_span xc_LW_span 4 (some .int) [(0, 9, 12, 30)] ∈ x_T := x_mem 579 (by decide +kernel) (by decide +kernel)
theorem xk_LW_m40 : Cond.methodLink xr_LW 40 xy_PD_span ∈ x_T := x_mem 580 (by decide +kernel) (by decide +kernel)
theorem xk_i_PD_span : Cond.instanceMethod xy_PD_span ∈ x_T := x_mem 581 (by decide +kernel) (by decide +kernel)
theorem xk_s_PD_span : Cond.selects xr_PD xy_PD_span xy_PD_span ∈ x_T := x_mem 582 (by decide +kernel) (by decide +kernel)
theorem xk_c_PD_span : Cond.code xy_PD_span xc_PD_span 2 (some .int) ∈ x_T := x_mem 583 (by decide +kernel) (by decide +kernel)
theorem xk_PD_m121 : Cond.methodLink xr_PD 121 xy_RE_greatestLength ∈ x_T := x_mem 584 (by decide +kernel) (by decide +kernel)
theorem xk_i_RE_greatestLength : Cond.instanceMethod xy_RE_greatestLength ∈ x_T := x_mem 585 (by decide +kernel) (by decide +kernel)
theorem xk_s_RE_greatestLength : Cond.selects xr_RE xy_RE_greatestLength xy_RE_greatestLength ∈ x_T := x_mem 586 (by decide +kernel) (by decide +kernel)
theorem xk_c_RE_greatestLength : Cond.code xy_RE_greatestLength xc_RE_greatestLength 4 (some .int) ∈ x_T := x_mem 587 (by decide +kernel) (by decide +kernel)
theorem xk_RE_m45 : Cond.methodLink xr_RE 45 xy_RE_lengthOf ∈ x_T := x_mem 588 (by decide +kernel) (by decide +kernel)
theorem xk_RE_m48 : Cond.methodLink xr_RE 48 xy_JM_max ∈ x_T := x_mem 589 (by decide +kernel) (by decide +kernel)
theorem xk_LW_m93 : Cond.methodLink xr_LW 93 xy_LW_pairs ∈ x_T := x_mem 590 (by decide +kernel) (by decide +kernel)
theorem xk_t_LW_pairs : Cond.static xy_LW_pairs ∈ x_T := x_mem 591 (by decide +kernel) (by decide +kernel)
theorem xk_c_LW_pairs : Cond.codeWith xy_LW_pairs xc_LW_pairs 6 (some .int) [(0, 12, 15, 30), (0, 12, 19, 13)] ∈ x_T := x_mem 592 (by decide +kernel) (by decide +kernel)
theorem xk_LW_m43 : Cond.methodLink xr_LW 43 xy_PD_pairs ∈ x_T := x_mem 593 (by decide +kernel) (by decide +kernel)
theorem xk_i_PD_pairs : Cond.instanceMethod xy_PD_pairs ∈ x_T := x_mem 594 (by decide +kernel) (by decide +kernel)
theorem xk_s_PD_pairs : Cond.selects xr_PD xy_PD_pairs xy_PD_pairs ∈ x_T := x_mem 595 (by decide +kernel) (by decide +kernel)
theorem xk_c_PD_pairs : Cond.code xy_PD_pairs xc_PD_pairs 6 (some .int) ∈ x_T := x_mem 596 (by decide +kernel) (by decide +kernel)
theorem xk_PD_m127 : Cond.methodLink xr_PD 127 xy_RE_pairCount ∈ x_T := x_mem 598 (by decide +kernel) (by decide +kernel)
theorem xk_i_RE_pairCount : Cond.instanceMethod xy_RE_pairCount ∈ x_T := x_mem 599 (by decide +kernel) (by decide +kernel)
theorem xk_s_RE_pairCount : Cond.selects xr_RE xy_RE_pairCount xy_RE_pairCount ∈ x_T := x_mem 600 (by decide +kernel) (by decide +kernel)
theorem xk_c_RE_pairCount : Cond.code xy_RE_pairCount xc_RE_pairCount 3 (some .int) ∈ x_T := x_mem 601 (by decide +kernel) (by decide +kernel)
theorem xk_RE_m53 : Cond.methodLink xr_RE 53 xy_JI_bitCount ∈ x_T := x_mem 602 (by decide +kernel) (by decide +kernel)
theorem xk_PD_m130 : Cond.methodLink xr_PD 130 xy_RE_pairsSharedWith ∈ x_T := x_mem 603 (by decide +kernel) (by decide +kernel)
theorem xk_i_RE_pairsSharedWith : Cond.instanceMethod xy_RE_pairsSharedWith ∈ x_T := x_mem 604 (by decide +kernel) (by decide +kernel)
theorem xk_s_RE_pairsSharedWith : Cond.selects xr_RE xy_RE_pairsSharedWith xy_RE_pairsSharedWith ∈ x_T := x_mem 605 (by decide +kernel) (by decide +kernel)
theorem xk_c_RE_pairsSharedWith : Cond.code xy_RE_pairsSharedWith xc_RE_pairsSharedWith 4 (some .int) ∈ x_T := x_mem 606 (by decide +kernel) (by decide +kernel)
theorem xk_PD_m134 : Cond.methodLink xr_PD 134 xy_RE_pairsTurnedIn ∈ x_T := x_mem 607 (by decide +kernel) (by decide +kernel)
theorem xk_i_RE_pairsTurnedIn : Cond.instanceMethod xy_RE_pairsTurnedIn ∈ x_T := x_mem 608 (by decide +kernel) (by decide +kernel)
theorem xk_s_RE_pairsTurnedIn : Cond.selects xr_RE xy_RE_pairsTurnedIn xy_RE_pairsTurnedIn ∈ x_T := x_mem 609 (by decide +kernel) (by decide +kernel)
theorem xk_c_RE_pairsTurnedIn : Cond.code xy_RE_pairsTurnedIn xc_RE_pairsTurnedIn 4 (some .int) ∈ x_T := x_mem 610 (by decide +kernel) (by decide +kernel)
theorem xk_RE_m59 : Cond.methodLink xr_RE 59 xy_RE_sourcesOf ∈ x_T := x_mem 611 (by decide +kernel) (by decide +kernel)
theorem xk_PD_m137 : Cond.methodLink xr_PD 137 xy_RE_pairsLedOnBy ∈ x_T := x_mem 612 (by decide +kernel) (by decide +kernel)
theorem xk_i_RE_pairsLedOnBy : Cond.instanceMethod xy_RE_pairsLedOnBy ∈ x_T := x_mem 613 (by decide +kernel) (by decide +kernel)
theorem xk_s_RE_pairsLedOnBy : Cond.selects xr_RE xy_RE_pairsLedOnBy xy_RE_pairsLedOnBy ∈ x_T := x_mem 614 (by decide +kernel) (by decide +kernel)
theorem xk_c_RE_pairsLedOnBy : Cond.code xy_RE_pairsLedOnBy xc_RE_pairsLedOnBy 6 (some .int) ∈ x_T := x_mem 615 (by decide +kernel) (by decide +kernel)
theorem xk_LW_m96 : Cond.methodLink xr_LW 96 xy_LW_circle ∈ x_T := x_mem 616 (by decide +kernel) (by decide +kernel)
theorem xk_t_LW_circle : Cond.static xy_LW_circle ∈ x_T := x_mem 617 (by decide +kernel) (by decide +kernel)
theorem xk_c_LW_circle : Cond.codeWith xy_LW_circle xc_LW_circle 4 (some .int) [(0, 9, 12, 30)] ∈ x_T := x_mem 618 (by decide +kernel) (by decide +kernel)
theorem xk_LW_m46 : Cond.methodLink xr_LW 46 xy_PD_circle ∈ x_T := x_mem 619 (by decide +kernel) (by decide +kernel)
theorem xk_i_PD_circle : Cond.instanceMethod xy_PD_circle ∈ x_T := x_mem 620 (by decide +kernel) (by decide +kernel)
theorem xk_s_PD_circle : Cond.selects xr_PD xy_PD_circle xy_PD_circle ∈ x_T := x_mem 621 (by decide +kernel) (by decide +kernel)
theorem xk_c_PD_circle : Cond.code xy_PD_circle xc_PD_circle 2 (some .int) ∈ x_T := x_mem 622 (by decide +kernel) (by decide +kernel)
theorem xk_PD_m140 : Cond.methodLink xr_PD 140 xy_RE_leastOnCircle ∈ x_T := x_mem 623 (by decide +kernel) (by decide +kernel)
theorem xk_i_RE_leastOnCircle : Cond.instanceMethod xy_RE_leastOnCircle ∈ x_T := x_mem 624 (by decide +kernel) (by decide +kernel)
theorem xk_s_RE_leastOnCircle : Cond.selects xr_RE xy_RE_leastOnCircle xy_RE_leastOnCircle ∈ x_T := x_mem 625 (by decide +kernel) (by decide +kernel)
theorem xk_c_RE_leastOnCircle : Cond.code xy_RE_leastOnCircle xc_RE_leastOnCircle 2 (some .int) ∈ x_T := x_mem 626 (by decide +kernel) (by decide +kernel)
theorem xk_LW_m99 : Cond.methodLink xr_LW 99 xy_LW_best ∈ x_T := x_mem 627 (by decide +kernel) (by decide +kernel)
theorem xk_t_LW_best : Cond.static xy_LW_best ∈ x_T := x_mem 628 (by decide +kernel) (by decide +kernel)
theorem xk_c_LW_best : Cond.codeWith xy_LW_best xc_LW_best 4 (some .int) [(0, 9, 12, 30)] ∈ x_T := x_mem 629 (by decide +kernel) (by decide +kernel)
theorem xk_LW_m49 : Cond.methodLink xr_LW 49 xy_PD_best ∈ x_T := x_mem 630 (by decide +kernel) (by decide +kernel)
theorem xk_i_PD_best : Cond.instanceMethod xy_PD_best ∈ x_T := x_mem 631 (by decide +kernel) (by decide +kernel)
theorem xk_s_PD_best : Cond.selects xr_PD xy_PD_best xy_PD_best ∈ x_T := x_mem 632 (by decide +kernel) (by decide +kernel)
theorem xk_c_PD_best : Cond.code xy_PD_best xc_PD_best 2 (some .int) ∈ x_T := x_mem 633 (by decide +kernel) (by decide +kernel)
theorem xk_PD_m143 : Cond.methodLink xr_PD 143 xy_RE_richestNode ∈ x_T := x_mem 634 (by decide +kernel) (by decide +kernel)
theorem xk_i_RE_richestNode : Cond.instanceMethod xy_RE_richestNode ∈ x_T := x_mem 635 (by decide +kernel) (by decide +kernel)
theorem xk_s_RE_richestNode : Cond.selects xr_RE xy_RE_richestNode xy_RE_richestNode ∈ x_T := x_mem 636 (by decide +kernel) (by decide +kernel)
theorem xk_c_RE_richestNode : Cond.code xy_RE_richestNode xc_RE_richestNode 5 (some .int) ∈ x_T := x_mem 637 (by decide +kernel) (by decide +kernel)
theorem xk_LW_c53 : Cond.classLink xr_LW 53 xr_MO ∈ x_T := x_mem 638 (by decide +kernel) (by decide +kernel)
theorem xk_a_MO : Cond.instantiable xr_MO 20 ∈ x_T := x_mem 639 (by decide +kernel) (by decide +kernel)
theorem xk_LW_m55 : Cond.methodLink xr_LW 55 xy_MO_init ∈ x_T := x_mem 640 (by decide +kernel) (by decide +kernel)
theorem xk_i_MO_init : Cond.instanceMethod xy_MO_init ∈ x_T := x_mem 641 (by decide +kernel) (by decide +kernel)
theorem xk_c_MO_init : Cond.code xy_MO_init xc_MO_init 1 none ∈ x_T := x_mem 642 (by decide +kernel) (by decide +kernel)
theorem xk_MO_m1 : Cond.methodLink xr_MO 1 xy_JO_init ∈ x_T := x_mem 643 (by decide +kernel) (by decide +kernel)
theorem xk_MO_k32 : Cond.constant xr_MO 32 40960 ∈ x_T := x_mem 644 (by decide +kernel) (by decide +kernel)
theorem xk_MO_f48 : Cond.fieldLink xr_MO 48 (xf_MO 0).1 (xf_MO 0).2.1 (xf_MO 0).2.2.1 ∈ x_T := x_mem 645 (by decide +kernel) (by decide +kernel)
theorem xk_MO_f7 : Cond.fieldLink xr_MO 7 (xf_MO 1).1 (xf_MO 1).2.1 (xf_MO 1).2.2.1 ∈ x_T := x_mem 646 (by decide +kernel) (by decide +kernel)
theorem xk_MO_f13 : Cond.fieldLink xr_MO 13 (xf_MO 2).1 (xf_MO 2).2.1 (xf_MO 2).2.2.1 ∈ x_T := x_mem 647 (by decide +kernel) (by decide +kernel)
theorem xk_MO_f64 : Cond.fieldLink xr_MO 64 (xf_MO 3).1 (xf_MO 3).2.1 (xf_MO 3).2.2.1 ∈ x_T := x_mem 648 (by decide +kernel) (by decide +kernel)
theorem xk_MO_f16 : Cond.fieldLink xr_MO 16 (xf_MO 4).1 (xf_MO 4).2.1 (xf_MO 4).2.2.1 ∈ x_T := x_mem 649 (by decide +kernel) (by decide +kernel)
theorem xk_MO_f67 : Cond.fieldLink xr_MO 67 (xf_MO 5).1 (xf_MO 5).2.1 (xf_MO 5).2.2.1 ∈ x_T := x_mem 650 (by decide +kernel) (by decide +kernel)
theorem xk_MO_f20 : Cond.fieldLink xr_MO 20 (xf_MO 6).1 (xf_MO 6).2.1 (xf_MO 6).2.2.1 ∈ x_T := x_mem 651 (by decide +kernel) (by decide +kernel)
theorem xk_MO_f23 : Cond.fieldLink xr_MO 23 (xf_MO 7).1 (xf_MO 7).2.1 (xf_MO 7).2.2.1 ∈ x_T := x_mem 652 (by decide +kernel) (by decide +kernel)
theorem xk_MO_f26 : Cond.fieldLink xr_MO 26 (xf_MO 8).1 (xf_MO 8).2.1 (xf_MO 8).2.2.1 ∈ x_T := x_mem 653 (by decide +kernel) (by decide +kernel)
theorem xk_MO_f29 : Cond.fieldLink xr_MO 29 (xf_MO 9).1 (xf_MO 9).2.1 (xf_MO 9).2.2.1 ∈ x_T := x_mem 654 (by decide +kernel) (by decide +kernel)
theorem xk_MO_f75 : Cond.fieldLink xr_MO 75 (xf_MO 10).1 (xf_MO 10).2.1 (xf_MO 10).2.2.1 ∈ x_T := x_mem 655 (by decide +kernel) (by decide +kernel)
theorem xk_MO_f72 : Cond.fieldLink xr_MO 72 (xf_MO 11).1 (xf_MO 11).2.1 (xf_MO 11).2.2.1 ∈ x_T := x_mem 656 (by decide +kernel) (by decide +kernel)
theorem xk_MO_f78 : Cond.fieldLink xr_MO 78 (xf_MO 12).1 (xf_MO 12).2.1 (xf_MO 12).2.2.1 ∈ x_T := x_mem 657 (by decide +kernel) (by decide +kernel)
theorem xk_MO_f92 : Cond.fieldLink xr_MO 92 (xf_MO 13).1 (xf_MO 13).2.1 (xf_MO 13).2.2.1 ∈ x_T := x_mem 658 (by decide +kernel) (by decide +kernel)
theorem xk_MO_f33 : Cond.fieldLink xr_MO 33 (xf_MO 14).1 (xf_MO 14).2.1 (xf_MO 14).2.2.1 ∈ x_T := x_mem 659 (by decide +kernel) (by decide +kernel)
theorem xk_MO_f36 : Cond.fieldLink xr_MO 36 (xf_MO 15).1 (xf_MO 15).2.1 (xf_MO 15).2.2.1 ∈ x_T := x_mem 660 (by decide +kernel) (by decide +kernel)
theorem xk_MO_f39 : Cond.fieldLink xr_MO 39 (xf_MO 16).1 (xf_MO 16).2.1 (xf_MO 16).2.2.1 ∈ x_T := x_mem 661 (by decide +kernel) (by decide +kernel)
theorem xk_MO_f114 : Cond.fieldLink xr_MO 114 (xf_MO 17).1 (xf_MO 17).2.1 (xf_MO 17).2.2.1 ∈ x_T := x_mem 662 (by decide +kernel) (by decide +kernel)
theorem xk_MO_f42 : Cond.fieldLink xr_MO 42 (xf_MO 18).1 (xf_MO 18).2.1 (xf_MO 18).2.2.1 ∈ x_T := x_mem 663 (by decide +kernel) (by decide +kernel)
theorem xk_MO_f45 : Cond.fieldLink xr_MO 45 (xf_MO 19).1 (xf_MO 19).2.1 (xf_MO 19).2.2.1 ∈ x_T := x_mem 664 (by decide +kernel) (by decide +kernel)
theorem xk_LW_m62 : Cond.methodLink xr_LW 62 xy_MO_thrown ∈ x_T := x_mem 706 (by decide +kernel) (by decide +kernel)
theorem xk_i_MO_thrown : Cond.instanceMethod xy_MO_thrown ∈ x_T := x_mem 707 (by decide +kernel) (by decide +kernel)
theorem xk_s_MO_thrown : Cond.selects xr_MO xy_MO_thrown xy_MO_thrown ∈ x_T := x_mem 708 (by decide +kernel) (by decide +kernel)
theorem xk_c_MO_thrown : Cond.code xy_MO_thrown xc_MO_thrown 1 (some .int) ∈ x_T := x_mem 709 (by decide +kernel) (by decide +kernel)
theorem xk_LW_m61 : Cond.methodLink xr_LW 61 xy_MO_edge ∈ x_T := x_mem 710 (by decide +kernel) (by decide +kernel)
theorem xk_i_MO_edge : Cond.instanceMethod xy_MO_edge ∈ x_T := x_mem 711 (by decide +kernel) (by decide +kernel)
theorem xk_s_MO_edge : Cond.selects xr_MO xy_MO_edge xy_MO_edge ∈ x_T := x_mem 712 (by decide +kernel) (by decide +kernel)
theorem xk_c_MO_edge : Cond.code xy_MO_edge xc_MO_edge 5 (some .boolean) ∈ x_T := x_mem 713 (by decide +kernel) (by decide +kernel)
theorem xk_MO_m52 : Cond.methodLink xr_MO 52 xy_MO_in ∈ x_T := x_mem 714 (by decide +kernel) (by decide +kernel)
theorem xk_t_MO_in : Cond.static xy_MO_in ∈ x_T := x_mem 715 (by decide +kernel) (by decide +kernel)
theorem xk_c_MO_in : Cond.code xy_MO_in xc_MO_in 2 (some .boolean) ∈ x_T := x_mem 716 (by decide +kernel) (by decide +kernel)
theorem xk_MO_m56 : Cond.methodLink xr_MO 56 xy_MO_fails ∈ x_T := x_mem 717 (by decide +kernel) (by decide +kernel)
theorem xk_i_MO_fails : Cond.instanceMethod xy_MO_fails ∈ x_T := x_mem 719 (by decide +kernel) (by decide +kernel)
theorem xk_c_MO_fails : Cond.code xy_MO_fails xc_MO_fails 3 (some .boolean) ∈ x_T := x_mem 720 (by decide +kernel) (by decide +kernel)
theorem xk_MO_m60 : Cond.methodLink xr_MO 60 xy_MO_place ∈ x_T := x_mem 721 (by decide +kernel) (by decide +kernel)
theorem xk_t_MO_place : Cond.static xy_MO_place ∈ x_T := x_mem 722 (by decide +kernel) (by decide +kernel)
theorem xk_c_MO_place : Cond.code xy_MO_place xc_MO_place 3 (some .int) ∈ x_T := x_mem 723 (by decide +kernel) (by decide +kernel)
theorem xk_LW_m68 : Cond.methodLink xr_LW 68 xy_MO_cut ∈ x_T := x_mem 724 (by decide +kernel) (by decide +kernel)
theorem xk_i_MO_cut : Cond.instanceMethod xy_MO_cut ∈ x_T := x_mem 725 (by decide +kernel) (by decide +kernel)
theorem xk_s_MO_cut : Cond.selects xr_MO xy_MO_cut xy_MO_cut ∈ x_T := x_mem 726 (by decide +kernel) (by decide +kernel)
theorem xk_c_MO_cut : Cond.code xy_MO_cut xc_MO_cut 6 (some .boolean) ∈ x_T := x_mem 727 (by decide +kernel) (by decide +kernel)
theorem xk_LW_m72 : Cond.methodLink xr_LW 72 xy_MO_tag ∈ x_T := x_mem 728 (by decide +kernel) (by decide +kernel)
theorem xk_i_MO_tag : Cond.instanceMethod xy_MO_tag ∈ x_T := x_mem 729 (by decide +kernel) (by decide +kernel)
theorem xk_s_MO_tag : Cond.selects xr_MO xy_MO_tag xy_MO_tag ∈ x_T := x_mem 730 (by decide +kernel) (by decide +kernel)
theorem xk_c_MO_tag : Cond.code xy_MO_tag xc_MO_tag 4 none ∈ x_T := x_mem 731 (by decide +kernel) (by decide +kernel)
theorem xk_LW_m78 : Cond.methodLink xr_LW 78 xy_MO_feed ∈ x_T := x_mem 732 (by decide +kernel) (by decide +kernel)
theorem xk_i_MO_feed : Cond.instanceMethod xy_MO_feed ∈ x_T := x_mem 733 (by decide +kernel) (by decide +kernel)
theorem xk_s_MO_feed : Cond.selects xr_MO xy_MO_feed xy_MO_feed ∈ x_T := x_mem 734 (by decide +kernel) (by decide +kernel)
theorem xk_c_MO_feed : Cond.code xy_MO_feed xc_MO_feed 5 (some .int) ∈ x_T := x_mem 735 (by decide +kernel) (by decide +kernel)
theorem xk_MO_k70 : Cond.constantLong xr_MO 70 255 ∈ x_T := x_mem 736 (by decide +kernel) (by decide +kernel)
theorem xk_LW_m82 : Cond.methodLink xr_LW 82 xy_MO_load ∈ x_T := x_mem 737 (by decide +kernel) (by decide +kernel)
theorem xk_i_MO_load : Cond.instanceMethod xy_MO_load ∈ x_T := x_mem 738 (by decide +kernel) (by decide +kernel)
theorem xk_s_MO_load : Cond.selects xr_MO xy_MO_load xy_MO_load ∈ x_T := x_mem 739 (by decide +kernel) (by decide +kernel)
theorem xk_c_MO_load : Cond.code xy_MO_load xc_MO_load 3 (some .int) ∈ x_T := x_mem 740 (by decide +kernel) (by decide +kernel)
theorem xk_MO_m159 : Cond.methodLink xr_MO 159 xy_MO_begin ∈ x_T := x_mem 741 (by decide +kernel) (by decide +kernel)
theorem xk_i_MO_begin : Cond.instanceMethod xy_MO_begin ∈ x_T := x_mem 743 (by decide +kernel) (by decide +kernel)
theorem xk_c_MO_begin : Cond.code xy_MO_begin xc_MO_begin 2 none ∈ x_T := x_mem 744 (by decide +kernel) (by decide +kernel)
theorem xk_MO_m117 : Cond.methodLink xr_MO 117 xy_MO_bracket ∈ x_T := x_mem 745 (by decide +kernel) (by decide +kernel)
theorem xk_i_MO_bracket : Cond.instanceMethod xy_MO_bracket ∈ x_T := x_mem 747 (by decide +kernel) (by decide +kernel)
theorem xk_c_MO_bracket : Cond.code xy_MO_bracket xc_MO_bracket 1 none ∈ x_T := x_mem 748 (by decide +kernel) (by decide +kernel)
theorem xk_MO_m97 : Cond.methodLink xr_MO 97 xy_MO_plain ∈ x_T := x_mem 749 (by decide +kernel) (by decide +kernel)
theorem xk_i_MO_plain : Cond.instanceMethod xy_MO_plain ∈ x_T := x_mem 751 (by decide +kernel) (by decide +kernel)
theorem xk_c_MO_plain : Cond.code xy_MO_plain xc_MO_plain 4 none ∈ x_T := x_mem 752 (by decide +kernel) (by decide +kernel)
theorem xk_MO_k96 : Cond.constant xr_MO 96 1000000 ∈ x_T := x_mem 753 (by decide +kernel) (by decide +kernel)
theorem xk_MO_m163 : Cond.methodLink xr_MO 163 xy_MO_read ∈ x_T := x_mem 754 (by decide +kernel) (by decide +kernel)
theorem xk_i_MO_read : Cond.instanceMethod xy_MO_read ∈ x_T := x_mem 756 (by decide +kernel) (by decide +kernel)
theorem xk_c_MO_read : Cond.code xy_MO_read xc_MO_read 3 none ∈ x_T := x_mem 757 (by decide +kernel) (by decide +kernel)
theorem xk_MO_m81 : Cond.methodLink xr_MO 81 xy_MO_goes ∈ x_T := x_mem 758 (by decide +kernel) (by decide +kernel)
theorem xk_i_MO_goes : Cond.instanceMethod xy_MO_goes ∈ x_T := x_mem 760 (by decide +kernel) (by decide +kernel)
theorem xk_c_MO_goes : Cond.code xy_MO_goes xc_MO_goes 1 (some .boolean) ∈ x_T := x_mem 761 (by decide +kernel) (by decide +kernel)
theorem xk_MO_m85 : Cond.methodLink xr_MO 85 xy_MO_now ∈ x_T := x_mem 762 (by decide +kernel) (by decide +kernel)
theorem xk_i_MO_now : Cond.instanceMethod xy_MO_now ∈ x_T := x_mem 764 (by decide +kernel) (by decide +kernel)
theorem xk_c_MO_now : Cond.code xy_MO_now xc_MO_now 1 (some .int) ∈ x_T := x_mem 765 (by decide +kernel) (by decide +kernel)
theorem xk_MO_m120 : Cond.methodLink xr_MO 120 xy_MO_opens ∈ x_T := x_mem 766 (by decide +kernel) (by decide +kernel)
theorem xk_i_MO_opens : Cond.instanceMethod xy_MO_opens ∈ x_T := x_mem 768 (by decide +kernel) (by decide +kernel)
theorem xk_c_MO_opens : Cond.code xy_MO_opens xc_MO_opens 1 none ∈ x_T := x_mem 769 (by decide +kernel) (by decide +kernel)
theorem xk_MO_m89 : Cond.methodLink xr_MO 89 xy_MO_fail ∈ x_T := x_mem 770 (by decide +kernel) (by decide +kernel)
theorem xk_i_MO_fail : Cond.instanceMethod xy_MO_fail ∈ x_T := x_mem 772 (by decide +kernel) (by decide +kernel)
theorem xk_c_MO_fail : Cond.code xy_MO_fail xc_MO_fail 1 none ∈ x_T := x_mem 773 (by decide +kernel) (by decide +kernel)
theorem xk_MO_m123 : Cond.methodLink xr_MO 123 xy_MO_shuts ∈ x_T := x_mem 774 (by decide +kernel) (by decide +kernel)
theorem xk_i_MO_shuts : Cond.instanceMethod xy_MO_shuts ∈ x_T := x_mem 776 (by decide +kernel) (by decide +kernel)
theorem xk_c_MO_shuts : Cond.code xy_MO_shuts xc_MO_shuts 1 none ∈ x_T := x_mem 777 (by decide +kernel) (by decide +kernel)
theorem xk_MO_m126 : Cond.methodLink xr_MO 126 xy_MO_bar ∈ x_T := x_mem 778 (by decide +kernel) (by decide +kernel)
theorem xk_i_MO_bar : Cond.instanceMethod xy_MO_bar ∈ x_T := x_mem 780 (by decide +kernel) (by decide +kernel)
theorem xk_c_MO_bar : Cond.code xy_MO_bar xc_MO_bar 1 none ∈ x_T := x_mem 781 (by decide +kernel) (by decide +kernel)
theorem xk_MO_m110 : Cond.methodLink xr_MO 110 xy_MO_either ∈ x_T := x_mem 782 (by decide +kernel) (by decide +kernel)
theorem xk_i_MO_either : Cond.instanceMethod xy_MO_either ∈ x_T := x_mem 784 (by decide +kernel) (by decide +kernel)
theorem xk_c_MO_either : Cond.code xy_MO_either xc_MO_either 5 none ∈ x_T := x_mem 785 (by decide +kernel) (by decide +kernel)
theorem xk_MO_m105 : Cond.methodLink xr_MO 105 xy_MO_copy ∈ x_T := x_mem 786 (by decide +kernel) (by decide +kernel)
theorem xk_i_MO_copy : Cond.instanceMethod xy_MO_copy ∈ x_T := x_mem 788 (by decide +kernel) (by decide +kernel)
theorem xk_c_MO_copy : Cond.code xy_MO_copy xc_MO_copy 4 none ∈ x_T := x_mem 789 (by decide +kernel) (by decide +kernel)
theorem xk_MO_m136 : Cond.methodLink xr_MO 136 xy_MO_signs ∈ x_T := x_mem 790 (by decide +kernel) (by decide +kernel)
theorem xk_i_MO_signs : Cond.instanceMethod xy_MO_signs ∈ x_T := x_mem 792 (by decide +kernel) (by decide +kernel)
theorem xk_c_MO_signs : Cond.code xy_MO_signs xc_MO_signs 3 none ∈ x_T := x_mem 793 (by decide +kernel) (by decide +kernel)
theorem xk_MO_m146 : Cond.methodLink xr_MO 146 xy_MO_counted ∈ x_T := x_mem 794 (by decide +kernel) (by decide +kernel)
theorem xk_i_MO_counted : Cond.instanceMethod xy_MO_counted ∈ x_T := x_mem 796 (by decide +kernel) (by decide +kernel)
theorem xk_c_MO_counted : Cond.code xy_MO_counted xc_MO_counted 5 none ∈ x_T := x_mem 797 (by decide +kernel) (by decide +kernel)
theorem xk_MO_m155 : Cond.methodLink xr_MO 155 xy_MO_digit ∈ x_T := x_mem 798 (by decide +kernel) (by decide +kernel)
theorem xk_i_MO_digit : Cond.instanceMethod xy_MO_digit ∈ x_T := x_mem 800 (by decide +kernel) (by decide +kernel)
theorem xk_c_MO_digit : Cond.code xy_MO_digit xc_MO_digit 3 (some .int) ∈ x_T := x_mem 801 (by decide +kernel) (by decide +kernel)
theorem xk_MO_m143 : Cond.methodLink xr_MO 143 xy_MO_must ∈ x_T := x_mem 802 (by decide +kernel) (by decide +kernel)
theorem xk_i_MO_must : Cond.instanceMethod xy_MO_must ∈ x_T := x_mem 804 (by decide +kernel) (by decide +kernel)
theorem xk_c_MO_must : Cond.code xy_MO_must xc_MO_must 2 none ∈ x_T := x_mem 805 (by decide +kernel) (by decide +kernel)
theorem xk_MO_m152 : Cond.methodLink xr_MO 152 xy_MO_behind ∈ x_T := x_mem 806 (by decide +kernel) (by decide +kernel)
theorem xk_i_MO_behind : Cond.instanceMethod xy_MO_behind ∈ x_T := x_mem 808 (by decide +kernel) (by decide +kernel)
theorem xk_c_MO_behind : Cond.code xy_MO_behind xc_MO_behind 5 none ∈ x_T := x_mem 809 (by decide +kernel) (by decide +kernel)
theorem xk_MO_m101 : Cond.methodLink xr_MO 101 xy_MO_spread ∈ x_T := x_mem 810 (by decide +kernel) (by decide +kernel)
theorem xk_i_MO_spread : Cond.instanceMethod xy_MO_spread ∈ x_T := x_mem 812 (by decide +kernel) (by decide +kernel)
theorem xk_c_MO_spread : Cond.code xy_MO_spread xc_MO_spread 6 none ∈ x_T := x_mem 813 (by decide +kernel) (by decide +kernel)
theorem xk_MO_k109 : Cond.constant xr_MO 109 39936 ∈ x_T := x_mem 814 (by decide +kernel) (by decide +kernel)
theorem xk_MO_m149 : Cond.methodLink xr_MO 149 xy_MO_again ∈ x_T := x_mem 815 (by decide +kernel) (by decide +kernel)
theorem xk_i_MO_again : Cond.instanceMethod xy_MO_again ∈ x_T := x_mem 817 (by decide +kernel) (by decide +kernel)
theorem xk_c_MO_again : Cond.code xy_MO_again xc_MO_again 6 none ∈ x_T := x_mem 818 (by decide +kernel) (by decide +kernel)
theorem xk_MO_k113 : Cond.constant xr_MO 113 36864 ∈ x_T := x_mem 819 (by decide +kernel) (by decide +kernel)
theorem xk_MO_m129 : Cond.methodLink xr_MO 129 xy_MO_isLetter ∈ x_T := x_mem 820 (by decide +kernel) (by decide +kernel)
theorem xk_t_MO_isLetter : Cond.static xy_MO_isLetter ∈ x_T := x_mem 821 (by decide +kernel) (by decide +kernel)
theorem xk_c_MO_isLetter : Cond.code xy_MO_isLetter xc_MO_isLetter 1 (some .boolean) ∈ x_T := x_mem 822 (by decide +kernel) (by decide +kernel)
theorem xk_MO_m133 : Cond.methodLink xr_MO 133 xy_MO_atom ∈ x_T := x_mem 823 (by decide +kernel) (by decide +kernel)
theorem xk_i_MO_atom : Cond.instanceMethod xy_MO_atom ∈ x_T := x_mem 825 (by decide +kernel) (by decide +kernel)
theorem xk_c_MO_atom : Cond.code xy_MO_atom xc_MO_atom 7 none ∈ x_T := x_mem 826 (by decide +kernel) (by decide +kernel)
theorem xk_MO_m139 : Cond.methodLink xr_MO 139 xy_MO_test ∈ x_T := x_mem 827 (by decide +kernel) (by decide +kernel)
theorem xk_i_MO_test : Cond.instanceMethod xy_MO_test ∈ x_T := x_mem 829 (by decide +kernel) (by decide +kernel)
theorem xk_c_MO_test : Cond.code xy_MO_test xc_MO_test 5 none ∈ x_T := x_mem 830 (by decide +kernel) (by decide +kernel)
theorem xk_LW_m86 : Cond.methodLink xr_LW 86 xy_MO_reach ∈ x_T := x_mem 831 (by decide +kernel) (by decide +kernel)
theorem xk_i_MO_reach : Cond.instanceMethod xy_MO_reach ∈ x_T := x_mem 832 (by decide +kernel) (by decide +kernel)
theorem xk_s_MO_reach : Cond.selects xr_MO xy_MO_reach xy_MO_reach ∈ x_T := x_mem 833 (by decide +kernel) (by decide +kernel)
theorem xk_c_MO_reach : Cond.code xy_MO_reach xc_MO_reach 7 (some .int) ∈ x_T := x_mem 834 (by decide +kernel) (by decide +kernel)
theorem xk_MO_m166 : Cond.methodLink xr_MO 166 xy_MO_lengths ∈ x_T := x_mem 835 (by decide +kernel) (by decide +kernel)
theorem xk_i_MO_lengths : Cond.instanceMethod xy_MO_lengths ∈ x_T := x_mem 837 (by decide +kernel) (by decide +kernel)
theorem xk_c_MO_lengths : Cond.code xy_MO_lengths xc_MO_lengths 4 none ∈ x_T := x_mem 838 (by decide +kernel) (by decide +kernel)
theorem xk_LW_m89 : Cond.methodLink xr_LW 89 xy_MO_distance ∈ x_T := x_mem 839 (by decide +kernel) (by decide +kernel)
theorem xk_i_MO_distance : Cond.instanceMethod xy_MO_distance ∈ x_T := x_mem 840 (by decide +kernel) (by decide +kernel)
theorem xk_s_MO_distance : Cond.selects xr_MO xy_MO_distance xy_MO_distance ∈ x_T := x_mem 841 (by decide +kernel) (by decide +kernel)
theorem xk_c_MO_distance : Cond.code xy_MO_distance xc_MO_distance 6 (some .int) ∈ x_T := x_mem 842 (by decide +kernel) (by decide +kernel)
theorem xk_LW_m92 : Cond.methodLink xr_LW 92 xy_MO_span ∈ x_T := x_mem 843 (by decide +kernel) (by decide +kernel)
theorem xk_i_MO_span : Cond.instanceMethod xy_MO_span ∈ x_T := x_mem 844 (by decide +kernel) (by decide +kernel)
theorem xk_s_MO_span : Cond.selects xr_MO xy_MO_span xy_MO_span ∈ x_T := x_mem 845 (by decide +kernel) (by decide +kernel)
theorem xk_c_MO_span : Cond.code xy_MO_span xc_MO_span 4 (some .int) ∈ x_T := x_mem 846 (by decide +kernel) (by decide +kernel)
theorem xk_LW_m95 : Cond.methodLink xr_LW 95 xy_MO_pairs ∈ x_T := x_mem 847 (by decide +kernel) (by decide +kernel)
theorem xk_i_MO_pairs : Cond.instanceMethod xy_MO_pairs ∈ x_T := x_mem 848 (by decide +kernel) (by decide +kernel)
theorem xk_s_MO_pairs : Cond.selects xr_MO xy_MO_pairs xy_MO_pairs ∈ x_T := x_mem 849 (by decide +kernel) (by decide +kernel)
theorem xk_c_MO_pairs : Cond.code xy_MO_pairs xc_MO_pairs 9 (some .int) ∈ x_T := x_mem 850 (by decide +kernel) (by decide +kernel)
theorem xk_LW_m98 : Cond.methodLink xr_LW 98 xy_MO_circle ∈ x_T := x_mem 851 (by decide +kernel) (by decide +kernel)
theorem xk_i_MO_circle : Cond.instanceMethod xy_MO_circle ∈ x_T := x_mem 852 (by decide +kernel) (by decide +kernel)
theorem xk_s_MO_circle : Cond.selects xr_MO xy_MO_circle xy_MO_circle ∈ x_T := x_mem 853 (by decide +kernel) (by decide +kernel)
theorem xk_c_MO_circle : Cond.code xy_MO_circle xc_MO_circle 3 (some .int) ∈ x_T := x_mem 854 (by decide +kernel) (by decide +kernel)
theorem xk_LW_m101 : Cond.methodLink xr_LW 101 xy_MO_best ∈ x_T := x_mem 855 (by decide +kernel) (by decide +kernel)
theorem xk_i_MO_best : Cond.instanceMethod xy_MO_best ∈ x_T := x_mem 856 (by decide +kernel) (by decide +kernel)
theorem xk_s_MO_best : Cond.selects xr_MO xy_MO_best xy_MO_best ∈ x_T := x_mem 857 (by decide +kernel) (by decide +kernel)
theorem xk_c_MO_best : Cond.code xy_MO_best xc_MO_best 7 (some .int) ∈ x_T := x_mem 858 (by decide +kernel) (by decide +kernel)
theorem xk_LW_m105 : Cond.methodLink xr_LW 105 xy_MO_count ∈ x_T := x_mem 859 (by decide +kernel) (by decide +kernel)
theorem xk_i_MO_count : Cond.instanceMethod xy_MO_count ∈ x_T := x_mem 860 (by decide +kernel) (by decide +kernel)
theorem xk_s_MO_count : Cond.selects xr_MO xy_MO_count xy_MO_count ∈ x_T := x_mem 861 (by decide +kernel) (by decide +kernel)
theorem xk_c_MO_count : Cond.code xy_MO_count xc_MO_count 4 (some .int) ∈ x_T := x_mem 862 (by decide +kernel) (by decide +kernel)
theorem xk_LW_k73 : Cond.constantLong xr_LW 73 4294967295 ∈ x_T := x_mem 863 (by decide +kernel) (by decide +kernel)
theorem xk_ac_long : Cond.arrayClass .long ∈ x_T := x_mem 864 (by decide +kernel) (by decide +kernel)
def x_nest : List Cond := [Cond.methodLinkNest xr_PD 11 xy_GR_init xr_PD, Cond.fieldLinkNest xr_PD 67 (xf_GR 2).1 (xf_GR 2).2.1 (xf_GR 2).2.2.1 xr_PD, Cond.methodLinkNest xr_PD 18 xy_RD_init xr_PD, Cond.fieldLinkNest xr_PD 163 (xf_EX 0).1 (xf_EX 0).2.1 (xf_EX 0).2.2.1 xr_PD, Cond.fieldLinkNest xr_PD 160 (xf_EX 1).1 (xf_EX 1).2.1 (xf_EX 1).2.2.1 xr_PD, Cond.fieldLinkNest xr_RD 56 (xf_EX 2).1 (xf_EX 2).2.1 (xf_EX 2).2.2.1 xr_PD, Cond.fieldLinkNest xr_PD 103 (xf_EX 2).1 (xf_EX 2).2.1 (xf_EX 2).2.2.1 xr_PD, Cond.methodLinkNest xr_PD 25 xy_BE_init xr_PD, Cond.methodLinkNest xr_BE 21 xy_RE_init xr_PD, Cond.fieldLinkNest xr_PD 114 (xf_RE 0).1 (xf_RE 0).2.1 (xf_RE 0).2.2.1 xr_PD, Cond.methodLinkNest xr_PD 55 xy_RE_init xr_PD, Cond.methodLinkNest xr_GR 22 xy_PD_isIn xr_PD, Cond.methodLinkNest xr_RE 24 xy_PD_isIn xr_PD]
theorem xk_PD_m11 : Cond.methodLinkNest xr_PD 11 xy_GR_init xr_PD ∈ x_nest := List.mem_of_getElem? (i := 0) rfl
theorem xk_PD_f67 : Cond.fieldLinkNest xr_PD 67 (xf_GR 2).1 (xf_GR 2).2.1 (xf_GR 2).2.2.1 xr_PD ∈ x_nest := List.mem_of_getElem? (i := 1) rfl
theorem xk_PD_m18 : Cond.methodLinkNest xr_PD 18 xy_RD_init xr_PD ∈ x_nest := List.mem_of_getElem? (i := 2) rfl
theorem xk_PD_f163 : Cond.fieldLinkNest xr_PD 163 (xf_EX 0).1 (xf_EX 0).2.1 (xf_EX 0).2.2.1 xr_PD ∈ x_nest := List.mem_of_getElem? (i := 3) rfl
theorem xk_PD_f160 : Cond.fieldLinkNest xr_PD 160 (xf_EX 1).1 (xf_EX 1).2.1 (xf_EX 1).2.2.1 xr_PD ∈ x_nest := List.mem_of_getElem? (i := 4) rfl
theorem xk_RD_f56 : Cond.fieldLinkNest xr_RD 56 (xf_EX 2).1 (xf_EX 2).2.1 (xf_EX 2).2.2.1 xr_PD ∈ x_nest := List.mem_of_getElem? (i := 5) rfl
theorem xk_PD_f103 : Cond.fieldLinkNest xr_PD 103 (xf_EX 2).1 (xf_EX 2).2.1 (xf_EX 2).2.2.1 xr_PD ∈ x_nest := List.mem_of_getElem? (i := 6) rfl
theorem xk_PD_m25 : Cond.methodLinkNest xr_PD 25 xy_BE_init xr_PD ∈ x_nest := List.mem_of_getElem? (i := 7) rfl
theorem xk_BE_m21 : Cond.methodLinkNest xr_BE 21 xy_RE_init xr_PD ∈ x_nest := List.mem_of_getElem? (i := 8) rfl
theorem xk_PD_f114 : Cond.fieldLinkNest xr_PD 114 (xf_RE 0).1 (xf_RE 0).2.1 (xf_RE 0).2.2.1 xr_PD ∈ x_nest := List.mem_of_getElem? (i := 9) rfl
theorem xk_PD_m55 : Cond.methodLinkNest xr_PD 55 xy_RE_init xr_PD ∈ x_nest := List.mem_of_getElem? (i := 10) rfl
theorem xk_GR_m22 : Cond.methodLinkNest xr_GR 22 xy_PD_isIn xr_PD ∈ x_nest := List.mem_of_getElem? (i := 11) rfl
theorem xk_RE_m24 : Cond.methodLinkNest xr_RE 24 xy_PD_isIn xr_PD ∈ x_nest := List.mem_of_getElem? (i := 12) rfl
theorem x_nest_in : ∀ w ∈ x_nest, w ∈ lw_tbl := by decide +kernel
theorem x_nest_k : ∀ w ∈ x_nest, (∃ a i b n d h, w = Cond.fieldLinkNest a i b n d h) ∨ ∃ a i y h, w = Cond.methodLinkNest a i y h := by
  intro w hw
  simp only [x_nest, List.mem_cons, List.not_mem_nil, or_false] at hw
  rcases hw with rfl | rfl | rfl | rfl | rfl | rfl | rfl | rfl | rfl | rfl | rfl | rfl | rfl <;> first | exact Or.inl ⟨_, _, _, _, _, _, rfl⟩ | exact Or.inr ⟨_, _, _, _, rfl⟩
theorem xu_PD : ∀ w ∈ u_ws xr_PD xf_PD 8, w ∈ x_T := by decide +kernel
theorem xu_GR : ∀ w ∈ u_ws xr_GR xf_GR 3, w ∈ x_T := by decide +kernel
theorem xu_RE : ∀ w ∈ u_ws xr_RE xf_RE 2, w ∈ x_T := by decide +kernel
theorem xu_EX : ∀ w ∈ u_ws xr_EX xf_EX 3, w ∈ x_T := by decide +kernel
theorem xu_RD : ∀ w ∈ u_ws xr_RD xf_RD 8, w ∈ x_T := by decide +kernel
theorem xu_BE : ∀ w ∈ u_ws xr_BE xf_BE 3, w ∈ x_T := by decide +kernel
theorem xu_MO : ∀ w ∈ u_ws xr_MO xf_MO 20, w ∈ x_T := by decide +kernel
end
section
theorem xd_PD_init_0 : decode xc_PD_init 0 = .ok (.aload_n 0, 1) := by decide +kernel
theorem xd_PD_init_1 : decode xc_PD_init 1 = .ok (.invokespecial 3, 3) := by decide +kernel
theorem xd_PD_init_4 : decode xc_PD_init 4 = .ok (.aload_n 0, 1) := by decide +kernel
theorem xd_PD_init_5 : decode xc_PD_init 5 = .ok (.new 9, 3) := by decide +kernel
theorem xd_PD_init_8 : decode xc_PD_init 8 = .ok (.dup, 1) := by decide +kernel
theorem xd_PD_init_9 : decode xc_PD_init 9 = .ok (.invokespecial 11, 3) := by decide +kernel
theorem xd_PD_init_12 : decode xc_PD_init 12 = .ok (.putfield 12, 3) := by decide +kernel
theorem xd_PD_init_15 : decode xc_PD_init 15 = .ok (.aload_n 0, 1) := by decide +kernel
theorem xd_PD_init_16 : decode xc_PD_init 16 = .ok (.new 16, 3) := by decide +kernel
theorem xd_PD_init_19 : decode xc_PD_init 19 = .ok (.dup, 1) := by decide +kernel
theorem xd_PD_init_20 : decode xc_PD_init 20 = .ok (.invokespecial 18, 3) := by decide +kernel
theorem xd_PD_init_23 : decode xc_PD_init 23 = .ok (.putfield 19, 3) := by decide +kernel
theorem xd_PD_init_26 : decode xc_PD_init 26 = .ok (.aload_n 0, 1) := by decide +kernel
theorem xd_PD_init_27 : decode xc_PD_init 27 = .ok (.new 23, 3) := by decide +kernel
theorem xd_PD_init_30 : decode xc_PD_init 30 = .ok (.dup, 1) := by decide +kernel
theorem xd_PD_init_31 : decode xc_PD_init 31 = .ok (.invokespecial 25, 3) := by decide +kernel
theorem xd_PD_init_34 : decode xc_PD_init 34 = .ok (.putfield 26, 3) := by decide +kernel
theorem xd_PD_init_37 : decode xc_PD_init 37 = .ok (.aload_n 0, 1) := by decide +kernel
theorem xd_PD_init_38 : decode xc_PD_init 38 = .ok (.bipush 100, 2) := by decide +kernel
theorem xd_PD_init_40 : decode xc_PD_init 40 = .ok (.newarray .int, 2) := by decide +kernel
theorem xd_PD_init_42 : decode xc_PD_init 42 = .ok (.putfield 30, 3) := by decide +kernel
theorem xd_PD_init_45 : decode xc_PD_init 45 = .ok (.aload_n 0, 1) := by decide +kernel
theorem xd_PD_init_46 : decode xc_PD_init 46 = .ok (.iconst 0, 1) := by decide +kernel
theorem xd_PD_init_47 : decode xc_PD_init 47 = .ok (.putfield 34, 3) := by decide +kernel
theorem xd_PD_init_50 : decode xc_PD_init 50 = .ok (.aload_n 0, 1) := by decide +kernel
theorem xd_PD_init_51 : decode xc_PD_init 51 = .ok (.iconst 4, 1) := by decide +kernel
theorem xd_PD_init_52 : decode xc_PD_init 52 = .ok (.anewarray 38, 3) := by decide +kernel
theorem xd_PD_init_55 : decode xc_PD_init 55 = .ok (.putfield 40, 3) := by decide +kernel
theorem xd_PD_init_58 : decode xc_PD_init 58 = .ok (.aload_n 0, 1) := by decide +kernel
theorem xd_PD_init_59 : decode xc_PD_init 59 = .ok (.iconst 4, 1) := by decide +kernel
theorem xd_PD_init_60 : decode xc_PD_init 60 = .ok (.anewarray 44, 3) := by decide +kernel
theorem xd_PD_init_63 : decode xc_PD_init 63 = .ok (.putfield 46, 3) := by decide +kernel
theorem xd_PD_init_66 : decode xc_PD_init 66 = .ok (.aload_n 0, 1) := by decide +kernel
theorem xd_PD_init_67 : decode xc_PD_init 67 = .ok (.iconst 4, 1) := by decide +kernel
theorem xd_PD_init_68 : decode xc_PD_init 68 = .ok (.newarray .boolean, 2) := by decide +kernel
theorem xd_PD_init_70 : decode xc_PD_init 70 = .ok (.putfield 50, 3) := by decide +kernel
theorem xd_PD_init_73 : decode xc_PD_init 73 = .ok (.iconst 0, 1) := by decide +kernel
theorem xd_PD_init_74 : decode xc_PD_init 74 = .ok (.istore_n 1, 1) := by decide +kernel
theorem xd_PD_init_75 : decode xc_PD_init 75 = .ok (.iload_n 1, 1) := by decide +kernel
theorem xd_PD_init_76 : decode xc_PD_init 76 = .ok (.iconst 4, 1) := by decide +kernel
theorem xd_PD_init_77 : decode xc_PD_init 77 = .ok (.if_icmp .ge 35, 3) := by decide +kernel
theorem xd_PD_init_80 : decode xc_PD_init 80 = .ok (.aload_n 0, 1) := by decide +kernel
theorem xd_PD_init_81 : decode xc_PD_init 81 = .ok (.getfield 40, 3) := by decide +kernel
theorem xd_PD_init_84 : decode xc_PD_init 84 = .ok (.iload_n 1, 1) := by decide +kernel
theorem xd_PD_init_85 : decode xc_PD_init 85 = .ok (.new 38, 3) := by decide +kernel
theorem xd_PD_init_88 : decode xc_PD_init 88 = .ok (.dup, 1) := by decide +kernel
theorem xd_PD_init_89 : decode xc_PD_init 89 = .ok (.invokespecial 54, 3) := by decide +kernel
theorem xd_PD_init_92 : decode xc_PD_init 92 = .ok (.aastore, 1) := by decide +kernel
theorem xd_PD_init_93 : decode xc_PD_init 93 = .ok (.aload_n 0, 1) := by decide +kernel
theorem xd_PD_init_94 : decode xc_PD_init 94 = .ok (.getfield 46, 3) := by decide +kernel
theorem xd_PD_init_97 : decode xc_PD_init 97 = .ok (.iload_n 1, 1) := by decide +kernel
theorem xd_PD_init_98 : decode xc_PD_init 98 = .ok (.new 44, 3) := by decide +kernel
theorem xd_PD_init_101 : decode xc_PD_init 101 = .ok (.dup, 1) := by decide +kernel
theorem xd_PD_init_102 : decode xc_PD_init 102 = .ok (.invokespecial 55, 3) := by decide +kernel
theorem xd_PD_init_105 : decode xc_PD_init 105 = .ok (.aastore, 1) := by decide +kernel
theorem xd_PD_init_106 : decode xc_PD_init 106 = .ok (.iinc 1 1, 3) := by decide +kernel
theorem xd_PD_init_109 : decode xc_PD_init 109 = .ok (.goto (-34), 3) := by decide +kernel
theorem xd_PD_init_112 : decode xc_PD_init 112 = .ok (.return_, 1) := by decide +kernel
theorem xd_PD_count_0 : decode xc_PD_count 0 = .ok (.iload_n 1, 1) := by decide +kernel
theorem xd_PD_count_1 : decode xc_PD_count 1 = .ok (.ifCond .lt 9, 3) := by decide +kernel
theorem xd_PD_count_4 : decode xc_PD_count 4 = .ok (.iload_n 1, 1) := by decide +kernel
theorem xd_PD_count_5 : decode xc_PD_count 5 = .ok (.bipush 18, 2) := by decide +kernel
theorem xd_PD_count_7 : decode xc_PD_count 7 = .ok (.if_icmp .lt 5, 3) := by decide +kernel
theorem xd_PD_count_10 : decode xc_PD_count 10 = .ok (.iconst (-1), 1) := by decide +kernel
theorem xd_PD_count_11 : decode xc_PD_count 11 = .ok (.ireturn, 1) := by decide +kernel
theorem xd_PD_count_12 : decode xc_PD_count 12 = .ok (.iload_n 1, 1) := by decide +kernel
theorem xd_PD_count_13 : decode xc_PD_count 13 = .ok (.ifCond .ne 11, 3) := by decide +kernel
theorem xd_PD_count_16 : decode xc_PD_count 16 = .ok (.aload_n 0, 1) := by decide +kernel
theorem xd_PD_count_17 : decode xc_PD_count 17 = .ok (.getfield 12, 3) := by decide +kernel
theorem xd_PD_count_20 : decode xc_PD_count 20 = .ok (.getfield 67, 3) := by decide +kernel
theorem xd_PD_count_23 : decode xc_PD_count 23 = .ok (.ireturn, 1) := by decide +kernel
theorem xd_PD_count_24 : decode xc_PD_count 24 = .ok (.iload_n 1, 1) := by decide +kernel
theorem xd_PD_count_25 : decode xc_PD_count 25 = .ok (.iconst 1, 1) := by decide +kernel
theorem xd_PD_count_26 : decode xc_PD_count 26 = .ok (.if_icmp .ne 8, 3) := by decide +kernel
theorem xd_PD_count_29 : decode xc_PD_count 29 = .ok (.aload_n 0, 1) := by decide +kernel
theorem xd_PD_count_30 : decode xc_PD_count 30 = .ok (.getfield 34, 3) := by decide +kernel
theorem xd_PD_count_33 : decode xc_PD_count 33 = .ok (.ireturn, 1) := by decide +kernel
theorem xd_PD_count_34 : decode xc_PD_count 34 = .ok (.iload_n 1, 1) := by decide +kernel
theorem xd_PD_count_35 : decode xc_PD_count 35 = .ok (.bipush 6, 2) := by decide +kernel
theorem xd_PD_count_37 : decode xc_PD_count 37 = .ok (.if_icmp .ge 15, 3) := by decide +kernel
theorem xd_PD_count_40 : decode xc_PD_count 40 = .ok (.aload_n 0, 1) := by decide +kernel
theorem xd_PD_count_41 : decode xc_PD_count 41 = .ok (.getfield 40, 3) := by decide +kernel
theorem xd_PD_count_44 : decode xc_PD_count 44 = .ok (.iload_n 1, 1) := by decide +kernel
theorem xd_PD_count_45 : decode xc_PD_count 45 = .ok (.iconst 2, 1) := by decide +kernel
theorem xd_PD_count_46 : decode xc_PD_count 46 = .ok (.isub, 1) := by decide +kernel
theorem xd_PD_count_47 : decode xc_PD_count 47 = .ok (.aaload, 1) := by decide +kernel
theorem xd_PD_count_48 : decode xc_PD_count 48 = .ok (.getfield 103, 3) := by decide +kernel
theorem xd_PD_count_51 : decode xc_PD_count 51 = .ok (.ireturn, 1) := by decide +kernel
theorem xd_PD_count_52 : decode xc_PD_count 52 = .ok (.iload_n 1, 1) := by decide +kernel
theorem xd_PD_count_53 : decode xc_PD_count 53 = .ok (.bipush 14, 2) := by decide +kernel
theorem xd_PD_count_55 : decode xc_PD_count 55 = .ok (.if_icmp .ge 15, 3) := by decide +kernel
theorem xd_PD_count_58 : decode xc_PD_count 58 = .ok (.aload_n 0, 1) := by decide +kernel
theorem xd_PD_count_59 : decode xc_PD_count 59 = .ok (.getfield 12, 3) := by decide +kernel
theorem xd_PD_count_62 : decode xc_PD_count 62 = .ok (.iload_n 1, 1) := by decide +kernel
theorem xd_PD_count_63 : decode xc_PD_count 63 = .ok (.bipush 6, 2) := by decide +kernel
theorem xd_PD_count_65 : decode xc_PD_count 65 = .ok (.isub, 1) := by decide +kernel
theorem xd_PD_count_66 : decode xc_PD_count 66 = .ok (.invokevirtual 146, 3) := by decide +kernel
theorem xd_PD_count_69 : decode xc_PD_count 69 = .ok (.ireturn, 1) := by decide +kernel
theorem xd_PD_count_70 : decode xc_PD_count 70 = .ok (.aload_n 0, 1) := by decide +kernel
theorem xd_PD_count_71 : decode xc_PD_count 71 = .ok (.getfield 12, 3) := by decide +kernel
theorem xd_PD_count_74 : decode xc_PD_count 74 = .ok (.iload_n 1, 1) := by decide +kernel
theorem xd_PD_count_75 : decode xc_PD_count 75 = .ok (.bipush 14, 2) := by decide +kernel
theorem xd_PD_count_77 : decode xc_PD_count 77 = .ok (.isub, 1) := by decide +kernel
theorem xd_PD_count_78 : decode xc_PD_count 78 = .ok (.invokevirtual 149, 3) := by decide +kernel
theorem xd_PD_count_81 : decode xc_PD_count 81 = .ok (.invokestatic 152, 3) := by decide +kernel
theorem xd_PD_count_84 : decode xc_PD_count 84 = .ok (.ireturn, 1) := by decide +kernel
theorem xd_PD_edge_0 : decode xc_PD_edge 0 = .ok (.iload_n 1, 1) := by decide +kernel
theorem xd_PD_edge_1 : decode xc_PD_edge 1 = .ok (.invokestatic 56, 3) := by decide +kernel
theorem xd_PD_edge_4 : decode xc_PD_edge 4 = .ok (.iload_n 2, 1) := by decide +kernel
theorem xd_PD_edge_5 : decode xc_PD_edge 5 = .ok (.invokestatic 60, 3) := by decide +kernel
theorem xd_PD_edge_8 : decode xc_PD_edge 8 = .ok (.iload_n 3, 1) := by decide +kernel
theorem xd_PD_edge_9 : decode xc_PD_edge 9 = .ok (.invokestatic 56, 3) := by decide +kernel
theorem xd_PD_edge_12 : decode xc_PD_edge 12 = .ok (.aload_n 0, 1) := by decide +kernel
theorem xd_PD_edge_13 : decode xc_PD_edge 13 = .ok (.getfield 12, 3) := by decide +kernel
theorem xd_PD_edge_16 : decode xc_PD_edge 16 = .ok (.iload_n 1, 1) := by decide +kernel
theorem xd_PD_edge_17 : decode xc_PD_edge 17 = .ok (.iload_n 2, 1) := by decide +kernel
theorem xd_PD_edge_18 : decode xc_PD_edge 18 = .ok (.iload_n 3, 1) := by decide +kernel
theorem xd_PD_edge_19 : decode xc_PD_edge 19 = .ok (.invokevirtual 63, 3) := by decide +kernel
theorem xd_PD_edge_22 : decode xc_PD_edge 22 = .ok (.ifCond .ne 16, 3) := by decide +kernel
theorem xd_PD_edge_25 : decode xc_PD_edge 25 = .ok (.aload_n 0, 1) := by decide +kernel
theorem xd_PD_edge_26 : decode xc_PD_edge 26 = .ok (.getfield 12, 3) := by decide +kernel
theorem xd_PD_edge_29 : decode xc_PD_edge 29 = .ok (.getfield 67, 3) := by decide +kernel
theorem xd_PD_edge_32 : decode xc_PD_edge 32 = .ok (.sipush 300, 3) := by decide +kernel
theorem xd_PD_edge_35 : decode xc_PD_edge 35 = .ok (.if_icmp .ne 5, 3) := by decide +kernel
theorem xd_PD_edge_38 : decode xc_PD_edge 38 = .ok (.iconst 0, 1) := by decide +kernel
theorem xd_PD_edge_39 : decode xc_PD_edge 39 = .ok (.ireturn, 1) := by decide +kernel
theorem xd_PD_edge_40 : decode xc_PD_edge 40 = .ok (.aload_n 0, 1) := by decide +kernel
theorem xd_PD_edge_41 : decode xc_PD_edge 41 = .ok (.getfield 12, 3) := by decide +kernel
theorem xd_PD_edge_44 : decode xc_PD_edge 44 = .ok (.iload_n 1, 1) := by decide +kernel
theorem xd_PD_edge_45 : decode xc_PD_edge 45 = .ok (.iload_n 2, 1) := by decide +kernel
theorem xd_PD_edge_46 : decode xc_PD_edge 46 = .ok (.iload_n 3, 1) := by decide +kernel
theorem xd_PD_edge_47 : decode xc_PD_edge 47 = .ok (.invokevirtual 70, 3) := by decide +kernel
theorem xd_PD_edge_50 : decode xc_PD_edge 50 = .ok (.aload_n 0, 1) := by decide +kernel
theorem xd_PD_edge_51 : decode xc_PD_edge 51 = .ok (.invokevirtual 74, 3) := by decide +kernel
theorem xd_PD_edge_54 : decode xc_PD_edge 54 = .ok (.iconst 1, 1) := by decide +kernel
theorem xd_PD_edge_55 : decode xc_PD_edge 55 = .ok (.ireturn, 1) := by decide +kernel
theorem xd_PD_needNode_0 : decode xc_PD_needNode 0 = .ok (.iload_n 0, 1) := by decide +kernel
theorem xd_PD_needNode_1 : decode xc_PD_needNode 1 = .ok (.ifCond .lt 9, 3) := by decide +kernel
theorem xd_PD_needNode_4 : decode xc_PD_needNode 4 = .ok (.iload_n 0, 1) := by decide +kernel
theorem xd_PD_needNode_5 : decode xc_PD_needNode 5 = .ok (.bipush 32, 2) := by decide +kernel
theorem xd_PD_needNode_7 : decode xc_PD_needNode 7 = .ok (.if_icmp .lt 13, 3) := by decide +kernel
theorem xd_PD_needNode_10 : decode xc_PD_needNode 10 = .ok (.new 80, 3) := by decide +kernel
theorem xd_PD_needNode_13 : decode xc_PD_needNode 13 = .ok (.dup, 1) := by decide +kernel
theorem xd_PD_needNode_14 : decode xc_PD_needNode 14 = .ok (.ldc 184, 2) := by decide +kernel
theorem xd_PD_needNode_16 : decode xc_PD_needNode 16 = .ok (.invokespecial 84, 3) := by decide +kernel
theorem xd_PD_needNode_19 : decode xc_PD_needNode 19 = .ok (.athrow, 1) := by decide +kernel
theorem xd_PD_needNode_20 : decode xc_PD_needNode 20 = .ok (.return_, 1) := by decide +kernel
theorem xd_PD_needLabel_0 : decode xc_PD_needLabel 0 = .ok (.iload_n 0, 1) := by decide +kernel
theorem xd_PD_needLabel_1 : decode xc_PD_needLabel 1 = .ok (.ifCond .lt 9, 3) := by decide +kernel
theorem xd_PD_needLabel_4 : decode xc_PD_needLabel 4 = .ok (.iload_n 0, 1) := by decide +kernel
theorem xd_PD_needLabel_5 : decode xc_PD_needLabel 5 = .ok (.bipush 8, 2) := by decide +kernel
theorem xd_PD_needLabel_7 : decode xc_PD_needLabel 7 = .ok (.if_icmp .lt 13, 3) := by decide +kernel
theorem xd_PD_needLabel_10 : decode xc_PD_needLabel 10 = .ok (.new 80, 3) := by decide +kernel
theorem xd_PD_needLabel_13 : decode xc_PD_needLabel 13 = .ok (.dup, 1) := by decide +kernel
theorem xd_PD_needLabel_14 : decode xc_PD_needLabel 14 = .ok (.ldc 186, 2) := by decide +kernel
theorem xd_PD_needLabel_16 : decode xc_PD_needLabel 16 = .ok (.invokespecial 84, 3) := by decide +kernel
theorem xd_PD_needLabel_19 : decode xc_PD_needLabel 19 = .ok (.athrow, 1) := by decide +kernel
theorem xd_PD_needLabel_20 : decode xc_PD_needLabel 20 = .ok (.return_, 1) := by decide +kernel
theorem xd_PD_isIn_0 : decode xc_PD_isIn 0 = .ok (.iload_n 0, 1) := by decide +kernel
theorem xd_PD_isIn_1 : decode xc_PD_isIn 1 = .ok (.iload_n 1, 1) := by decide +kernel
theorem xd_PD_isIn_2 : decode xc_PD_isIn 2 = .ok (.iushr, 1) := by decide +kernel
theorem xd_PD_isIn_3 : decode xc_PD_isIn 3 = .ok (.iconst 1, 1) := by decide +kernel
theorem xd_PD_isIn_4 : decode xc_PD_isIn 4 = .ok (.iand, 1) := by decide +kernel
theorem xd_PD_isIn_5 : decode xc_PD_isIn 5 = .ok (.ifCond .eq 7, 3) := by decide +kernel
theorem xd_PD_isIn_8 : decode xc_PD_isIn 8 = .ok (.iconst 1, 1) := by decide +kernel
theorem xd_PD_isIn_9 : decode xc_PD_isIn 9 = .ok (.goto 4, 3) := by decide +kernel
theorem xd_PD_isIn_12 : decode xc_PD_isIn 12 = .ok (.iconst 0, 1) := by decide +kernel
theorem xd_PD_isIn_13 : decode xc_PD_isIn 13 = .ok (.ireturn, 1) := by decide +kernel
theorem xd_PD_forgetRelations_0 : decode xc_PD_forgetRelations 0 = .ok (.iconst 0, 1) := by decide +kernel
theorem xd_PD_forgetRelations_1 : decode xc_PD_forgetRelations 1 = .ok (.istore_n 1, 1) := by decide +kernel
theorem xd_PD_forgetRelations_2 : decode xc_PD_forgetRelations 2 = .ok (.iload_n 1, 1) := by decide +kernel
theorem xd_PD_forgetRelations_3 : decode xc_PD_forgetRelations 3 = .ok (.iconst 4, 1) := by decide +kernel
theorem xd_PD_forgetRelations_4 : decode xc_PD_forgetRelations 4 = .ok (.if_icmp .ge 16, 3) := by decide +kernel
theorem xd_PD_forgetRelations_7 : decode xc_PD_forgetRelations 7 = .ok (.aload_n 0, 1) := by decide +kernel
theorem xd_PD_forgetRelations_8 : decode xc_PD_forgetRelations 8 = .ok (.getfield 50, 3) := by decide +kernel
theorem xd_PD_forgetRelations_11 : decode xc_PD_forgetRelations 11 = .ok (.iload_n 1, 1) := by decide +kernel
theorem xd_PD_forgetRelations_12 : decode xc_PD_forgetRelations 12 = .ok (.iconst 0, 1) := by decide +kernel
theorem xd_PD_forgetRelations_13 : decode xc_PD_forgetRelations 13 = .ok (.bastore, 1) := by decide +kernel
theorem xd_PD_forgetRelations_14 : decode xc_PD_forgetRelations 14 = .ok (.iinc 1 1, 3) := by decide +kernel
theorem xd_PD_forgetRelations_17 : decode xc_PD_forgetRelations 17 = .ok (.goto (-15), 3) := by decide +kernel
theorem xd_PD_forgetRelations_20 : decode xc_PD_forgetRelations 20 = .ok (.return_, 1) := by decide +kernel
theorem xd_PD_cut_0 : decode xc_PD_cut 0 = .ok (.iload_n 1, 1) := by decide +kernel
theorem xd_PD_cut_1 : decode xc_PD_cut 1 = .ok (.invokestatic 56, 3) := by decide +kernel
theorem xd_PD_cut_4 : decode xc_PD_cut 4 = .ok (.iload_n 2, 1) := by decide +kernel
theorem xd_PD_cut_5 : decode xc_PD_cut 5 = .ok (.invokestatic 60, 3) := by decide +kernel
theorem xd_PD_cut_8 : decode xc_PD_cut 8 = .ok (.iload_n 3, 1) := by decide +kernel
theorem xd_PD_cut_9 : decode xc_PD_cut 9 = .ok (.invokestatic 56, 3) := by decide +kernel
theorem xd_PD_cut_12 : decode xc_PD_cut 12 = .ok (.aload_n 0, 1) := by decide +kernel
theorem xd_PD_cut_13 : decode xc_PD_cut 13 = .ok (.getfield 12, 3) := by decide +kernel
theorem xd_PD_cut_16 : decode xc_PD_cut 16 = .ok (.iload_n 1, 1) := by decide +kernel
theorem xd_PD_cut_17 : decode xc_PD_cut 17 = .ok (.iload_n 2, 1) := by decide +kernel
theorem xd_PD_cut_18 : decode xc_PD_cut 18 = .ok (.iload_n 3, 1) := by decide +kernel
theorem xd_PD_cut_19 : decode xc_PD_cut 19 = .ok (.invokevirtual 63, 3) := by decide +kernel
theorem xd_PD_cut_22 : decode xc_PD_cut 22 = .ok (.ifCond .ne 5, 3) := by decide +kernel
theorem xd_PD_cut_25 : decode xc_PD_cut 25 = .ok (.iconst 0, 1) := by decide +kernel
theorem xd_PD_cut_26 : decode xc_PD_cut 26 = .ok (.ireturn, 1) := by decide +kernel
theorem xd_PD_cut_27 : decode xc_PD_cut 27 = .ok (.aload_n 0, 1) := by decide +kernel
theorem xd_PD_cut_28 : decode xc_PD_cut 28 = .ok (.getfield 12, 3) := by decide +kernel
theorem xd_PD_cut_31 : decode xc_PD_cut 31 = .ok (.iload_n 1, 1) := by decide +kernel
theorem xd_PD_cut_32 : decode xc_PD_cut 32 = .ok (.iload_n 2, 1) := by decide +kernel
theorem xd_PD_cut_33 : decode xc_PD_cut 33 = .ok (.iload_n 3, 1) := by decide +kernel
theorem xd_PD_cut_34 : decode xc_PD_cut 34 = .ok (.invokevirtual 77, 3) := by decide +kernel
theorem xd_PD_cut_37 : decode xc_PD_cut 37 = .ok (.aload_n 0, 1) := by decide +kernel
theorem xd_PD_cut_38 : decode xc_PD_cut 38 = .ok (.invokevirtual 74, 3) := by decide +kernel
theorem xd_PD_cut_41 : decode xc_PD_cut 41 = .ok (.iconst 1, 1) := by decide +kernel
theorem xd_PD_cut_42 : decode xc_PD_cut 42 = .ok (.ireturn, 1) := by decide +kernel
theorem xd_PD_tag_0 : decode xc_PD_tag 0 = .ok (.iload_n 1, 1) := by decide +kernel
theorem xd_PD_tag_1 : decode xc_PD_tag 1 = .ok (.invokestatic 56, 3) := by decide +kernel
theorem xd_PD_tag_4 : decode xc_PD_tag 4 = .ok (.iload_n 2, 1) := by decide +kernel
theorem xd_PD_tag_5 : decode xc_PD_tag 5 = .ok (.ifCond .lt 8, 3) := by decide +kernel
theorem xd_PD_tag_8 : decode xc_PD_tag 8 = .ok (.iload_n 2, 1) := by decide +kernel
theorem xd_PD_tag_9 : decode xc_PD_tag 9 = .ok (.iconst 4, 1) := by decide +kernel
theorem xd_PD_tag_10 : decode xc_PD_tag 10 = .ok (.if_icmp .lt 13, 3) := by decide +kernel
theorem xd_PD_tag_13 : decode xc_PD_tag 13 = .ok (.new 80, 3) := by decide +kernel
theorem xd_PD_tag_16 : decode xc_PD_tag 16 = .ok (.dup, 1) := by decide +kernel
theorem xd_PD_tag_17 : decode xc_PD_tag 17 = .ok (.ldc 82, 2) := by decide +kernel
theorem xd_PD_tag_19 : decode xc_PD_tag 19 = .ok (.invokespecial 84, 3) := by decide +kernel
theorem xd_PD_tag_22 : decode xc_PD_tag 22 = .ok (.athrow, 1) := by decide +kernel
theorem xd_PD_tag_23 : decode xc_PD_tag 23 = .ok (.aload_n 0, 1) := by decide +kernel
theorem xd_PD_tag_24 : decode xc_PD_tag 24 = .ok (.getfield 12, 3) := by decide +kernel
theorem xd_PD_tag_27 : decode xc_PD_tag 27 = .ok (.iload_n 1, 1) := by decide +kernel
theorem xd_PD_tag_28 : decode xc_PD_tag 28 = .ok (.iload_n 2, 1) := by decide +kernel
theorem xd_PD_tag_29 : decode xc_PD_tag 29 = .ok (.iload_n 3, 1) := by decide +kernel
theorem xd_PD_tag_30 : decode xc_PD_tag 30 = .ok (.invokevirtual 87, 3) := by decide +kernel
theorem xd_PD_tag_33 : decode xc_PD_tag 33 = .ok (.aload_n 0, 1) := by decide +kernel
theorem xd_PD_tag_34 : decode xc_PD_tag 34 = .ok (.invokevirtual 74, 3) := by decide +kernel
theorem xd_PD_tag_37 : decode xc_PD_tag 37 = .ok (.return_, 1) := by decide +kernel
theorem xd_PD_feed_0 : decode xc_PD_feed 0 = .ok (.iload_n 3, 1) := by decide +kernel
theorem xd_PD_feed_1 : decode xc_PD_feed 1 = .ok (.iconst 1, 1) := by decide +kernel
theorem xd_PD_feed_2 : decode xc_PD_feed 2 = .ok (.if_icmp .lt 9, 3) := by decide +kernel
theorem xd_PD_feed_5 : decode xc_PD_feed 5 = .ok (.iload_n 3, 1) := by decide +kernel
theorem xd_PD_feed_6 : decode xc_PD_feed 6 = .ok (.bipush 8, 2) := by decide +kernel
theorem xd_PD_feed_8 : decode xc_PD_feed 8 = .ok (.if_icmp .le 13, 3) := by decide +kernel
theorem xd_PD_feed_11 : decode xc_PD_feed 11 = .ok (.new 80, 3) := by decide +kernel
theorem xd_PD_feed_14 : decode xc_PD_feed 14 = .ok (.dup, 1) := by decide +kernel
theorem xd_PD_feed_15 : decode xc_PD_feed 15 = .ok (.ldc 91, 2) := by decide +kernel
theorem xd_PD_feed_17 : decode xc_PD_feed 17 = .ok (.invokespecial 84, 3) := by decide +kernel
theorem xd_PD_feed_20 : decode xc_PD_feed 20 = .ok (.athrow, 1) := by decide +kernel
theorem xd_PD_feed_21 : decode xc_PD_feed 21 = .ok (.aload_n 0, 1) := by decide +kernel
theorem xd_PD_feed_22 : decode xc_PD_feed 22 = .ok (.getfield 34, 3) := by decide +kernel
theorem xd_PD_feed_25 : decode xc_PD_feed 25 = .ok (.iload_n 3, 1) := by decide +kernel
theorem xd_PD_feed_26 : decode xc_PD_feed 26 = .ok (.iadd, 1) := by decide +kernel
theorem xd_PD_feed_27 : decode xc_PD_feed 27 = .ok (.bipush 100, 2) := by decide +kernel
theorem xd_PD_feed_29 : decode xc_PD_feed 29 = .ok (.if_icmp .le 5, 3) := by decide +kernel
theorem xd_PD_feed_32 : decode xc_PD_feed 32 = .ok (.iconst (-1), 1) := by decide +kernel
theorem xd_PD_feed_33 : decode xc_PD_feed 33 = .ok (.ireturn, 1) := by decide +kernel
theorem xd_PD_feed_34 : decode xc_PD_feed 34 = .ok (.iload_n 3, 1) := by decide +kernel
theorem xd_PD_feed_35 : decode xc_PD_feed 35 = .ok (.iconst 1, 1) := by decide +kernel
theorem xd_PD_feed_36 : decode xc_PD_feed 36 = .ok (.isub, 1) := by decide +kernel
theorem xd_PD_feed_37 : decode xc_PD_feed 37 = .ok (.istore 4, 2) := by decide +kernel
theorem xd_PD_feed_39 : decode xc_PD_feed 39 = .ok (.iload 4, 2) := by decide +kernel
theorem xd_PD_feed_41 : decode xc_PD_feed 41 = .ok (.ifCond .lt 40, 3) := by decide +kernel
theorem xd_PD_feed_44 : decode xc_PD_feed 44 = .ok (.aload_n 0, 1) := by decide +kernel
theorem xd_PD_feed_45 : decode xc_PD_feed 45 = .ok (.getfield 30, 3) := by decide +kernel
theorem xd_PD_feed_48 : decode xc_PD_feed 48 = .ok (.aload_n 0, 1) := by decide +kernel
theorem xd_PD_feed_49 : decode xc_PD_feed 49 = .ok (.getfield 34, 3) := by decide +kernel
theorem xd_PD_feed_52 : decode xc_PD_feed 52 = .ok (.lload_n 1, 1) := by decide +kernel
theorem xd_PD_feed_53 : decode xc_PD_feed 53 = .ok (.bipush 8, 2) := by decide +kernel
theorem xd_PD_feed_55 : decode xc_PD_feed 55 = .ok (.iload 4, 2) := by decide +kernel
theorem xd_PD_feed_57 : decode xc_PD_feed 57 = .ok (.imul, 1) := by decide +kernel
theorem xd_PD_feed_58 : decode xc_PD_feed 58 = .ok (.lushr, 1) := by decide +kernel
theorem xd_PD_feed_59 : decode xc_PD_feed 59 = .ok (.l2i, 1) := by decide +kernel
theorem xd_PD_feed_60 : decode xc_PD_feed 60 = .ok (.sipush 255, 3) := by decide +kernel
theorem xd_PD_feed_63 : decode xc_PD_feed 63 = .ok (.iand, 1) := by decide +kernel
theorem xd_PD_feed_64 : decode xc_PD_feed 64 = .ok (.iastore, 1) := by decide +kernel
theorem xd_PD_feed_65 : decode xc_PD_feed 65 = .ok (.aload_n 0, 1) := by decide +kernel
theorem xd_PD_feed_66 : decode xc_PD_feed 66 = .ok (.dup, 1) := by decide +kernel
theorem xd_PD_feed_67 : decode xc_PD_feed 67 = .ok (.getfield 34, 3) := by decide +kernel
theorem xd_PD_feed_70 : decode xc_PD_feed 70 = .ok (.iconst 1, 1) := by decide +kernel
theorem xd_PD_feed_71 : decode xc_PD_feed 71 = .ok (.iadd, 1) := by decide +kernel
theorem xd_PD_feed_72 : decode xc_PD_feed 72 = .ok (.putfield 34, 3) := by decide +kernel
theorem xd_PD_feed_75 : decode xc_PD_feed 75 = .ok (.iinc 4 (-1), 3) := by decide +kernel
theorem xd_PD_feed_78 : decode xc_PD_feed 78 = .ok (.goto (-39), 3) := by decide +kernel
theorem xd_PD_feed_81 : decode xc_PD_feed 81 = .ok (.aload_n 0, 1) := by decide +kernel
theorem xd_PD_feed_82 : decode xc_PD_feed 82 = .ok (.getfield 34, 3) := by decide +kernel
theorem xd_PD_feed_85 : decode xc_PD_feed 85 = .ok (.ireturn, 1) := by decide +kernel
theorem xd_PD_load_0 : decode xc_PD_load 0 = .ok (.iload_n 1, 1) := by decide +kernel
theorem xd_PD_load_1 : decode xc_PD_load 1 = .ok (.invokestatic 93, 3) := by decide +kernel
theorem xd_PD_load_4 : decode xc_PD_load 4 = .ok (.aload_n 0, 1) := by decide +kernel
theorem xd_PD_load_5 : decode xc_PD_load 5 = .ok (.getfield 40, 3) := by decide +kernel
theorem xd_PD_load_8 : decode xc_PD_load 8 = .ok (.iload_n 1, 1) := by decide +kernel
theorem xd_PD_load_9 : decode xc_PD_load 9 = .ok (.aaload, 1) := by decide +kernel
theorem xd_PD_load_10 : decode xc_PD_load 10 = .ok (.astore_n 2, 1) := by decide +kernel
theorem xd_PD_load_11 : decode xc_PD_load 11 = .ok (.aload_n 0, 1) := by decide +kernel
theorem xd_PD_load_12 : decode xc_PD_load 12 = .ok (.getfield 19, 3) := by decide +kernel
theorem xd_PD_load_15 : decode xc_PD_load 15 = .ok (.aload_n 0, 1) := by decide +kernel
theorem xd_PD_load_16 : decode xc_PD_load 16 = .ok (.getfield 30, 3) := by decide +kernel
theorem xd_PD_load_19 : decode xc_PD_load 19 = .ok (.aload_n 0, 1) := by decide +kernel
theorem xd_PD_load_20 : decode xc_PD_load 20 = .ok (.getfield 34, 3) := by decide +kernel
theorem xd_PD_load_23 : decode xc_PD_load 23 = .ok (.aload_n 2, 1) := by decide +kernel
theorem xd_PD_load_24 : decode xc_PD_load 24 = .ok (.invokevirtual 96, 3) := by decide +kernel
theorem xd_PD_load_27 : decode xc_PD_load 27 = .ok (.istore_n 3, 1) := by decide +kernel
theorem xd_PD_load_28 : decode xc_PD_load 28 = .ok (.aload_n 0, 1) := by decide +kernel
theorem xd_PD_load_29 : decode xc_PD_load 29 = .ok (.iconst 0, 1) := by decide +kernel
theorem xd_PD_load_30 : decode xc_PD_load 30 = .ok (.putfield 34, 3) := by decide +kernel
theorem xd_PD_load_33 : decode xc_PD_load 33 = .ok (.aload_n 0, 1) := by decide +kernel
theorem xd_PD_load_34 : decode xc_PD_load 34 = .ok (.getfield 50, 3) := by decide +kernel
theorem xd_PD_load_37 : decode xc_PD_load 37 = .ok (.iload_n 1, 1) := by decide +kernel
theorem xd_PD_load_38 : decode xc_PD_load 38 = .ok (.iconst 0, 1) := by decide +kernel
theorem xd_PD_load_39 : decode xc_PD_load 39 = .ok (.bastore, 1) := by decide +kernel
theorem xd_PD_load_40 : decode xc_PD_load 40 = .ok (.iload_n 3, 1) := by decide +kernel
theorem xd_PD_load_41 : decode xc_PD_load 41 = .ok (.iconst (-1), 1) := by decide +kernel
theorem xd_PD_load_42 : decode xc_PD_load 42 = .ok (.if_icmp .eq 11, 3) := by decide +kernel
theorem xd_PD_load_45 : decode xc_PD_load 45 = .ok (.aload_n 2, 1) := by decide +kernel
theorem xd_PD_load_46 : decode xc_PD_load 46 = .ok (.invokevirtual 100, 3) := by decide +kernel
theorem xd_PD_load_49 : decode xc_PD_load 49 = .ok (.iconst 1, 1) := by decide +kernel
theorem xd_PD_load_50 : decode xc_PD_load 50 = .ok (.iload_n 3, 1) := by decide +kernel
theorem xd_PD_load_51 : decode xc_PD_load 51 = .ok (.iadd, 1) := by decide +kernel
theorem xd_PD_load_52 : decode xc_PD_load 52 = .ok (.ireturn, 1) := by decide +kernel
theorem xd_PD_load_53 : decode xc_PD_load 53 = .ok (.aload_n 2, 1) := by decide +kernel
theorem xd_PD_load_54 : decode xc_PD_load 54 = .ok (.getfield 103, 3) := by decide +kernel
theorem xd_PD_load_57 : decode xc_PD_load 57 = .ok (.bipush 80, 2) := by decide +kernel
theorem xd_PD_load_59 : decode xc_PD_load 59 = .ok (.if_icmp .le 10, 3) := by decide +kernel
theorem xd_PD_load_62 : decode xc_PD_load 62 = .ok (.aload_n 2, 1) := by decide +kernel
theorem xd_PD_load_63 : decode xc_PD_load 63 = .ok (.invokevirtual 100, 3) := by decide +kernel
theorem xd_PD_load_66 : decode xc_PD_load 66 = .ok (.bipush (-2), 2) := by decide +kernel
theorem xd_PD_load_68 : decode xc_PD_load 68 = .ok (.ireturn, 1) := by decide +kernel
theorem xd_PD_load_69 : decode xc_PD_load 69 = .ok (.iconst 0, 1) := by decide +kernel
theorem xd_PD_load_70 : decode xc_PD_load 70 = .ok (.ireturn, 1) := by decide +kernel
theorem xd_PD_needSlot_0 : decode xc_PD_needSlot 0 = .ok (.iload_n 0, 1) := by decide +kernel
theorem xd_PD_needSlot_1 : decode xc_PD_needSlot 1 = .ok (.ifCond .lt 8, 3) := by decide +kernel
theorem xd_PD_needSlot_4 : decode xc_PD_needSlot 4 = .ok (.iload_n 0, 1) := by decide +kernel
theorem xd_PD_needSlot_5 : decode xc_PD_needSlot 5 = .ok (.iconst 4, 1) := by decide +kernel
theorem xd_PD_needSlot_6 : decode xc_PD_needSlot 6 = .ok (.if_icmp .lt 13, 3) := by decide +kernel
theorem xd_PD_needSlot_9 : decode xc_PD_needSlot 9 = .ok (.new 179, 3) := by decide +kernel
theorem xd_PD_needSlot_12 : decode xc_PD_needSlot 12 = .ok (.dup, 1) := by decide +kernel
theorem xd_PD_needSlot_13 : decode xc_PD_needSlot 13 = .ok (.ldc 181, 2) := by decide +kernel
theorem xd_PD_needSlot_15 : decode xc_PD_needSlot 15 = .ok (.invokespecial 183, 3) := by decide +kernel
theorem xd_PD_needSlot_18 : decode xc_PD_needSlot 18 = .ok (.athrow, 1) := by decide +kernel
theorem xd_PD_needSlot_19 : decode xc_PD_needSlot 19 = .ok (.return_, 1) := by decide +kernel
theorem xd_PD_reach_0 : decode xc_PD_reach 0 = .ok (.iload_n 1, 1) := by decide +kernel
theorem xd_PD_reach_1 : decode xc_PD_reach 1 = .ok (.invokestatic 93, 3) := by decide +kernel
theorem xd_PD_reach_4 : decode xc_PD_reach 4 = .ok (.iload_n 2, 1) := by decide +kernel
theorem xd_PD_reach_5 : decode xc_PD_reach 5 = .ok (.invokestatic 56, 3) := by decide +kernel
theorem xd_PD_reach_8 : decode xc_PD_reach 8 = .ok (.aload_n 0, 1) := by decide +kernel
theorem xd_PD_reach_9 : decode xc_PD_reach 9 = .ok (.iload_n 1, 1) := by decide +kernel
theorem xd_PD_reach_10 : decode xc_PD_reach 10 = .ok (.invokevirtual 106, 3) := by decide +kernel
theorem xd_PD_reach_13 : decode xc_PD_reach 13 = .ok (.astore 4, 2) := by decide +kernel
theorem xd_PD_reach_15 : decode xc_PD_reach 15 = .ok (.iload_n 3, 1) := by decide +kernel
theorem xd_PD_reach_16 : decode xc_PD_reach 16 = .ok (.ifCond .eq 12, 3) := by decide +kernel
theorem xd_PD_reach_19 : decode xc_PD_reach 19 = .ok (.aload 4, 2) := by decide +kernel
theorem xd_PD_reach_21 : decode xc_PD_reach 21 = .ok (.iload_n 2, 1) := by decide +kernel
theorem xd_PD_reach_22 : decode xc_PD_reach 22 = .ok (.invokevirtual 110, 3) := by decide +kernel
theorem xd_PD_reach_25 : decode xc_PD_reach 25 = .ok (.goto 10, 3) := by decide +kernel
theorem xd_PD_reach_28 : decode xc_PD_reach 28 = .ok (.aload 4, 2) := by decide +kernel
theorem xd_PD_reach_30 : decode xc_PD_reach 30 = .ok (.getfield 114, 3) := by decide +kernel
theorem xd_PD_reach_33 : decode xc_PD_reach 33 = .ok (.iload_n 2, 1) := by decide +kernel
theorem xd_PD_reach_34 : decode xc_PD_reach 34 = .ok (.iaload, 1) := by decide +kernel
theorem xd_PD_reach_35 : decode xc_PD_reach 35 = .ok (.ireturn, 1) := by decide +kernel
theorem xd_PD_relationOf_0 : decode xc_PD_relationOf 0 = .ok (.aload_n 0, 1) := by decide +kernel
theorem xd_PD_relationOf_1 : decode xc_PD_relationOf 1 = .ok (.getfield 46, 3) := by decide +kernel
theorem xd_PD_relationOf_4 : decode xc_PD_relationOf 4 = .ok (.iload_n 1, 1) := by decide +kernel
theorem xd_PD_relationOf_5 : decode xc_PD_relationOf 5 = .ok (.aaload, 1) := by decide +kernel
theorem xd_PD_relationOf_6 : decode xc_PD_relationOf 6 = .ok (.astore_n 2, 1) := by decide +kernel
theorem xd_PD_relationOf_7 : decode xc_PD_relationOf 7 = .ok (.aload_n 0, 1) := by decide +kernel
theorem xd_PD_relationOf_8 : decode xc_PD_relationOf 8 = .ok (.getfield 50, 3) := by decide +kernel
theorem xd_PD_relationOf_11 : decode xc_PD_relationOf 11 = .ok (.iload_n 1, 1) := by decide +kernel
theorem xd_PD_relationOf_12 : decode xc_PD_relationOf 12 = .ok (.baload, 1) := by decide +kernel
theorem xd_PD_relationOf_13 : decode xc_PD_relationOf 13 = .ok (.ifCond .ne 75, 3) := by decide +kernel
theorem xd_PD_relationOf_16 : decode xc_PD_relationOf 16 = .ok (.aload_n 0, 1) := by decide +kernel
theorem xd_PD_relationOf_17 : decode xc_PD_relationOf 17 = .ok (.getfield 40, 3) := by decide +kernel
theorem xd_PD_relationOf_20 : decode xc_PD_relationOf 20 = .ok (.iload_n 1, 1) := by decide +kernel
theorem xd_PD_relationOf_21 : decode xc_PD_relationOf 21 = .ok (.aaload, 1) := by decide +kernel
theorem xd_PD_relationOf_22 : decode xc_PD_relationOf 22 = .ok (.astore_n 3, 1) := by decide +kernel
theorem xd_PD_relationOf_23 : decode xc_PD_relationOf 23 = .ok (.aload_n 0, 1) := by decide +kernel
theorem xd_PD_relationOf_24 : decode xc_PD_relationOf 24 = .ok (.getfield 26, 3) := by decide +kernel
theorem xd_PD_relationOf_27 : decode xc_PD_relationOf 27 = .ok (.invokevirtual 157, 3) := by decide +kernel
theorem xd_PD_relationOf_30 : decode xc_PD_relationOf 30 = .ok (.iconst 0, 1) := by decide +kernel
theorem xd_PD_relationOf_31 : decode xc_PD_relationOf 31 = .ok (.istore 4, 2) := by decide +kernel
theorem xd_PD_relationOf_33 : decode xc_PD_relationOf 33 = .ok (.iload 4, 2) := by decide +kernel
theorem xd_PD_relationOf_35 : decode xc_PD_relationOf 35 = .ok (.aload_n 3, 1) := by decide +kernel
theorem xd_PD_relationOf_36 : decode xc_PD_relationOf 36 = .ok (.getfield 160, 3) := by decide +kernel
theorem xd_PD_relationOf_39 : decode xc_PD_relationOf 39 = .ok (.if_icmp .ge 27, 3) := by decide +kernel
theorem xd_PD_relationOf_42 : decode xc_PD_relationOf 42 = .ok (.aload_n 0, 1) := by decide +kernel
theorem xd_PD_relationOf_43 : decode xc_PD_relationOf 43 = .ok (.getfield 26, 3) := by decide +kernel
theorem xd_PD_relationOf_46 : decode xc_PD_relationOf 46 = .ok (.aload_n 3, 1) := by decide +kernel
theorem xd_PD_relationOf_47 : decode xc_PD_relationOf 47 = .ok (.getfield 163, 3) := by decide +kernel
theorem xd_PD_relationOf_50 : decode xc_PD_relationOf 50 = .ok (.iload 4, 2) := by decide +kernel
theorem xd_PD_relationOf_52 : decode xc_PD_relationOf 52 = .ok (.iaload, 1) := by decide +kernel
theorem xd_PD_relationOf_53 : decode xc_PD_relationOf 53 = .ok (.aload_n 0, 1) := by decide +kernel
theorem xd_PD_relationOf_54 : decode xc_PD_relationOf 54 = .ok (.getfield 12, 3) := by decide +kernel
theorem xd_PD_relationOf_57 : decode xc_PD_relationOf 57 = .ok (.invokevirtual 166, 3) := by decide +kernel
theorem xd_PD_relationOf_60 : decode xc_PD_relationOf 60 = .ok (.iinc 4 1, 3) := by decide +kernel
theorem xd_PD_relationOf_63 : decode xc_PD_relationOf 63 = .ok (.goto (-30), 3) := by decide +kernel
theorem xd_PD_relationOf_66 : decode xc_PD_relationOf 66 = .ok (.aload_n 2, 1) := by decide +kernel
theorem xd_PD_relationOf_67 : decode xc_PD_relationOf 67 = .ok (.invokevirtual 170, 3) := by decide +kernel
theorem xd_PD_relationOf_70 : decode xc_PD_relationOf 70 = .ok (.aload_n 2, 1) := by decide +kernel
theorem xd_PD_relationOf_71 : decode xc_PD_relationOf 71 = .ok (.aload_n 0, 1) := by decide +kernel
theorem xd_PD_relationOf_72 : decode xc_PD_relationOf 72 = .ok (.getfield 26, 3) := by decide +kernel
theorem xd_PD_relationOf_75 : decode xc_PD_relationOf 75 = .ok (.invokevirtual 171, 3) := by decide +kernel
theorem xd_PD_relationOf_78 : decode xc_PD_relationOf 78 = .ok (.invokevirtual 175, 3) := by decide +kernel
theorem xd_PD_relationOf_81 : decode xc_PD_relationOf 81 = .ok (.aload_n 0, 1) := by decide +kernel
theorem xd_PD_relationOf_82 : decode xc_PD_relationOf 82 = .ok (.getfield 50, 3) := by decide +kernel
theorem xd_PD_relationOf_85 : decode xc_PD_relationOf 85 = .ok (.iload_n 1, 1) := by decide +kernel
theorem xd_PD_relationOf_86 : decode xc_PD_relationOf 86 = .ok (.iconst 1, 1) := by decide +kernel
theorem xd_PD_relationOf_87 : decode xc_PD_relationOf 87 = .ok (.bastore, 1) := by decide +kernel
theorem xd_PD_relationOf_88 : decode xc_PD_relationOf 88 = .ok (.aload_n 2, 1) := by decide +kernel
theorem xd_PD_relationOf_89 : decode xc_PD_relationOf 89 = .ok (.areturn, 1) := by decide +kernel
theorem xd_PD_distance_0 : decode xc_PD_distance 0 = .ok (.iload_n 1, 1) := by decide +kernel
theorem xd_PD_distance_1 : decode xc_PD_distance 1 = .ok (.invokestatic 93, 3) := by decide +kernel
theorem xd_PD_distance_4 : decode xc_PD_distance 4 = .ok (.iload_n 2, 1) := by decide +kernel
theorem xd_PD_distance_5 : decode xc_PD_distance 5 = .ok (.invokestatic 56, 3) := by decide +kernel
theorem xd_PD_distance_8 : decode xc_PD_distance 8 = .ok (.iload_n 3, 1) := by decide +kernel
theorem xd_PD_distance_9 : decode xc_PD_distance 9 = .ok (.invokestatic 56, 3) := by decide +kernel
theorem xd_PD_distance_12 : decode xc_PD_distance 12 = .ok (.aload_n 0, 1) := by decide +kernel
theorem xd_PD_distance_13 : decode xc_PD_distance 13 = .ok (.iload_n 1, 1) := by decide +kernel
theorem xd_PD_distance_14 : decode xc_PD_distance 14 = .ok (.invokevirtual 106, 3) := by decide +kernel
theorem xd_PD_distance_17 : decode xc_PD_distance 17 = .ok (.iload_n 2, 1) := by decide +kernel
theorem xd_PD_distance_18 : decode xc_PD_distance 18 = .ok (.iload_n 3, 1) := by decide +kernel
theorem xd_PD_distance_19 : decode xc_PD_distance 19 = .ok (.invokevirtual 117, 3) := by decide +kernel
theorem xd_PD_distance_22 : decode xc_PD_distance 22 = .ok (.ireturn, 1) := by decide +kernel
theorem xd_PD_span_0 : decode xc_PD_span 0 = .ok (.iload_n 1, 1) := by decide +kernel
theorem xd_PD_span_1 : decode xc_PD_span 1 = .ok (.invokestatic 93, 3) := by decide +kernel
theorem xd_PD_span_4 : decode xc_PD_span 4 = .ok (.aload_n 0, 1) := by decide +kernel
theorem xd_PD_span_5 : decode xc_PD_span 5 = .ok (.iload_n 1, 1) := by decide +kernel
theorem xd_PD_span_6 : decode xc_PD_span 6 = .ok (.invokevirtual 106, 3) := by decide +kernel
theorem xd_PD_span_9 : decode xc_PD_span 9 = .ok (.invokevirtual 121, 3) := by decide +kernel
theorem xd_PD_span_12 : decode xc_PD_span 12 = .ok (.ireturn, 1) := by decide +kernel
theorem xd_PD_pairs_0 : decode xc_PD_pairs 0 = .ok (.iload_n 1, 1) := by decide +kernel
theorem xd_PD_pairs_1 : decode xc_PD_pairs 1 = .ok (.invokestatic 93, 3) := by decide +kernel
theorem xd_PD_pairs_4 : decode xc_PD_pairs 4 = .ok (.iload_n 2, 1) := by decide +kernel
theorem xd_PD_pairs_5 : decode xc_PD_pairs 5 = .ok (.invokestatic 93, 3) := by decide +kernel
theorem xd_PD_pairs_8 : decode xc_PD_pairs 8 = .ok (.iload_n 3, 1) := by decide +kernel
theorem xd_PD_pairs_9 : decode xc_PD_pairs 9 = .ok (.ifCond .lt 8, 3) := by decide +kernel
theorem xd_PD_pairs_12 : decode xc_PD_pairs 12 = .ok (.iload_n 3, 1) := by decide +kernel
theorem xd_PD_pairs_13 : decode xc_PD_pairs 13 = .ok (.iconst 4, 1) := by decide +kernel
theorem xd_PD_pairs_14 : decode xc_PD_pairs 14 = .ok (.if_icmp .le 13, 3) := by decide +kernel
theorem xd_PD_pairs_17 : decode xc_PD_pairs 17 = .ok (.new 80, 3) := by decide +kernel
theorem xd_PD_pairs_20 : decode xc_PD_pairs 20 = .ok (.dup, 1) := by decide +kernel
theorem xd_PD_pairs_21 : decode xc_PD_pairs 21 = .ok (.ldc 125, 2) := by decide +kernel
theorem xd_PD_pairs_23 : decode xc_PD_pairs 23 = .ok (.invokespecial 84, 3) := by decide +kernel
theorem xd_PD_pairs_26 : decode xc_PD_pairs 26 = .ok (.athrow, 1) := by decide +kernel
theorem xd_PD_pairs_27 : decode xc_PD_pairs 27 = .ok (.aload_n 0, 1) := by decide +kernel
theorem xd_PD_pairs_28 : decode xc_PD_pairs 28 = .ok (.iload_n 1, 1) := by decide +kernel
theorem xd_PD_pairs_29 : decode xc_PD_pairs 29 = .ok (.invokevirtual 106, 3) := by decide +kernel
theorem xd_PD_pairs_32 : decode xc_PD_pairs 32 = .ok (.astore 4, 2) := by decide +kernel
theorem xd_PD_pairs_34 : decode xc_PD_pairs 34 = .ok (.iload_n 3, 1) := by decide +kernel
theorem xd_PD_pairs_35 : decode xc_PD_pairs 35 = .ok (.ifCond .ne 9, 3) := by decide +kernel
theorem xd_PD_pairs_38 : decode xc_PD_pairs 38 = .ok (.aload 4, 2) := by decide +kernel
theorem xd_PD_pairs_40 : decode xc_PD_pairs 40 = .ok (.invokevirtual 127, 3) := by decide +kernel
theorem xd_PD_pairs_43 : decode xc_PD_pairs 43 = .ok (.ireturn, 1) := by decide +kernel
theorem xd_PD_pairs_44 : decode xc_PD_pairs 44 = .ok (.aload_n 0, 1) := by decide +kernel
theorem xd_PD_pairs_45 : decode xc_PD_pairs 45 = .ok (.iload_n 2, 1) := by decide +kernel
theorem xd_PD_pairs_46 : decode xc_PD_pairs 46 = .ok (.invokevirtual 106, 3) := by decide +kernel
theorem xd_PD_pairs_49 : decode xc_PD_pairs 49 = .ok (.astore 5, 2) := by decide +kernel
theorem xd_PD_pairs_51 : decode xc_PD_pairs 51 = .ok (.iload_n 3, 1) := by decide +kernel
theorem xd_PD_pairs_52 : decode xc_PD_pairs 52 = .ok (.tableswitch 58 1 3 #[28, 36, 50], 28) := by decide +kernel
theorem xd_PD_pairs_80 : decode xc_PD_pairs 80 = .ok (.aload 4, 2) := by decide +kernel
theorem xd_PD_pairs_82 : decode xc_PD_pairs 82 = .ok (.aload 5, 2) := by decide +kernel
theorem xd_PD_pairs_84 : decode xc_PD_pairs 84 = .ok (.invokevirtual 130, 3) := by decide +kernel
theorem xd_PD_pairs_87 : decode xc_PD_pairs 87 = .ok (.ireturn, 1) := by decide +kernel
theorem xd_PD_pairs_88 : decode xc_PD_pairs 88 = .ok (.aload 4, 2) := by decide +kernel
theorem xd_PD_pairs_90 : decode xc_PD_pairs 90 = .ok (.invokevirtual 127, 3) := by decide +kernel
theorem xd_PD_pairs_93 : decode xc_PD_pairs 93 = .ok (.aload 4, 2) := by decide +kernel
theorem xd_PD_pairs_95 : decode xc_PD_pairs 95 = .ok (.aload 5, 2) := by decide +kernel
theorem xd_PD_pairs_97 : decode xc_PD_pairs 97 = .ok (.invokevirtual 130, 3) := by decide +kernel
theorem xd_PD_pairs_100 : decode xc_PD_pairs 100 = .ok (.isub, 1) := by decide +kernel
theorem xd_PD_pairs_101 : decode xc_PD_pairs 101 = .ok (.ireturn, 1) := by decide +kernel
theorem xd_PD_pairs_102 : decode xc_PD_pairs 102 = .ok (.aload 4, 2) := by decide +kernel
theorem xd_PD_pairs_104 : decode xc_PD_pairs 104 = .ok (.aload 5, 2) := by decide +kernel
theorem xd_PD_pairs_106 : decode xc_PD_pairs 106 = .ok (.invokevirtual 134, 3) := by decide +kernel
theorem xd_PD_pairs_109 : decode xc_PD_pairs 109 = .ok (.ireturn, 1) := by decide +kernel
theorem xd_PD_pairs_110 : decode xc_PD_pairs 110 = .ok (.aload 4, 2) := by decide +kernel
theorem xd_PD_pairs_112 : decode xc_PD_pairs 112 = .ok (.aload 5, 2) := by decide +kernel
theorem xd_PD_pairs_114 : decode xc_PD_pairs 114 = .ok (.invokevirtual 137, 3) := by decide +kernel
theorem xd_PD_pairs_117 : decode xc_PD_pairs 117 = .ok (.ireturn, 1) := by decide +kernel
theorem xd_PD_circle_0 : decode xc_PD_circle 0 = .ok (.iload_n 1, 1) := by decide +kernel
theorem xd_PD_circle_1 : decode xc_PD_circle 1 = .ok (.invokestatic 93, 3) := by decide +kernel
theorem xd_PD_circle_4 : decode xc_PD_circle 4 = .ok (.aload_n 0, 1) := by decide +kernel
theorem xd_PD_circle_5 : decode xc_PD_circle 5 = .ok (.iload_n 1, 1) := by decide +kernel
theorem xd_PD_circle_6 : decode xc_PD_circle 6 = .ok (.invokevirtual 106, 3) := by decide +kernel
theorem xd_PD_circle_9 : decode xc_PD_circle 9 = .ok (.invokevirtual 140, 3) := by decide +kernel
theorem xd_PD_circle_12 : decode xc_PD_circle 12 = .ok (.ireturn, 1) := by decide +kernel
theorem xd_PD_best_0 : decode xc_PD_best 0 = .ok (.iload_n 1, 1) := by decide +kernel
theorem xd_PD_best_1 : decode xc_PD_best 1 = .ok (.invokestatic 93, 3) := by decide +kernel
theorem xd_PD_best_4 : decode xc_PD_best 4 = .ok (.aload_n 0, 1) := by decide +kernel
theorem xd_PD_best_5 : decode xc_PD_best 5 = .ok (.iload_n 1, 1) := by decide +kernel
theorem xd_PD_best_6 : decode xc_PD_best 6 = .ok (.invokevirtual 106, 3) := by decide +kernel
theorem xd_PD_best_9 : decode xc_PD_best 9 = .ok (.invokevirtual 143, 3) := by decide +kernel
theorem xd_PD_best_12 : decode xc_PD_best 12 = .ok (.ireturn, 1) := by decide +kernel
end
section
theorem xd_GR_init_0 : decode xc_GR_init 0 = .ok (.aload_n 0, 1) := by decide +kernel
theorem xd_GR_init_1 : decode xc_GR_init 1 = .ok (.invokespecial 3, 3) := by decide +kernel
theorem xd_GR_init_4 : decode xc_GR_init 4 = .ok (.aload_n 0, 1) := by decide +kernel
theorem xd_GR_init_5 : decode xc_GR_init 5 = .ok (.sipush 256, 3) := by decide +kernel
theorem xd_GR_init_8 : decode xc_GR_init 8 = .ok (.newarray .int, 2) := by decide +kernel
theorem xd_GR_init_10 : decode xc_GR_init 10 = .ok (.putfield 9, 3) := by decide +kernel
theorem xd_GR_init_13 : decode xc_GR_init 13 = .ok (.aload_n 0, 1) := by decide +kernel
theorem xd_GR_init_14 : decode xc_GR_init 14 = .ok (.iconst 4, 1) := by decide +kernel
theorem xd_GR_init_15 : decode xc_GR_init 15 = .ok (.newarray .int, 2) := by decide +kernel
theorem xd_GR_init_17 : decode xc_GR_init 17 = .ok (.putfield 15, 3) := by decide +kernel
theorem xd_GR_init_20 : decode xc_GR_init 20 = .ok (.aload_n 0, 1) := by decide +kernel
theorem xd_GR_init_21 : decode xc_GR_init 21 = .ok (.iconst 0, 1) := by decide +kernel
theorem xd_GR_init_22 : decode xc_GR_init 22 = .ok (.putfield 18, 3) := by decide +kernel
theorem xd_GR_init_25 : decode xc_GR_init 25 = .ok (.return_, 1) := by decide +kernel
theorem xd_GR_edgesOf_0 : decode xc_GR_edgesOf 0 = .ok (.iconst 0, 1) := by decide +kernel
theorem xd_GR_edgesOf_1 : decode xc_GR_edgesOf 1 = .ok (.istore_n 2, 1) := by decide +kernel
theorem xd_GR_edgesOf_2 : decode xc_GR_edgesOf 2 = .ok (.iconst 0, 1) := by decide +kernel
theorem xd_GR_edgesOf_3 : decode xc_GR_edgesOf 3 = .ok (.istore_n 3, 1) := by decide +kernel
theorem xd_GR_edgesOf_4 : decode xc_GR_edgesOf 4 = .ok (.iload_n 3, 1) := by decide +kernel
theorem xd_GR_edgesOf_5 : decode xc_GR_edgesOf 5 = .ok (.bipush 32, 2) := by decide +kernel
theorem xd_GR_edgesOf_7 : decode xc_GR_edgesOf 7 = .ok (.if_icmp .ge 26, 3) := by decide +kernel
theorem xd_GR_edgesOf_10 : decode xc_GR_edgesOf 10 = .ok (.iload_n 2, 1) := by decide +kernel
theorem xd_GR_edgesOf_11 : decode xc_GR_edgesOf 11 = .ok (.aload_n 0, 1) := by decide +kernel
theorem xd_GR_edgesOf_12 : decode xc_GR_edgesOf 12 = .ok (.getfield 9, 3) := by decide +kernel
theorem xd_GR_edgesOf_15 : decode xc_GR_edgesOf 15 = .ok (.iload_n 1, 1) := by decide +kernel
theorem xd_GR_edgesOf_16 : decode xc_GR_edgesOf 16 = .ok (.bipush 32, 2) := by decide +kernel
theorem xd_GR_edgesOf_18 : decode xc_GR_edgesOf 18 = .ok (.imul, 1) := by decide +kernel
theorem xd_GR_edgesOf_19 : decode xc_GR_edgesOf 19 = .ok (.iload_n 3, 1) := by decide +kernel
theorem xd_GR_edgesOf_20 : decode xc_GR_edgesOf 20 = .ok (.iadd, 1) := by decide +kernel
theorem xd_GR_edgesOf_21 : decode xc_GR_edgesOf 21 = .ok (.iaload, 1) := by decide +kernel
theorem xd_GR_edgesOf_22 : decode xc_GR_edgesOf 22 = .ok (.invokestatic 26, 3) := by decide +kernel
theorem xd_GR_edgesOf_25 : decode xc_GR_edgesOf 25 = .ok (.iadd, 1) := by decide +kernel
theorem xd_GR_edgesOf_26 : decode xc_GR_edgesOf 26 = .ok (.istore_n 2, 1) := by decide +kernel
theorem xd_GR_edgesOf_27 : decode xc_GR_edgesOf 27 = .ok (.iinc 3 1, 3) := by decide +kernel
theorem xd_GR_edgesOf_30 : decode xc_GR_edgesOf 30 = .ok (.goto (-26), 3) := by decide +kernel
theorem xd_GR_edgesOf_33 : decode xc_GR_edgesOf 33 = .ok (.iload_n 2, 1) := by decide +kernel
theorem xd_GR_edgesOf_34 : decode xc_GR_edgesOf 34 = .ok (.ireturn, 1) := by decide +kernel
theorem xd_GR_nodesWith_0 : decode xc_GR_nodesWith 0 = .ok (.aload_n 0, 1) := by decide +kernel
theorem xd_GR_nodesWith_1 : decode xc_GR_nodesWith 1 = .ok (.getfield 15, 3) := by decide +kernel
theorem xd_GR_nodesWith_4 : decode xc_GR_nodesWith 4 = .ok (.iload_n 1, 1) := by decide +kernel
theorem xd_GR_nodesWith_5 : decode xc_GR_nodesWith 5 = .ok (.iaload, 1) := by decide +kernel
theorem xd_GR_nodesWith_6 : decode xc_GR_nodesWith 6 = .ok (.ireturn, 1) := by decide +kernel
theorem xd_GR_hasEdge_0 : decode xc_GR_hasEdge 0 = .ok (.aload_n 0, 1) := by decide +kernel
theorem xd_GR_hasEdge_1 : decode xc_GR_hasEdge 1 = .ok (.getfield 9, 3) := by decide +kernel
theorem xd_GR_hasEdge_4 : decode xc_GR_hasEdge 4 = .ok (.iload_n 2, 1) := by decide +kernel
theorem xd_GR_hasEdge_5 : decode xc_GR_hasEdge 5 = .ok (.bipush 32, 2) := by decide +kernel
theorem xd_GR_hasEdge_7 : decode xc_GR_hasEdge 7 = .ok (.imul, 1) := by decide +kernel
theorem xd_GR_hasEdge_8 : decode xc_GR_hasEdge 8 = .ok (.iload_n 1, 1) := by decide +kernel
theorem xd_GR_hasEdge_9 : decode xc_GR_hasEdge 9 = .ok (.iadd, 1) := by decide +kernel
theorem xd_GR_hasEdge_10 : decode xc_GR_hasEdge 10 = .ok (.iaload, 1) := by decide +kernel
theorem xd_GR_hasEdge_11 : decode xc_GR_hasEdge 11 = .ok (.iload_n 3, 1) := by decide +kernel
theorem xd_GR_hasEdge_12 : decode xc_GR_hasEdge 12 = .ok (.invokestatic 22, 3) := by decide +kernel
theorem xd_GR_hasEdge_15 : decode xc_GR_hasEdge 15 = .ok (.ireturn, 1) := by decide +kernel
theorem xd_GR_putEdge_0 : decode xc_GR_putEdge 0 = .ok (.aload_n 0, 1) := by decide +kernel
theorem xd_GR_putEdge_1 : decode xc_GR_putEdge 1 = .ok (.getfield 9, 3) := by decide +kernel
theorem xd_GR_putEdge_4 : decode xc_GR_putEdge 4 = .ok (.iload_n 2, 1) := by decide +kernel
theorem xd_GR_putEdge_5 : decode xc_GR_putEdge 5 = .ok (.bipush 32, 2) := by decide +kernel
theorem xd_GR_putEdge_7 : decode xc_GR_putEdge 7 = .ok (.imul, 1) := by decide +kernel
theorem xd_GR_putEdge_8 : decode xc_GR_putEdge 8 = .ok (.iload_n 1, 1) := by decide +kernel
theorem xd_GR_putEdge_9 : decode xc_GR_putEdge 9 = .ok (.iadd, 1) := by decide +kernel
theorem xd_GR_putEdge_10 : decode xc_GR_putEdge 10 = .ok (.dup2, 1) := by decide +kernel
theorem xd_GR_putEdge_11 : decode xc_GR_putEdge 11 = .ok (.iaload, 1) := by decide +kernel
theorem xd_GR_putEdge_12 : decode xc_GR_putEdge 12 = .ok (.iconst 1, 1) := by decide +kernel
theorem xd_GR_putEdge_13 : decode xc_GR_putEdge 13 = .ok (.iload_n 3, 1) := by decide +kernel
theorem xd_GR_putEdge_14 : decode xc_GR_putEdge 14 = .ok (.ishl, 1) := by decide +kernel
theorem xd_GR_putEdge_15 : decode xc_GR_putEdge 15 = .ok (.ior, 1) := by decide +kernel
theorem xd_GR_putEdge_16 : decode xc_GR_putEdge 16 = .ok (.iastore, 1) := by decide +kernel
theorem xd_GR_putEdge_17 : decode xc_GR_putEdge 17 = .ok (.aload_n 0, 1) := by decide +kernel
theorem xd_GR_putEdge_18 : decode xc_GR_putEdge 18 = .ok (.dup, 1) := by decide +kernel
theorem xd_GR_putEdge_19 : decode xc_GR_putEdge 19 = .ok (.getfield 18, 3) := by decide +kernel
theorem xd_GR_putEdge_22 : decode xc_GR_putEdge 22 = .ok (.iconst 1, 1) := by decide +kernel
theorem xd_GR_putEdge_23 : decode xc_GR_putEdge 23 = .ok (.iadd, 1) := by decide +kernel
theorem xd_GR_putEdge_24 : decode xc_GR_putEdge 24 = .ok (.putfield 18, 3) := by decide +kernel
theorem xd_GR_putEdge_27 : decode xc_GR_putEdge 27 = .ok (.return_, 1) := by decide +kernel
theorem xd_GR_dropEdge_0 : decode xc_GR_dropEdge 0 = .ok (.aload_n 0, 1) := by decide +kernel
theorem xd_GR_dropEdge_1 : decode xc_GR_dropEdge 1 = .ok (.getfield 9, 3) := by decide +kernel
theorem xd_GR_dropEdge_4 : decode xc_GR_dropEdge 4 = .ok (.iload_n 2, 1) := by decide +kernel
theorem xd_GR_dropEdge_5 : decode xc_GR_dropEdge 5 = .ok (.bipush 32, 2) := by decide +kernel
theorem xd_GR_dropEdge_7 : decode xc_GR_dropEdge 7 = .ok (.imul, 1) := by decide +kernel
theorem xd_GR_dropEdge_8 : decode xc_GR_dropEdge 8 = .ok (.iload_n 1, 1) := by decide +kernel
theorem xd_GR_dropEdge_9 : decode xc_GR_dropEdge 9 = .ok (.iadd, 1) := by decide +kernel
theorem xd_GR_dropEdge_10 : decode xc_GR_dropEdge 10 = .ok (.dup2, 1) := by decide +kernel
theorem xd_GR_dropEdge_11 : decode xc_GR_dropEdge 11 = .ok (.iaload, 1) := by decide +kernel
theorem xd_GR_dropEdge_12 : decode xc_GR_dropEdge 12 = .ok (.iconst 1, 1) := by decide +kernel
theorem xd_GR_dropEdge_13 : decode xc_GR_dropEdge 13 = .ok (.iload_n 3, 1) := by decide +kernel
theorem xd_GR_dropEdge_14 : decode xc_GR_dropEdge 14 = .ok (.ishl, 1) := by decide +kernel
theorem xd_GR_dropEdge_15 : decode xc_GR_dropEdge 15 = .ok (.iconst (-1), 1) := by decide +kernel
theorem xd_GR_dropEdge_16 : decode xc_GR_dropEdge 16 = .ok (.ixor, 1) := by decide +kernel
theorem xd_GR_dropEdge_17 : decode xc_GR_dropEdge 17 = .ok (.iand, 1) := by decide +kernel
theorem xd_GR_dropEdge_18 : decode xc_GR_dropEdge 18 = .ok (.iastore, 1) := by decide +kernel
theorem xd_GR_dropEdge_19 : decode xc_GR_dropEdge 19 = .ok (.aload_n 0, 1) := by decide +kernel
theorem xd_GR_dropEdge_20 : decode xc_GR_dropEdge 20 = .ok (.dup, 1) := by decide +kernel
theorem xd_GR_dropEdge_21 : decode xc_GR_dropEdge 21 = .ok (.getfield 18, 3) := by decide +kernel
theorem xd_GR_dropEdge_24 : decode xc_GR_dropEdge 24 = .ok (.iconst 1, 1) := by decide +kernel
theorem xd_GR_dropEdge_25 : decode xc_GR_dropEdge 25 = .ok (.isub, 1) := by decide +kernel
theorem xd_GR_dropEdge_26 : decode xc_GR_dropEdge 26 = .ok (.putfield 18, 3) := by decide +kernel
theorem xd_GR_dropEdge_29 : decode xc_GR_dropEdge 29 = .ok (.return_, 1) := by decide +kernel
theorem xd_GR_setTag_0 : decode xc_GR_setTag 0 = .ok (.iload_n 3, 1) := by decide +kernel
theorem xd_GR_setTag_1 : decode xc_GR_setTag 1 = .ok (.ifCond .eq 18, 3) := by decide +kernel
theorem xd_GR_setTag_4 : decode xc_GR_setTag 4 = .ok (.aload_n 0, 1) := by decide +kernel
theorem xd_GR_setTag_5 : decode xc_GR_setTag 5 = .ok (.getfield 15, 3) := by decide +kernel
theorem xd_GR_setTag_8 : decode xc_GR_setTag 8 = .ok (.iload_n 2, 1) := by decide +kernel
theorem xd_GR_setTag_9 : decode xc_GR_setTag 9 = .ok (.dup2, 1) := by decide +kernel
theorem xd_GR_setTag_10 : decode xc_GR_setTag 10 = .ok (.iaload, 1) := by decide +kernel
theorem xd_GR_setTag_11 : decode xc_GR_setTag 11 = .ok (.iconst 1, 1) := by decide +kernel
theorem xd_GR_setTag_12 : decode xc_GR_setTag 12 = .ok (.iload_n 1, 1) := by decide +kernel
theorem xd_GR_setTag_13 : decode xc_GR_setTag 13 = .ok (.ishl, 1) := by decide +kernel
theorem xd_GR_setTag_14 : decode xc_GR_setTag 14 = .ok (.ior, 1) := by decide +kernel
theorem xd_GR_setTag_15 : decode xc_GR_setTag 15 = .ok (.iastore, 1) := by decide +kernel
theorem xd_GR_setTag_16 : decode xc_GR_setTag 16 = .ok (.goto 17, 3) := by decide +kernel
theorem xd_GR_setTag_19 : decode xc_GR_setTag 19 = .ok (.aload_n 0, 1) := by decide +kernel
theorem xd_GR_setTag_20 : decode xc_GR_setTag 20 = .ok (.getfield 15, 3) := by decide +kernel
theorem xd_GR_setTag_23 : decode xc_GR_setTag 23 = .ok (.iload_n 2, 1) := by decide +kernel
theorem xd_GR_setTag_24 : decode xc_GR_setTag 24 = .ok (.dup2, 1) := by decide +kernel
theorem xd_GR_setTag_25 : decode xc_GR_setTag 25 = .ok (.iaload, 1) := by decide +kernel
theorem xd_GR_setTag_26 : decode xc_GR_setTag 26 = .ok (.iconst 1, 1) := by decide +kernel
theorem xd_GR_setTag_27 : decode xc_GR_setTag 27 = .ok (.iload_n 1, 1) := by decide +kernel
theorem xd_GR_setTag_28 : decode xc_GR_setTag 28 = .ok (.ishl, 1) := by decide +kernel
theorem xd_GR_setTag_29 : decode xc_GR_setTag 29 = .ok (.iconst (-1), 1) := by decide +kernel
theorem xd_GR_setTag_30 : decode xc_GR_setTag 30 = .ok (.ixor, 1) := by decide +kernel
theorem xd_GR_setTag_31 : decode xc_GR_setTag 31 = .ok (.iand, 1) := by decide +kernel
theorem xd_GR_setTag_32 : decode xc_GR_setTag 32 = .ok (.iastore, 1) := by decide +kernel
theorem xd_GR_setTag_33 : decode xc_GR_setTag 33 = .ok (.return_, 1) := by decide +kernel
theorem xd_GR_nextOf_0 : decode xc_GR_nextOf 0 = .ok (.iconst 0, 1) := by decide +kernel
theorem xd_GR_nextOf_1 : decode xc_GR_nextOf 1 = .ok (.istore_n 3, 1) := by decide +kernel
theorem xd_GR_nextOf_2 : decode xc_GR_nextOf 2 = .ok (.iconst 0, 1) := by decide +kernel
theorem xd_GR_nextOf_3 : decode xc_GR_nextOf 3 = .ok (.istore 4, 2) := by decide +kernel
theorem xd_GR_nextOf_5 : decode xc_GR_nextOf 5 = .ok (.iload 4, 2) := by decide +kernel
theorem xd_GR_nextOf_7 : decode xc_GR_nextOf 7 = .ok (.bipush 8, 2) := by decide +kernel
theorem xd_GR_nextOf_9 : decode xc_GR_nextOf 9 = .ok (.if_icmp .ge 33, 3) := by decide +kernel
theorem xd_GR_nextOf_12 : decode xc_GR_nextOf 12 = .ok (.iload_n 2, 1) := by decide +kernel
theorem xd_GR_nextOf_13 : decode xc_GR_nextOf 13 = .ok (.iload 4, 2) := by decide +kernel
theorem xd_GR_nextOf_15 : decode xc_GR_nextOf 15 = .ok (.iushr, 1) := by decide +kernel
theorem xd_GR_nextOf_16 : decode xc_GR_nextOf 16 = .ok (.iconst 1, 1) := by decide +kernel
theorem xd_GR_nextOf_17 : decode xc_GR_nextOf 17 = .ok (.iand, 1) := by decide +kernel
theorem xd_GR_nextOf_18 : decode xc_GR_nextOf 18 = .ok (.ifCond .eq 18, 3) := by decide +kernel
theorem xd_GR_nextOf_21 : decode xc_GR_nextOf 21 = .ok (.iload_n 3, 1) := by decide +kernel
theorem xd_GR_nextOf_22 : decode xc_GR_nextOf 22 = .ok (.aload_n 0, 1) := by decide +kernel
theorem xd_GR_nextOf_23 : decode xc_GR_nextOf 23 = .ok (.getfield 9, 3) := by decide +kernel
theorem xd_GR_nextOf_26 : decode xc_GR_nextOf 26 = .ok (.iload 4, 2) := by decide +kernel
theorem xd_GR_nextOf_28 : decode xc_GR_nextOf 28 = .ok (.bipush 32, 2) := by decide +kernel
theorem xd_GR_nextOf_30 : decode xc_GR_nextOf 30 = .ok (.imul, 1) := by decide +kernel
theorem xd_GR_nextOf_31 : decode xc_GR_nextOf 31 = .ok (.iload_n 1, 1) := by decide +kernel
theorem xd_GR_nextOf_32 : decode xc_GR_nextOf 32 = .ok (.iadd, 1) := by decide +kernel
theorem xd_GR_nextOf_33 : decode xc_GR_nextOf 33 = .ok (.iaload, 1) := by decide +kernel
theorem xd_GR_nextOf_34 : decode xc_GR_nextOf 34 = .ok (.ior, 1) := by decide +kernel
theorem xd_GR_nextOf_35 : decode xc_GR_nextOf 35 = .ok (.istore_n 3, 1) := by decide +kernel
theorem xd_GR_nextOf_36 : decode xc_GR_nextOf 36 = .ok (.iinc 4 1, 3) := by decide +kernel
theorem xd_GR_nextOf_39 : decode xc_GR_nextOf 39 = .ok (.goto (-34), 3) := by decide +kernel
theorem xd_GR_nextOf_42 : decode xc_GR_nextOf 42 = .ok (.iload_n 3, 1) := by decide +kernel
theorem xd_GR_nextOf_43 : decode xc_GR_nextOf 43 = .ok (.ireturn, 1) := by decide +kernel
end
section
theorem xd_RE_init_0 : decode xc_RE_init 0 = .ok (.aload_n 0, 1) := by decide +kernel
theorem xd_RE_init_1 : decode xc_RE_init 1 = .ok (.invokespecial 3, 3) := by decide +kernel
theorem xd_RE_init_4 : decode xc_RE_init 4 = .ok (.aload_n 0, 1) := by decide +kernel
theorem xd_RE_init_5 : decode xc_RE_init 5 = .ok (.bipush 32, 2) := by decide +kernel
theorem xd_RE_init_7 : decode xc_RE_init 7 = .ok (.newarray .int, 2) := by decide +kernel
theorem xd_RE_init_9 : decode xc_RE_init 9 = .ok (.putfield 9, 3) := by decide +kernel
theorem xd_RE_init_12 : decode xc_RE_init 12 = .ok (.aload_n 0, 1) := by decide +kernel
theorem xd_RE_init_13 : decode xc_RE_init 13 = .ok (.sipush 1024, 3) := by decide +kernel
theorem xd_RE_init_16 : decode xc_RE_init 16 = .ok (.newarray .int, 2) := by decide +kernel
theorem xd_RE_init_18 : decode xc_RE_init 18 = .ok (.putfield 15, 3) := by decide +kernel
theorem xd_RE_init_21 : decode xc_RE_init 21 = .ok (.return_, 1) := by decide +kernel
theorem xd_RE_clear_0 : decode xc_RE_clear 0 = .ok (.aload_n 0, 1) := by decide +kernel
theorem xd_RE_clear_1 : decode xc_RE_clear 1 = .ok (.getfield 9, 3) := by decide +kernel
theorem xd_RE_clear_4 : decode xc_RE_clear 4 = .ok (.iconst 0, 1) := by decide +kernel
theorem xd_RE_clear_5 : decode xc_RE_clear 5 = .ok (.invokestatic 18, 3) := by decide +kernel
theorem xd_RE_clear_8 : decode xc_RE_clear 8 = .ok (.return_, 1) := by decide +kernel
theorem xd_RE_addStays_0 : decode xc_RE_addStays 0 = .ok (.iconst 0, 1) := by decide +kernel
theorem xd_RE_addStays_1 : decode xc_RE_addStays 1 = .ok (.istore_n 2, 1) := by decide +kernel
theorem xd_RE_addStays_2 : decode xc_RE_addStays 2 = .ok (.iload_n 2, 1) := by decide +kernel
theorem xd_RE_addStays_3 : decode xc_RE_addStays 3 = .ok (.bipush 32, 2) := by decide +kernel
theorem xd_RE_addStays_5 : decode xc_RE_addStays 5 = .ok (.if_icmp .ge 24, 3) := by decide +kernel
theorem xd_RE_addStays_8 : decode xc_RE_addStays 8 = .ok (.iload_n 1, 1) := by decide +kernel
theorem xd_RE_addStays_9 : decode xc_RE_addStays 9 = .ok (.iload_n 2, 1) := by decide +kernel
theorem xd_RE_addStays_10 : decode xc_RE_addStays 10 = .ok (.invokestatic 24, 3) := by decide +kernel
theorem xd_RE_addStays_13 : decode xc_RE_addStays 13 = .ok (.ifCond .eq 10, 3) := by decide +kernel
theorem xd_RE_addStays_16 : decode xc_RE_addStays 16 = .ok (.aload_n 0, 1) := by decide +kernel
theorem xd_RE_addStays_17 : decode xc_RE_addStays 17 = .ok (.iload_n 2, 1) := by decide +kernel
theorem xd_RE_addStays_18 : decode xc_RE_addStays 18 = .ok (.iload_n 2, 1) := by decide +kernel
theorem xd_RE_addStays_19 : decode xc_RE_addStays 19 = .ok (.iconst 0, 1) := by decide +kernel
theorem xd_RE_addStays_20 : decode xc_RE_addStays 20 = .ok (.invokevirtual 28, 3) := by decide +kernel
theorem xd_RE_addStays_23 : decode xc_RE_addStays 23 = .ok (.iinc 2 1, 3) := by decide +kernel
theorem xd_RE_addStays_26 : decode xc_RE_addStays 26 = .ok (.goto (-24), 3) := by decide +kernel
theorem xd_RE_addStays_29 : decode xc_RE_addStays 29 = .ok (.return_, 1) := by decide +kernel
theorem xd_RE_offer_0 : decode xc_RE_offer 0 = .ok (.iload_n 1, 1) := by decide +kernel
theorem xd_RE_offer_1 : decode xc_RE_offer 1 = .ok (.bipush 32, 2) := by decide +kernel
theorem xd_RE_offer_3 : decode xc_RE_offer 3 = .ok (.imul, 1) := by decide +kernel
theorem xd_RE_offer_4 : decode xc_RE_offer 4 = .ok (.iload_n 2, 1) := by decide +kernel
theorem xd_RE_offer_5 : decode xc_RE_offer 5 = .ok (.iadd, 1) := by decide +kernel
theorem xd_RE_offer_6 : decode xc_RE_offer 6 = .ok (.istore 4, 2) := by decide +kernel
theorem xd_RE_offer_8 : decode xc_RE_offer 8 = .ok (.iconst 1, 1) := by decide +kernel
theorem xd_RE_offer_9 : decode xc_RE_offer 9 = .ok (.iload_n 2, 1) := by decide +kernel
theorem xd_RE_offer_10 : decode xc_RE_offer 10 = .ok (.ishl, 1) := by decide +kernel
theorem xd_RE_offer_11 : decode xc_RE_offer 11 = .ok (.istore 5, 2) := by decide +kernel
theorem xd_RE_offer_13 : decode xc_RE_offer 13 = .ok (.aload_n 0, 1) := by decide +kernel
theorem xd_RE_offer_14 : decode xc_RE_offer 14 = .ok (.getfield 9, 3) := by decide +kernel
theorem xd_RE_offer_17 : decode xc_RE_offer 17 = .ok (.iload_n 1, 1) := by decide +kernel
theorem xd_RE_offer_18 : decode xc_RE_offer 18 = .ok (.iaload, 1) := by decide +kernel
theorem xd_RE_offer_19 : decode xc_RE_offer 19 = .ok (.iload 5, 2) := by decide +kernel
theorem xd_RE_offer_21 : decode xc_RE_offer 21 = .ok (.iand, 1) := by decide +kernel
theorem xd_RE_offer_22 : decode xc_RE_offer 22 = .ok (.ifCond .eq 14, 3) := by decide +kernel
theorem xd_RE_offer_25 : decode xc_RE_offer 25 = .ok (.iload_n 3, 1) := by decide +kernel
theorem xd_RE_offer_26 : decode xc_RE_offer 26 = .ok (.aload_n 0, 1) := by decide +kernel
theorem xd_RE_offer_27 : decode xc_RE_offer 27 = .ok (.getfield 15, 3) := by decide +kernel
theorem xd_RE_offer_30 : decode xc_RE_offer 30 = .ok (.iload 4, 2) := by decide +kernel
theorem xd_RE_offer_32 : decode xc_RE_offer 32 = .ok (.iaload, 1) := by decide +kernel
theorem xd_RE_offer_33 : decode xc_RE_offer 33 = .ok (.if_icmp .ge 22, 3) := by decide +kernel
theorem xd_RE_offer_36 : decode xc_RE_offer 36 = .ok (.aload_n 0, 1) := by decide +kernel
theorem xd_RE_offer_37 : decode xc_RE_offer 37 = .ok (.getfield 9, 3) := by decide +kernel
theorem xd_RE_offer_40 : decode xc_RE_offer 40 = .ok (.iload_n 1, 1) := by decide +kernel
theorem xd_RE_offer_41 : decode xc_RE_offer 41 = .ok (.dup2, 1) := by decide +kernel
theorem xd_RE_offer_42 : decode xc_RE_offer 42 = .ok (.iaload, 1) := by decide +kernel
theorem xd_RE_offer_43 : decode xc_RE_offer 43 = .ok (.iload 5, 2) := by decide +kernel
theorem xd_RE_offer_45 : decode xc_RE_offer 45 = .ok (.ior, 1) := by decide +kernel
theorem xd_RE_offer_46 : decode xc_RE_offer 46 = .ok (.iastore, 1) := by decide +kernel
theorem xd_RE_offer_47 : decode xc_RE_offer 47 = .ok (.aload_n 0, 1) := by decide +kernel
theorem xd_RE_offer_48 : decode xc_RE_offer 48 = .ok (.getfield 15, 3) := by decide +kernel
theorem xd_RE_offer_51 : decode xc_RE_offer 51 = .ok (.iload 4, 2) := by decide +kernel
theorem xd_RE_offer_53 : decode xc_RE_offer 53 = .ok (.iload_n 3, 1) := by decide +kernel
theorem xd_RE_offer_54 : decode xc_RE_offer 54 = .ok (.iastore, 1) := by decide +kernel
theorem xd_RE_offer_55 : decode xc_RE_offer 55 = .ok (.return_, 1) := by decide +kernel
theorem xd_RE_addEdges_0 : decode xc_RE_addEdges 0 = .ok (.iconst 0, 1) := by decide +kernel
theorem xd_RE_addEdges_1 : decode xc_RE_addEdges 1 = .ok (.istore 4, 2) := by decide +kernel
theorem xd_RE_addEdges_3 : decode xc_RE_addEdges 3 = .ok (.iload 4, 2) := by decide +kernel
theorem xd_RE_addEdges_5 : decode xc_RE_addEdges 5 = .ok (.bipush 32, 2) := by decide +kernel
theorem xd_RE_addEdges_7 : decode xc_RE_addEdges 7 = .ok (.if_icmp .ge 80, 3) := by decide +kernel
theorem xd_RE_addEdges_10 : decode xc_RE_addEdges 10 = .ok (.aload_n 1, 1) := by decide +kernel
theorem xd_RE_addEdges_11 : decode xc_RE_addEdges 11 = .ok (.iload 4, 2) := by decide +kernel
theorem xd_RE_addEdges_13 : decode xc_RE_addEdges 13 = .ok (.iload_n 2, 1) := by decide +kernel
theorem xd_RE_addEdges_14 : decode xc_RE_addEdges 14 = .ok (.invokevirtual 32, 3) := by decide +kernel
theorem xd_RE_addEdges_17 : decode xc_RE_addEdges 17 = .ok (.istore 5, 2) := by decide +kernel
theorem xd_RE_addEdges_19 : decode xc_RE_addEdges 19 = .ok (.iconst 0, 1) := by decide +kernel
theorem xd_RE_addEdges_20 : decode xc_RE_addEdges 20 = .ok (.istore 6, 2) := by decide +kernel
theorem xd_RE_addEdges_22 : decode xc_RE_addEdges 22 = .ok (.iload 6, 2) := by decide +kernel
theorem xd_RE_addEdges_24 : decode xc_RE_addEdges 24 = .ok (.bipush 32, 2) := by decide +kernel
theorem xd_RE_addEdges_26 : decode xc_RE_addEdges 26 = .ok (.if_icmp .ge 55, 3) := by decide +kernel
theorem xd_RE_addEdges_29 : decode xc_RE_addEdges 29 = .ok (.iload 5, 2) := by decide +kernel
theorem xd_RE_addEdges_31 : decode xc_RE_addEdges 31 = .ok (.iload 6, 2) := by decide +kernel
theorem xd_RE_addEdges_33 : decode xc_RE_addEdges 33 = .ok (.iushr, 1) := by decide +kernel
theorem xd_RE_addEdges_34 : decode xc_RE_addEdges 34 = .ok (.ifCond .eq 47, 3) := by decide +kernel
theorem xd_RE_addEdges_37 : decode xc_RE_addEdges 37 = .ok (.iload 5, 2) := by decide +kernel
theorem xd_RE_addEdges_39 : decode xc_RE_addEdges 39 = .ok (.iload 6, 2) := by decide +kernel
theorem xd_RE_addEdges_41 : decode xc_RE_addEdges 41 = .ok (.invokestatic 24, 3) := by decide +kernel
theorem xd_RE_addEdges_44 : decode xc_RE_addEdges 44 = .ok (.ifCond .ne 6, 3) := by decide +kernel
theorem xd_RE_addEdges_47 : decode xc_RE_addEdges 47 = .ok (.goto 28, 3) := by decide +kernel
theorem xd_RE_addEdges_50 : decode xc_RE_addEdges 50 = .ok (.iload_n 3, 1) := by decide +kernel
theorem xd_RE_addEdges_51 : decode xc_RE_addEdges 51 = .ok (.ifCond .eq 15, 3) := by decide +kernel
theorem xd_RE_addEdges_54 : decode xc_RE_addEdges 54 = .ok (.aload_n 0, 1) := by decide +kernel
theorem xd_RE_addEdges_55 : decode xc_RE_addEdges 55 = .ok (.iload 6, 2) := by decide +kernel
theorem xd_RE_addEdges_57 : decode xc_RE_addEdges 57 = .ok (.iload 4, 2) := by decide +kernel
theorem xd_RE_addEdges_59 : decode xc_RE_addEdges 59 = .ok (.iconst 1, 1) := by decide +kernel
theorem xd_RE_addEdges_60 : decode xc_RE_addEdges 60 = .ok (.invokevirtual 28, 3) := by decide +kernel
theorem xd_RE_addEdges_63 : decode xc_RE_addEdges 63 = .ok (.goto 12, 3) := by decide +kernel
theorem xd_RE_addEdges_66 : decode xc_RE_addEdges 66 = .ok (.aload_n 0, 1) := by decide +kernel
theorem xd_RE_addEdges_67 : decode xc_RE_addEdges 67 = .ok (.iload 4, 2) := by decide +kernel
theorem xd_RE_addEdges_69 : decode xc_RE_addEdges 69 = .ok (.iload 6, 2) := by decide +kernel
theorem xd_RE_addEdges_71 : decode xc_RE_addEdges 71 = .ok (.iconst 1, 1) := by decide +kernel
theorem xd_RE_addEdges_72 : decode xc_RE_addEdges 72 = .ok (.invokevirtual 28, 3) := by decide +kernel
theorem xd_RE_addEdges_75 : decode xc_RE_addEdges 75 = .ok (.iinc 6 1, 3) := by decide +kernel
theorem xd_RE_addEdges_78 : decode xc_RE_addEdges 78 = .ok (.goto (-56), 3) := by decide +kernel
theorem xd_RE_addEdges_81 : decode xc_RE_addEdges 81 = .ok (.iinc 4 1, 3) := by decide +kernel
theorem xd_RE_addEdges_84 : decode xc_RE_addEdges 84 = .ok (.goto (-81), 3) := by decide +kernel
theorem xd_RE_addEdges_87 : decode xc_RE_addEdges 87 = .ok (.return_, 1) := by decide +kernel
theorem xd_RE_setToChain_0 : decode xc_RE_setToChain 0 = .ok (.aload_n 0, 1) := by decide +kernel
theorem xd_RE_setToChain_1 : decode xc_RE_setToChain 1 = .ok (.invokevirtual 42, 3) := by decide +kernel
theorem xd_RE_setToChain_4 : decode xc_RE_setToChain 4 = .ok (.iconst 0, 1) := by decide +kernel
theorem xd_RE_setToChain_5 : decode xc_RE_setToChain 5 = .ok (.istore_n 3, 1) := by decide +kernel
theorem xd_RE_setToChain_6 : decode xc_RE_setToChain 6 = .ok (.iload_n 3, 1) := by decide +kernel
theorem xd_RE_setToChain_7 : decode xc_RE_setToChain 7 = .ok (.bipush 32, 2) := by decide +kernel
theorem xd_RE_setToChain_9 : decode xc_RE_setToChain 9 = .ok (.if_icmp .ge 71, 3) := by decide +kernel
theorem xd_RE_setToChain_12 : decode xc_RE_setToChain 12 = .ok (.aload_n 1, 1) := by decide +kernel
theorem xd_RE_setToChain_13 : decode xc_RE_setToChain 13 = .ok (.getfield 9, 3) := by decide +kernel
theorem xd_RE_setToChain_16 : decode xc_RE_setToChain 16 = .ok (.iload_n 3, 1) := by decide +kernel
theorem xd_RE_setToChain_17 : decode xc_RE_setToChain 17 = .ok (.iaload, 1) := by decide +kernel
theorem xd_RE_setToChain_18 : decode xc_RE_setToChain 18 = .ok (.istore 4, 2) := by decide +kernel
theorem xd_RE_setToChain_20 : decode xc_RE_setToChain 20 = .ok (.iconst 0, 1) := by decide +kernel
theorem xd_RE_setToChain_21 : decode xc_RE_setToChain 21 = .ok (.istore 5, 2) := by decide +kernel
theorem xd_RE_setToChain_23 : decode xc_RE_setToChain 23 = .ok (.iload 5, 2) := by decide +kernel
theorem xd_RE_setToChain_25 : decode xc_RE_setToChain 25 = .ok (.bipush 32, 2) := by decide +kernel
theorem xd_RE_setToChain_27 : decode xc_RE_setToChain 27 = .ok (.if_icmp .ge 47, 3) := by decide +kernel
theorem xd_RE_setToChain_30 : decode xc_RE_setToChain 30 = .ok (.iload 4, 2) := by decide +kernel
theorem xd_RE_setToChain_32 : decode xc_RE_setToChain 32 = .ok (.iload 5, 2) := by decide +kernel
theorem xd_RE_setToChain_34 : decode xc_RE_setToChain 34 = .ok (.iushr, 1) := by decide +kernel
theorem xd_RE_setToChain_35 : decode xc_RE_setToChain 35 = .ok (.ifCond .eq 39, 3) := by decide +kernel
theorem xd_RE_setToChain_38 : decode xc_RE_setToChain 38 = .ok (.iload 4, 2) := by decide +kernel
theorem xd_RE_setToChain_40 : decode xc_RE_setToChain 40 = .ok (.iload 5, 2) := by decide +kernel
theorem xd_RE_setToChain_42 : decode xc_RE_setToChain 42 = .ok (.invokestatic 24, 3) := by decide +kernel
theorem xd_RE_setToChain_45 : decode xc_RE_setToChain 45 = .ok (.ifCond .eq 23, 3) := by decide +kernel
theorem xd_RE_setToChain_48 : decode xc_RE_setToChain 48 = .ok (.aload_n 0, 1) := by decide +kernel
theorem xd_RE_setToChain_49 : decode xc_RE_setToChain 49 = .ok (.iload_n 3, 1) := by decide +kernel
theorem xd_RE_setToChain_50 : decode xc_RE_setToChain 50 = .ok (.aload_n 1, 1) := by decide +kernel
theorem xd_RE_setToChain_51 : decode xc_RE_setToChain 51 = .ok (.getfield 15, 3) := by decide +kernel
theorem xd_RE_setToChain_54 : decode xc_RE_setToChain 54 = .ok (.iload_n 3, 1) := by decide +kernel
theorem xd_RE_setToChain_55 : decode xc_RE_setToChain 55 = .ok (.bipush 32, 2) := by decide +kernel
theorem xd_RE_setToChain_57 : decode xc_RE_setToChain 57 = .ok (.imul, 1) := by decide +kernel
theorem xd_RE_setToChain_58 : decode xc_RE_setToChain 58 = .ok (.iload 5, 2) := by decide +kernel
theorem xd_RE_setToChain_60 : decode xc_RE_setToChain 60 = .ok (.iadd, 1) := by decide +kernel
theorem xd_RE_setToChain_61 : decode xc_RE_setToChain 61 = .ok (.iaload, 1) := by decide +kernel
theorem xd_RE_setToChain_62 : decode xc_RE_setToChain 62 = .ok (.aload_n 2, 1) := by decide +kernel
theorem xd_RE_setToChain_63 : decode xc_RE_setToChain 63 = .ok (.iload 5, 2) := by decide +kernel
theorem xd_RE_setToChain_65 : decode xc_RE_setToChain 65 = .ok (.invokevirtual 38, 3) := by decide +kernel
theorem xd_RE_setToChain_68 : decode xc_RE_setToChain 68 = .ok (.iinc 5 1, 3) := by decide +kernel
theorem xd_RE_setToChain_71 : decode xc_RE_setToChain 71 = .ok (.goto (-48), 3) := by decide +kernel
theorem xd_RE_setToChain_74 : decode xc_RE_setToChain 74 = .ok (.iinc 3 1, 3) := by decide +kernel
theorem xd_RE_setToChain_77 : decode xc_RE_setToChain 77 = .ok (.goto (-71), 3) := by decide +kernel
theorem xd_RE_setToChain_80 : decode xc_RE_setToChain 80 = .ok (.return_, 1) := by decide +kernel
theorem xd_RE_addGoingOn_0 : decode xc_RE_addGoingOn 0 = .ok (.aload_n 3, 1) := by decide +kernel
theorem xd_RE_addGoingOn_1 : decode xc_RE_addGoingOn 1 = .ok (.getfield 9, 3) := by decide +kernel
theorem xd_RE_addGoingOn_4 : decode xc_RE_addGoingOn 4 = .ok (.iload 4, 2) := by decide +kernel
theorem xd_RE_addGoingOn_6 : decode xc_RE_addGoingOn 6 = .ok (.iaload, 1) := by decide +kernel
theorem xd_RE_addGoingOn_7 : decode xc_RE_addGoingOn 7 = .ok (.istore 5, 2) := by decide +kernel
theorem xd_RE_addGoingOn_9 : decode xc_RE_addGoingOn 9 = .ok (.iconst 0, 1) := by decide +kernel
theorem xd_RE_addGoingOn_10 : decode xc_RE_addGoingOn 10 = .ok (.istore 6, 2) := by decide +kernel
theorem xd_RE_addGoingOn_12 : decode xc_RE_addGoingOn 12 = .ok (.iload 6, 2) := by decide +kernel
theorem xd_RE_addGoingOn_14 : decode xc_RE_addGoingOn 14 = .ok (.bipush 32, 2) := by decide +kernel
theorem xd_RE_addGoingOn_16 : decode xc_RE_addGoingOn 16 = .ok (.if_icmp .ge 49, 3) := by decide +kernel
theorem xd_RE_addGoingOn_19 : decode xc_RE_addGoingOn 19 = .ok (.iload 5, 2) := by decide +kernel
theorem xd_RE_addGoingOn_21 : decode xc_RE_addGoingOn 21 = .ok (.iload 6, 2) := by decide +kernel
theorem xd_RE_addGoingOn_23 : decode xc_RE_addGoingOn 23 = .ok (.iushr, 1) := by decide +kernel
theorem xd_RE_addGoingOn_24 : decode xc_RE_addGoingOn 24 = .ok (.ifCond .eq 41, 3) := by decide +kernel
theorem xd_RE_addGoingOn_27 : decode xc_RE_addGoingOn 27 = .ok (.iload 5, 2) := by decide +kernel
theorem xd_RE_addGoingOn_29 : decode xc_RE_addGoingOn 29 = .ok (.iload 6, 2) := by decide +kernel
theorem xd_RE_addGoingOn_31 : decode xc_RE_addGoingOn 31 = .ok (.invokestatic 24, 3) := by decide +kernel
theorem xd_RE_addGoingOn_34 : decode xc_RE_addGoingOn 34 = .ok (.ifCond .eq 25, 3) := by decide +kernel
theorem xd_RE_addGoingOn_37 : decode xc_RE_addGoingOn 37 = .ok (.aload_n 0, 1) := by decide +kernel
theorem xd_RE_addGoingOn_38 : decode xc_RE_addGoingOn 38 = .ok (.iload_n 1, 1) := by decide +kernel
theorem xd_RE_addGoingOn_39 : decode xc_RE_addGoingOn 39 = .ok (.iload 6, 2) := by decide +kernel
theorem xd_RE_addGoingOn_41 : decode xc_RE_addGoingOn 41 = .ok (.iload_n 2, 1) := by decide +kernel
theorem xd_RE_addGoingOn_42 : decode xc_RE_addGoingOn 42 = .ok (.aload_n 3, 1) := by decide +kernel
theorem xd_RE_addGoingOn_43 : decode xc_RE_addGoingOn 43 = .ok (.getfield 15, 3) := by decide +kernel
theorem xd_RE_addGoingOn_46 : decode xc_RE_addGoingOn 46 = .ok (.iload 4, 2) := by decide +kernel
theorem xd_RE_addGoingOn_48 : decode xc_RE_addGoingOn 48 = .ok (.bipush 32, 2) := by decide +kernel
theorem xd_RE_addGoingOn_50 : decode xc_RE_addGoingOn 50 = .ok (.imul, 1) := by decide +kernel
theorem xd_RE_addGoingOn_51 : decode xc_RE_addGoingOn 51 = .ok (.iload 6, 2) := by decide +kernel
theorem xd_RE_addGoingOn_53 : decode xc_RE_addGoingOn 53 = .ok (.iadd, 1) := by decide +kernel
theorem xd_RE_addGoingOn_54 : decode xc_RE_addGoingOn 54 = .ok (.iaload, 1) := by decide +kernel
theorem xd_RE_addGoingOn_55 : decode xc_RE_addGoingOn 55 = .ok (.iadd, 1) := by decide +kernel
theorem xd_RE_addGoingOn_56 : decode xc_RE_addGoingOn 56 = .ok (.invokevirtual 28, 3) := by decide +kernel
theorem xd_RE_addGoingOn_59 : decode xc_RE_addGoingOn 59 = .ok (.iinc 6 1, 3) := by decide +kernel
theorem xd_RE_addGoingOn_62 : decode xc_RE_addGoingOn 62 = .ok (.goto (-50), 3) := by decide +kernel
theorem xd_RE_addGoingOn_65 : decode xc_RE_addGoingOn 65 = .ok (.return_, 1) := by decide +kernel
theorem xd_RE_addAll_0 : decode xc_RE_addAll 0 = .ok (.iconst 0, 1) := by decide +kernel
theorem xd_RE_addAll_1 : decode xc_RE_addAll 1 = .ok (.istore_n 2, 1) := by decide +kernel
theorem xd_RE_addAll_2 : decode xc_RE_addAll 2 = .ok (.iload_n 2, 1) := by decide +kernel
theorem xd_RE_addAll_3 : decode xc_RE_addAll 3 = .ok (.bipush 32, 2) := by decide +kernel
theorem xd_RE_addAll_5 : decode xc_RE_addAll 5 = .ok (.if_icmp .ge 17, 3) := by decide +kernel
theorem xd_RE_addAll_8 : decode xc_RE_addAll 8 = .ok (.aload_n 0, 1) := by decide +kernel
theorem xd_RE_addAll_9 : decode xc_RE_addAll 9 = .ok (.iload_n 2, 1) := by decide +kernel
theorem xd_RE_addAll_10 : decode xc_RE_addAll 10 = .ok (.iconst 0, 1) := by decide +kernel
theorem xd_RE_addAll_11 : decode xc_RE_addAll 11 = .ok (.aload_n 1, 1) := by decide +kernel
theorem xd_RE_addAll_12 : decode xc_RE_addAll 12 = .ok (.iload_n 2, 1) := by decide +kernel
theorem xd_RE_addAll_13 : decode xc_RE_addAll 13 = .ok (.invokevirtual 38, 3) := by decide +kernel
theorem xd_RE_addAll_16 : decode xc_RE_addAll 16 = .ok (.iinc 2 1, 3) := by decide +kernel
theorem xd_RE_addAll_19 : decode xc_RE_addAll 19 = .ok (.goto (-17), 3) := by decide +kernel
theorem xd_RE_addAll_22 : decode xc_RE_addAll 22 = .ok (.return_, 1) := by decide +kernel
theorem xd_RE_repeatAtWill_0 : decode xc_RE_repeatAtWill 0 = .ok (.iconst 0, 1) := by decide +kernel
theorem xd_RE_repeatAtWill_1 : decode xc_RE_repeatAtWill 1 = .ok (.istore_n 1, 1) := by decide +kernel
theorem xd_RE_repeatAtWill_2 : decode xc_RE_repeatAtWill 2 = .ok (.iload_n 1, 1) := by decide +kernel
theorem xd_RE_repeatAtWill_3 : decode xc_RE_repeatAtWill 3 = .ok (.bipush 32, 2) := by decide +kernel
theorem xd_RE_repeatAtWill_5 : decode xc_RE_repeatAtWill 5 = .ok (.if_icmp .ge 54, 3) := by decide +kernel
theorem xd_RE_repeatAtWill_8 : decode xc_RE_repeatAtWill 8 = .ok (.iconst 0, 1) := by decide +kernel
theorem xd_RE_repeatAtWill_9 : decode xc_RE_repeatAtWill 9 = .ok (.istore_n 2, 1) := by decide +kernel
theorem xd_RE_repeatAtWill_10 : decode xc_RE_repeatAtWill 10 = .ok (.iload_n 2, 1) := by decide +kernel
theorem xd_RE_repeatAtWill_11 : decode xc_RE_repeatAtWill 11 = .ok (.bipush 32, 2) := by decide +kernel
theorem xd_RE_repeatAtWill_13 : decode xc_RE_repeatAtWill 13 = .ok (.if_icmp .ge 40, 3) := by decide +kernel
theorem xd_RE_repeatAtWill_16 : decode xc_RE_repeatAtWill 16 = .ok (.aload_n 0, 1) := by decide +kernel
theorem xd_RE_repeatAtWill_17 : decode xc_RE_repeatAtWill 17 = .ok (.getfield 9, 3) := by decide +kernel
theorem xd_RE_repeatAtWill_20 : decode xc_RE_repeatAtWill 20 = .ok (.iload_n 2, 1) := by decide +kernel
theorem xd_RE_repeatAtWill_21 : decode xc_RE_repeatAtWill 21 = .ok (.iaload, 1) := by decide +kernel
theorem xd_RE_repeatAtWill_22 : decode xc_RE_repeatAtWill 22 = .ok (.iload_n 1, 1) := by decide +kernel
theorem xd_RE_repeatAtWill_23 : decode xc_RE_repeatAtWill 23 = .ok (.invokestatic 24, 3) := by decide +kernel
theorem xd_RE_repeatAtWill_26 : decode xc_RE_repeatAtWill 26 = .ok (.ifCond .eq 21, 3) := by decide +kernel
theorem xd_RE_repeatAtWill_29 : decode xc_RE_repeatAtWill 29 = .ok (.aload_n 0, 1) := by decide +kernel
theorem xd_RE_repeatAtWill_30 : decode xc_RE_repeatAtWill 30 = .ok (.iload_n 2, 1) := by decide +kernel
theorem xd_RE_repeatAtWill_31 : decode xc_RE_repeatAtWill 31 = .ok (.aload_n 0, 1) := by decide +kernel
theorem xd_RE_repeatAtWill_32 : decode xc_RE_repeatAtWill 32 = .ok (.getfield 15, 3) := by decide +kernel
theorem xd_RE_repeatAtWill_35 : decode xc_RE_repeatAtWill 35 = .ok (.iload_n 2, 1) := by decide +kernel
theorem xd_RE_repeatAtWill_36 : decode xc_RE_repeatAtWill 36 = .ok (.bipush 32, 2) := by decide +kernel
theorem xd_RE_repeatAtWill_38 : decode xc_RE_repeatAtWill 38 = .ok (.imul, 1) := by decide +kernel
theorem xd_RE_repeatAtWill_39 : decode xc_RE_repeatAtWill 39 = .ok (.iload_n 1, 1) := by decide +kernel
theorem xd_RE_repeatAtWill_40 : decode xc_RE_repeatAtWill 40 = .ok (.iadd, 1) := by decide +kernel
theorem xd_RE_repeatAtWill_41 : decode xc_RE_repeatAtWill 41 = .ok (.iaload, 1) := by decide +kernel
theorem xd_RE_repeatAtWill_42 : decode xc_RE_repeatAtWill 42 = .ok (.aload_n 0, 1) := by decide +kernel
theorem xd_RE_repeatAtWill_43 : decode xc_RE_repeatAtWill 43 = .ok (.iload_n 1, 1) := by decide +kernel
theorem xd_RE_repeatAtWill_44 : decode xc_RE_repeatAtWill 44 = .ok (.invokevirtual 38, 3) := by decide +kernel
theorem xd_RE_repeatAtWill_47 : decode xc_RE_repeatAtWill 47 = .ok (.iinc 2 1, 3) := by decide +kernel
theorem xd_RE_repeatAtWill_50 : decode xc_RE_repeatAtWill 50 = .ok (.goto (-40), 3) := by decide +kernel
theorem xd_RE_repeatAtWill_53 : decode xc_RE_repeatAtWill 53 = .ok (.iinc 1 1, 3) := by decide +kernel
theorem xd_RE_repeatAtWill_56 : decode xc_RE_repeatAtWill 56 = .ok (.goto (-54), 3) := by decide +kernel
theorem xd_RE_repeatAtWill_59 : decode xc_RE_repeatAtWill 59 = .ok (.return_, 1) := by decide +kernel
theorem xd_RE_sourcesOf_0 : decode xc_RE_sourcesOf 0 = .ok (.iconst 0, 1) := by decide +kernel
theorem xd_RE_sourcesOf_1 : decode xc_RE_sourcesOf 1 = .ok (.istore_n 2, 1) := by decide +kernel
theorem xd_RE_sourcesOf_2 : decode xc_RE_sourcesOf 2 = .ok (.iconst 0, 1) := by decide +kernel
theorem xd_RE_sourcesOf_3 : decode xc_RE_sourcesOf 3 = .ok (.istore_n 3, 1) := by decide +kernel
theorem xd_RE_sourcesOf_4 : decode xc_RE_sourcesOf 4 = .ok (.iload_n 3, 1) := by decide +kernel
theorem xd_RE_sourcesOf_5 : decode xc_RE_sourcesOf 5 = .ok (.bipush 32, 2) := by decide +kernel
theorem xd_RE_sourcesOf_7 : decode xc_RE_sourcesOf 7 = .ok (.if_icmp .ge 28, 3) := by decide +kernel
theorem xd_RE_sourcesOf_10 : decode xc_RE_sourcesOf 10 = .ok (.aload_n 0, 1) := by decide +kernel
theorem xd_RE_sourcesOf_11 : decode xc_RE_sourcesOf 11 = .ok (.getfield 9, 3) := by decide +kernel
theorem xd_RE_sourcesOf_14 : decode xc_RE_sourcesOf 14 = .ok (.iload_n 3, 1) := by decide +kernel
theorem xd_RE_sourcesOf_15 : decode xc_RE_sourcesOf 15 = .ok (.iaload, 1) := by decide +kernel
theorem xd_RE_sourcesOf_16 : decode xc_RE_sourcesOf 16 = .ok (.iload_n 1, 1) := by decide +kernel
theorem xd_RE_sourcesOf_17 : decode xc_RE_sourcesOf 17 = .ok (.invokestatic 24, 3) := by decide +kernel
theorem xd_RE_sourcesOf_20 : decode xc_RE_sourcesOf 20 = .ok (.ifCond .eq 9, 3) := by decide +kernel
theorem xd_RE_sourcesOf_23 : decode xc_RE_sourcesOf 23 = .ok (.iload_n 2, 1) := by decide +kernel
theorem xd_RE_sourcesOf_24 : decode xc_RE_sourcesOf 24 = .ok (.iconst 1, 1) := by decide +kernel
theorem xd_RE_sourcesOf_25 : decode xc_RE_sourcesOf 25 = .ok (.iload_n 3, 1) := by decide +kernel
theorem xd_RE_sourcesOf_26 : decode xc_RE_sourcesOf 26 = .ok (.ishl, 1) := by decide +kernel
theorem xd_RE_sourcesOf_27 : decode xc_RE_sourcesOf 27 = .ok (.ior, 1) := by decide +kernel
theorem xd_RE_sourcesOf_28 : decode xc_RE_sourcesOf 28 = .ok (.istore_n 2, 1) := by decide +kernel
theorem xd_RE_sourcesOf_29 : decode xc_RE_sourcesOf 29 = .ok (.iinc 3 1, 3) := by decide +kernel
theorem xd_RE_sourcesOf_32 : decode xc_RE_sourcesOf 32 = .ok (.goto (-28), 3) := by decide +kernel
theorem xd_RE_sourcesOf_35 : decode xc_RE_sourcesOf 35 = .ok (.iload_n 2, 1) := by decide +kernel
theorem xd_RE_sourcesOf_36 : decode xc_RE_sourcesOf 36 = .ok (.ireturn, 1) := by decide +kernel
theorem xd_RE_lengthOf_0 : decode xc_RE_lengthOf 0 = .ok (.aload_n 0, 1) := by decide +kernel
theorem xd_RE_lengthOf_1 : decode xc_RE_lengthOf 1 = .ok (.getfield 9, 3) := by decide +kernel
theorem xd_RE_lengthOf_4 : decode xc_RE_lengthOf 4 = .ok (.iload_n 1, 1) := by decide +kernel
theorem xd_RE_lengthOf_5 : decode xc_RE_lengthOf 5 = .ok (.iaload, 1) := by decide +kernel
theorem xd_RE_lengthOf_6 : decode xc_RE_lengthOf 6 = .ok (.iload_n 2, 1) := by decide +kernel
theorem xd_RE_lengthOf_7 : decode xc_RE_lengthOf 7 = .ok (.invokestatic 24, 3) := by decide +kernel
theorem xd_RE_lengthOf_10 : decode xc_RE_lengthOf 10 = .ok (.ifCond .eq 17, 3) := by decide +kernel
theorem xd_RE_lengthOf_13 : decode xc_RE_lengthOf 13 = .ok (.aload_n 0, 1) := by decide +kernel
theorem xd_RE_lengthOf_14 : decode xc_RE_lengthOf 14 = .ok (.getfield 15, 3) := by decide +kernel
theorem xd_RE_lengthOf_17 : decode xc_RE_lengthOf 17 = .ok (.iload_n 1, 1) := by decide +kernel
theorem xd_RE_lengthOf_18 : decode xc_RE_lengthOf 18 = .ok (.bipush 32, 2) := by decide +kernel
theorem xd_RE_lengthOf_20 : decode xc_RE_lengthOf 20 = .ok (.imul, 1) := by decide +kernel
theorem xd_RE_lengthOf_21 : decode xc_RE_lengthOf 21 = .ok (.iload_n 2, 1) := by decide +kernel
theorem xd_RE_lengthOf_22 : decode xc_RE_lengthOf 22 = .ok (.iadd, 1) := by decide +kernel
theorem xd_RE_lengthOf_23 : decode xc_RE_lengthOf 23 = .ok (.iaload, 1) := by decide +kernel
theorem xd_RE_lengthOf_24 : decode xc_RE_lengthOf 24 = .ok (.goto 4, 3) := by decide +kernel
theorem xd_RE_lengthOf_27 : decode xc_RE_lengthOf 27 = .ok (.iconst (-1), 1) := by decide +kernel
theorem xd_RE_lengthOf_28 : decode xc_RE_lengthOf 28 = .ok (.ireturn, 1) := by decide +kernel
theorem xd_RE_greatestLength_0 : decode xc_RE_greatestLength 0 = .ok (.iconst (-1), 1) := by decide +kernel
theorem xd_RE_greatestLength_1 : decode xc_RE_greatestLength 1 = .ok (.istore_n 1, 1) := by decide +kernel
theorem xd_RE_greatestLength_2 : decode xc_RE_greatestLength 2 = .ok (.iconst 0, 1) := by decide +kernel
theorem xd_RE_greatestLength_3 : decode xc_RE_greatestLength 3 = .ok (.istore_n 2, 1) := by decide +kernel
theorem xd_RE_greatestLength_4 : decode xc_RE_greatestLength 4 = .ok (.iload_n 2, 1) := by decide +kernel
theorem xd_RE_greatestLength_5 : decode xc_RE_greatestLength 5 = .ok (.bipush 32, 2) := by decide +kernel
theorem xd_RE_greatestLength_7 : decode xc_RE_greatestLength 7 = .ok (.if_icmp .ge 34, 3) := by decide +kernel
theorem xd_RE_greatestLength_10 : decode xc_RE_greatestLength 10 = .ok (.iconst 0, 1) := by decide +kernel
theorem xd_RE_greatestLength_11 : decode xc_RE_greatestLength 11 = .ok (.istore_n 3, 1) := by decide +kernel
theorem xd_RE_greatestLength_12 : decode xc_RE_greatestLength 12 = .ok (.iload_n 3, 1) := by decide +kernel
theorem xd_RE_greatestLength_13 : decode xc_RE_greatestLength 13 = .ok (.bipush 32, 2) := by decide +kernel
theorem xd_RE_greatestLength_15 : decode xc_RE_greatestLength 15 = .ok (.if_icmp .ge 20, 3) := by decide +kernel
theorem xd_RE_greatestLength_18 : decode xc_RE_greatestLength 18 = .ok (.iload_n 1, 1) := by decide +kernel
theorem xd_RE_greatestLength_19 : decode xc_RE_greatestLength 19 = .ok (.aload_n 0, 1) := by decide +kernel
theorem xd_RE_greatestLength_20 : decode xc_RE_greatestLength 20 = .ok (.iload_n 2, 1) := by decide +kernel
theorem xd_RE_greatestLength_21 : decode xc_RE_greatestLength 21 = .ok (.iload_n 3, 1) := by decide +kernel
theorem xd_RE_greatestLength_22 : decode xc_RE_greatestLength 22 = .ok (.invokevirtual 45, 3) := by decide +kernel
theorem xd_RE_greatestLength_25 : decode xc_RE_greatestLength 25 = .ok (.invokestatic 48, 3) := by decide +kernel
theorem xd_RE_greatestLength_28 : decode xc_RE_greatestLength 28 = .ok (.istore_n 1, 1) := by decide +kernel
theorem xd_RE_greatestLength_29 : decode xc_RE_greatestLength 29 = .ok (.iinc 3 1, 3) := by decide +kernel
theorem xd_RE_greatestLength_32 : decode xc_RE_greatestLength 32 = .ok (.goto (-20), 3) := by decide +kernel
theorem xd_RE_greatestLength_35 : decode xc_RE_greatestLength 35 = .ok (.iinc 2 1, 3) := by decide +kernel
theorem xd_RE_greatestLength_38 : decode xc_RE_greatestLength 38 = .ok (.goto (-34), 3) := by decide +kernel
theorem xd_RE_greatestLength_41 : decode xc_RE_greatestLength 41 = .ok (.iload_n 1, 1) := by decide +kernel
theorem xd_RE_greatestLength_42 : decode xc_RE_greatestLength 42 = .ok (.ireturn, 1) := by decide +kernel
theorem xd_RE_pairCount_0 : decode xc_RE_pairCount 0 = .ok (.iconst 0, 1) := by decide +kernel
theorem xd_RE_pairCount_1 : decode xc_RE_pairCount 1 = .ok (.istore_n 1, 1) := by decide +kernel
theorem xd_RE_pairCount_2 : decode xc_RE_pairCount 2 = .ok (.iconst 0, 1) := by decide +kernel
theorem xd_RE_pairCount_3 : decode xc_RE_pairCount 3 = .ok (.istore_n 2, 1) := by decide +kernel
theorem xd_RE_pairCount_4 : decode xc_RE_pairCount 4 = .ok (.iload_n 2, 1) := by decide +kernel
theorem xd_RE_pairCount_5 : decode xc_RE_pairCount 5 = .ok (.bipush 32, 2) := by decide +kernel
theorem xd_RE_pairCount_7 : decode xc_RE_pairCount 7 = .ok (.if_icmp .ge 21, 3) := by decide +kernel
theorem xd_RE_pairCount_10 : decode xc_RE_pairCount 10 = .ok (.iload_n 1, 1) := by decide +kernel
theorem xd_RE_pairCount_11 : decode xc_RE_pairCount 11 = .ok (.aload_n 0, 1) := by decide +kernel
theorem xd_RE_pairCount_12 : decode xc_RE_pairCount 12 = .ok (.getfield 9, 3) := by decide +kernel
theorem xd_RE_pairCount_15 : decode xc_RE_pairCount 15 = .ok (.iload_n 2, 1) := by decide +kernel
theorem xd_RE_pairCount_16 : decode xc_RE_pairCount 16 = .ok (.iaload, 1) := by decide +kernel
theorem xd_RE_pairCount_17 : decode xc_RE_pairCount 17 = .ok (.invokestatic 53, 3) := by decide +kernel
theorem xd_RE_pairCount_20 : decode xc_RE_pairCount 20 = .ok (.iadd, 1) := by decide +kernel
theorem xd_RE_pairCount_21 : decode xc_RE_pairCount 21 = .ok (.istore_n 1, 1) := by decide +kernel
theorem xd_RE_pairCount_22 : decode xc_RE_pairCount 22 = .ok (.iinc 2 1, 3) := by decide +kernel
theorem xd_RE_pairCount_25 : decode xc_RE_pairCount 25 = .ok (.goto (-21), 3) := by decide +kernel
theorem xd_RE_pairCount_28 : decode xc_RE_pairCount 28 = .ok (.iload_n 1, 1) := by decide +kernel
theorem xd_RE_pairCount_29 : decode xc_RE_pairCount 29 = .ok (.ireturn, 1) := by decide +kernel
theorem xd_RE_pairsSharedWith_0 : decode xc_RE_pairsSharedWith 0 = .ok (.iconst 0, 1) := by decide +kernel
theorem xd_RE_pairsSharedWith_1 : decode xc_RE_pairsSharedWith 1 = .ok (.istore_n 2, 1) := by decide +kernel
theorem xd_RE_pairsSharedWith_2 : decode xc_RE_pairsSharedWith 2 = .ok (.iconst 0, 1) := by decide +kernel
theorem xd_RE_pairsSharedWith_3 : decode xc_RE_pairsSharedWith 3 = .ok (.istore_n 3, 1) := by decide +kernel
theorem xd_RE_pairsSharedWith_4 : decode xc_RE_pairsSharedWith 4 = .ok (.iload_n 3, 1) := by decide +kernel
theorem xd_RE_pairsSharedWith_5 : decode xc_RE_pairsSharedWith 5 = .ok (.bipush 32, 2) := by decide +kernel
theorem xd_RE_pairsSharedWith_7 : decode xc_RE_pairsSharedWith 7 = .ok (.if_icmp .ge 28, 3) := by decide +kernel
theorem xd_RE_pairsSharedWith_10 : decode xc_RE_pairsSharedWith 10 = .ok (.iload_n 2, 1) := by decide +kernel
theorem xd_RE_pairsSharedWith_11 : decode xc_RE_pairsSharedWith 11 = .ok (.aload_n 0, 1) := by decide +kernel
theorem xd_RE_pairsSharedWith_12 : decode xc_RE_pairsSharedWith 12 = .ok (.getfield 9, 3) := by decide +kernel
theorem xd_RE_pairsSharedWith_15 : decode xc_RE_pairsSharedWith 15 = .ok (.iload_n 3, 1) := by decide +kernel
theorem xd_RE_pairsSharedWith_16 : decode xc_RE_pairsSharedWith 16 = .ok (.iaload, 1) := by decide +kernel
theorem xd_RE_pairsSharedWith_17 : decode xc_RE_pairsSharedWith 17 = .ok (.aload_n 1, 1) := by decide +kernel
theorem xd_RE_pairsSharedWith_18 : decode xc_RE_pairsSharedWith 18 = .ok (.getfield 9, 3) := by decide +kernel
theorem xd_RE_pairsSharedWith_21 : decode xc_RE_pairsSharedWith 21 = .ok (.iload_n 3, 1) := by decide +kernel
theorem xd_RE_pairsSharedWith_22 : decode xc_RE_pairsSharedWith 22 = .ok (.iaload, 1) := by decide +kernel
theorem xd_RE_pairsSharedWith_23 : decode xc_RE_pairsSharedWith 23 = .ok (.iand, 1) := by decide +kernel
theorem xd_RE_pairsSharedWith_24 : decode xc_RE_pairsSharedWith 24 = .ok (.invokestatic 53, 3) := by decide +kernel
theorem xd_RE_pairsSharedWith_27 : decode xc_RE_pairsSharedWith 27 = .ok (.iadd, 1) := by decide +kernel
theorem xd_RE_pairsSharedWith_28 : decode xc_RE_pairsSharedWith 28 = .ok (.istore_n 2, 1) := by decide +kernel
theorem xd_RE_pairsSharedWith_29 : decode xc_RE_pairsSharedWith 29 = .ok (.iinc 3 1, 3) := by decide +kernel
theorem xd_RE_pairsSharedWith_32 : decode xc_RE_pairsSharedWith 32 = .ok (.goto (-28), 3) := by decide +kernel
theorem xd_RE_pairsSharedWith_35 : decode xc_RE_pairsSharedWith 35 = .ok (.iload_n 2, 1) := by decide +kernel
theorem xd_RE_pairsSharedWith_36 : decode xc_RE_pairsSharedWith 36 = .ok (.ireturn, 1) := by decide +kernel
theorem xd_RE_pairsTurnedIn_0 : decode xc_RE_pairsTurnedIn 0 = .ok (.iconst 0, 1) := by decide +kernel
theorem xd_RE_pairsTurnedIn_1 : decode xc_RE_pairsTurnedIn 1 = .ok (.istore_n 2, 1) := by decide +kernel
theorem xd_RE_pairsTurnedIn_2 : decode xc_RE_pairsTurnedIn 2 = .ok (.iconst 0, 1) := by decide +kernel
theorem xd_RE_pairsTurnedIn_3 : decode xc_RE_pairsTurnedIn 3 = .ok (.istore_n 3, 1) := by decide +kernel
theorem xd_RE_pairsTurnedIn_4 : decode xc_RE_pairsTurnedIn 4 = .ok (.iload_n 3, 1) := by decide +kernel
theorem xd_RE_pairsTurnedIn_5 : decode xc_RE_pairsTurnedIn 5 = .ok (.bipush 32, 2) := by decide +kernel
theorem xd_RE_pairsTurnedIn_7 : decode xc_RE_pairsTurnedIn 7 = .ok (.if_icmp .ge 27, 3) := by decide +kernel
theorem xd_RE_pairsTurnedIn_10 : decode xc_RE_pairsTurnedIn 10 = .ok (.iload_n 2, 1) := by decide +kernel
theorem xd_RE_pairsTurnedIn_11 : decode xc_RE_pairsTurnedIn 11 = .ok (.aload_n 0, 1) := by decide +kernel
theorem xd_RE_pairsTurnedIn_12 : decode xc_RE_pairsTurnedIn 12 = .ok (.getfield 9, 3) := by decide +kernel
theorem xd_RE_pairsTurnedIn_15 : decode xc_RE_pairsTurnedIn 15 = .ok (.iload_n 3, 1) := by decide +kernel
theorem xd_RE_pairsTurnedIn_16 : decode xc_RE_pairsTurnedIn 16 = .ok (.iaload, 1) := by decide +kernel
theorem xd_RE_pairsTurnedIn_17 : decode xc_RE_pairsTurnedIn 17 = .ok (.aload_n 1, 1) := by decide +kernel
theorem xd_RE_pairsTurnedIn_18 : decode xc_RE_pairsTurnedIn 18 = .ok (.iload_n 3, 1) := by decide +kernel
theorem xd_RE_pairsTurnedIn_19 : decode xc_RE_pairsTurnedIn 19 = .ok (.invokevirtual 59, 3) := by decide +kernel
theorem xd_RE_pairsTurnedIn_22 : decode xc_RE_pairsTurnedIn 22 = .ok (.iand, 1) := by decide +kernel
theorem xd_RE_pairsTurnedIn_23 : decode xc_RE_pairsTurnedIn 23 = .ok (.invokestatic 53, 3) := by decide +kernel
theorem xd_RE_pairsTurnedIn_26 : decode xc_RE_pairsTurnedIn 26 = .ok (.iadd, 1) := by decide +kernel
theorem xd_RE_pairsTurnedIn_27 : decode xc_RE_pairsTurnedIn 27 = .ok (.istore_n 2, 1) := by decide +kernel
theorem xd_RE_pairsTurnedIn_28 : decode xc_RE_pairsTurnedIn 28 = .ok (.iinc 3 1, 3) := by decide +kernel
theorem xd_RE_pairsTurnedIn_31 : decode xc_RE_pairsTurnedIn 31 = .ok (.goto (-27), 3) := by decide +kernel
theorem xd_RE_pairsTurnedIn_34 : decode xc_RE_pairsTurnedIn 34 = .ok (.iload_n 2, 1) := by decide +kernel
theorem xd_RE_pairsTurnedIn_35 : decode xc_RE_pairsTurnedIn 35 = .ok (.ireturn, 1) := by decide +kernel
theorem xd_RE_pairsLedOnBy_0 : decode xc_RE_pairsLedOnBy 0 = .ok (.iconst 0, 1) := by decide +kernel
theorem xd_RE_pairsLedOnBy_1 : decode xc_RE_pairsLedOnBy 1 = .ok (.istore_n 2, 1) := by decide +kernel
theorem xd_RE_pairsLedOnBy_2 : decode xc_RE_pairsLedOnBy 2 = .ok (.iconst 0, 1) := by decide +kernel
theorem xd_RE_pairsLedOnBy_3 : decode xc_RE_pairsLedOnBy 3 = .ok (.istore_n 3, 1) := by decide +kernel
theorem xd_RE_pairsLedOnBy_4 : decode xc_RE_pairsLedOnBy 4 = .ok (.iload_n 3, 1) := by decide +kernel
theorem xd_RE_pairsLedOnBy_5 : decode xc_RE_pairsLedOnBy 5 = .ok (.bipush 32, 2) := by decide +kernel
theorem xd_RE_pairsLedOnBy_7 : decode xc_RE_pairsLedOnBy 7 = .ok (.if_icmp .ge 62, 3) := by decide +kernel
theorem xd_RE_pairsLedOnBy_10 : decode xc_RE_pairsLedOnBy 10 = .ok (.iconst 0, 1) := by decide +kernel
theorem xd_RE_pairsLedOnBy_11 : decode xc_RE_pairsLedOnBy 11 = .ok (.istore 4, 2) := by decide +kernel
theorem xd_RE_pairsLedOnBy_13 : decode xc_RE_pairsLedOnBy 13 = .ok (.iconst 0, 1) := by decide +kernel
theorem xd_RE_pairsLedOnBy_14 : decode xc_RE_pairsLedOnBy 14 = .ok (.istore 5, 2) := by decide +kernel
theorem xd_RE_pairsLedOnBy_16 : decode xc_RE_pairsLedOnBy 16 = .ok (.iload 5, 2) := by decide +kernel
theorem xd_RE_pairsLedOnBy_18 : decode xc_RE_pairsLedOnBy 18 = .ok (.bipush 32, 2) := by decide +kernel
theorem xd_RE_pairsLedOnBy_20 : decode xc_RE_pairsLedOnBy 20 = .ok (.if_icmp .ge 35, 3) := by decide +kernel
theorem xd_RE_pairsLedOnBy_23 : decode xc_RE_pairsLedOnBy 23 = .ok (.aload_n 0, 1) := by decide +kernel
theorem xd_RE_pairsLedOnBy_24 : decode xc_RE_pairsLedOnBy 24 = .ok (.getfield 9, 3) := by decide +kernel
theorem xd_RE_pairsLedOnBy_27 : decode xc_RE_pairsLedOnBy 27 = .ok (.iload_n 3, 1) := by decide +kernel
theorem xd_RE_pairsLedOnBy_28 : decode xc_RE_pairsLedOnBy 28 = .ok (.iaload, 1) := by decide +kernel
theorem xd_RE_pairsLedOnBy_29 : decode xc_RE_pairsLedOnBy 29 = .ok (.iload 5, 2) := by decide +kernel
theorem xd_RE_pairsLedOnBy_31 : decode xc_RE_pairsLedOnBy 31 = .ok (.invokestatic 24, 3) := by decide +kernel
theorem xd_RE_pairsLedOnBy_34 : decode xc_RE_pairsLedOnBy 34 = .ok (.ifCond .eq 15, 3) := by decide +kernel
theorem xd_RE_pairsLedOnBy_37 : decode xc_RE_pairsLedOnBy 37 = .ok (.iload 4, 2) := by decide +kernel
theorem xd_RE_pairsLedOnBy_39 : decode xc_RE_pairsLedOnBy 39 = .ok (.aload_n 1, 1) := by decide +kernel
theorem xd_RE_pairsLedOnBy_40 : decode xc_RE_pairsLedOnBy 40 = .ok (.getfield 9, 3) := by decide +kernel
theorem xd_RE_pairsLedOnBy_43 : decode xc_RE_pairsLedOnBy 43 = .ok (.iload 5, 2) := by decide +kernel
theorem xd_RE_pairsLedOnBy_45 : decode xc_RE_pairsLedOnBy 45 = .ok (.iaload, 1) := by decide +kernel
theorem xd_RE_pairsLedOnBy_46 : decode xc_RE_pairsLedOnBy 46 = .ok (.ior, 1) := by decide +kernel
theorem xd_RE_pairsLedOnBy_47 : decode xc_RE_pairsLedOnBy 47 = .ok (.istore 4, 2) := by decide +kernel
theorem xd_RE_pairsLedOnBy_49 : decode xc_RE_pairsLedOnBy 49 = .ok (.iinc 5 1, 3) := by decide +kernel
theorem xd_RE_pairsLedOnBy_52 : decode xc_RE_pairsLedOnBy 52 = .ok (.goto (-36), 3) := by decide +kernel
theorem xd_RE_pairsLedOnBy_55 : decode xc_RE_pairsLedOnBy 55 = .ok (.iload_n 2, 1) := by decide +kernel
theorem xd_RE_pairsLedOnBy_56 : decode xc_RE_pairsLedOnBy 56 = .ok (.iload 4, 2) := by decide +kernel
theorem xd_RE_pairsLedOnBy_58 : decode xc_RE_pairsLedOnBy 58 = .ok (.invokestatic 53, 3) := by decide +kernel
theorem xd_RE_pairsLedOnBy_61 : decode xc_RE_pairsLedOnBy 61 = .ok (.iadd, 1) := by decide +kernel
theorem xd_RE_pairsLedOnBy_62 : decode xc_RE_pairsLedOnBy 62 = .ok (.istore_n 2, 1) := by decide +kernel
theorem xd_RE_pairsLedOnBy_63 : decode xc_RE_pairsLedOnBy 63 = .ok (.iinc 3 1, 3) := by decide +kernel
theorem xd_RE_pairsLedOnBy_66 : decode xc_RE_pairsLedOnBy 66 = .ok (.goto (-62), 3) := by decide +kernel
theorem xd_RE_pairsLedOnBy_69 : decode xc_RE_pairsLedOnBy 69 = .ok (.iload_n 2, 1) := by decide +kernel
theorem xd_RE_pairsLedOnBy_70 : decode xc_RE_pairsLedOnBy 70 = .ok (.ireturn, 1) := by decide +kernel
theorem xd_RE_leastOnCircle_0 : decode xc_RE_leastOnCircle 0 = .ok (.iconst 0, 1) := by decide +kernel
theorem xd_RE_leastOnCircle_1 : decode xc_RE_leastOnCircle 1 = .ok (.istore_n 1, 1) := by decide +kernel
theorem xd_RE_leastOnCircle_2 : decode xc_RE_leastOnCircle 2 = .ok (.iload_n 1, 1) := by decide +kernel
theorem xd_RE_leastOnCircle_3 : decode xc_RE_leastOnCircle 3 = .ok (.bipush 32, 2) := by decide +kernel
theorem xd_RE_leastOnCircle_5 : decode xc_RE_leastOnCircle 5 = .ok (.if_icmp .ge 24, 3) := by decide +kernel
theorem xd_RE_leastOnCircle_8 : decode xc_RE_leastOnCircle 8 = .ok (.aload_n 0, 1) := by decide +kernel
theorem xd_RE_leastOnCircle_9 : decode xc_RE_leastOnCircle 9 = .ok (.getfield 9, 3) := by decide +kernel
theorem xd_RE_leastOnCircle_12 : decode xc_RE_leastOnCircle 12 = .ok (.iload_n 1, 1) := by decide +kernel
theorem xd_RE_leastOnCircle_13 : decode xc_RE_leastOnCircle 13 = .ok (.iaload, 1) := by decide +kernel
theorem xd_RE_leastOnCircle_14 : decode xc_RE_leastOnCircle 14 = .ok (.iload_n 1, 1) := by decide +kernel
theorem xd_RE_leastOnCircle_15 : decode xc_RE_leastOnCircle 15 = .ok (.invokestatic 24, 3) := by decide +kernel
theorem xd_RE_leastOnCircle_18 : decode xc_RE_leastOnCircle 18 = .ok (.ifCond .eq 5, 3) := by decide +kernel
theorem xd_RE_leastOnCircle_21 : decode xc_RE_leastOnCircle 21 = .ok (.iload_n 1, 1) := by decide +kernel
theorem xd_RE_leastOnCircle_22 : decode xc_RE_leastOnCircle 22 = .ok (.ireturn, 1) := by decide +kernel
theorem xd_RE_leastOnCircle_23 : decode xc_RE_leastOnCircle 23 = .ok (.iinc 1 1, 3) := by decide +kernel
theorem xd_RE_leastOnCircle_26 : decode xc_RE_leastOnCircle 26 = .ok (.goto (-24), 3) := by decide +kernel
theorem xd_RE_leastOnCircle_29 : decode xc_RE_leastOnCircle 29 = .ok (.iconst (-1), 1) := by decide +kernel
theorem xd_RE_leastOnCircle_30 : decode xc_RE_leastOnCircle 30 = .ok (.ireturn, 1) := by decide +kernel
theorem xd_RE_richestNode_0 : decode xc_RE_richestNode 0 = .ok (.iconst (-1), 1) := by decide +kernel
theorem xd_RE_richestNode_1 : decode xc_RE_richestNode 1 = .ok (.istore_n 1, 1) := by decide +kernel
theorem xd_RE_richestNode_2 : decode xc_RE_richestNode 2 = .ok (.iconst 0, 1) := by decide +kernel
theorem xd_RE_richestNode_3 : decode xc_RE_richestNode 3 = .ok (.istore_n 2, 1) := by decide +kernel
theorem xd_RE_richestNode_4 : decode xc_RE_richestNode 4 = .ok (.iconst 0, 1) := by decide +kernel
theorem xd_RE_richestNode_5 : decode xc_RE_richestNode 5 = .ok (.istore_n 3, 1) := by decide +kernel
theorem xd_RE_richestNode_6 : decode xc_RE_richestNode 6 = .ok (.iload_n 3, 1) := by decide +kernel
theorem xd_RE_richestNode_7 : decode xc_RE_richestNode 7 = .ok (.bipush 32, 2) := by decide +kernel
theorem xd_RE_richestNode_9 : decode xc_RE_richestNode 9 = .ok (.if_icmp .ge 31, 3) := by decide +kernel
theorem xd_RE_richestNode_12 : decode xc_RE_richestNode 12 = .ok (.aload_n 0, 1) := by decide +kernel
theorem xd_RE_richestNode_13 : decode xc_RE_richestNode 13 = .ok (.getfield 9, 3) := by decide +kernel
theorem xd_RE_richestNode_16 : decode xc_RE_richestNode 16 = .ok (.iload_n 3, 1) := by decide +kernel
theorem xd_RE_richestNode_17 : decode xc_RE_richestNode 17 = .ok (.iaload, 1) := by decide +kernel
theorem xd_RE_richestNode_18 : decode xc_RE_richestNode 18 = .ok (.invokestatic 53, 3) := by decide +kernel
theorem xd_RE_richestNode_21 : decode xc_RE_richestNode 21 = .ok (.istore 4, 2) := by decide +kernel
theorem xd_RE_richestNode_23 : decode xc_RE_richestNode 23 = .ok (.iload 4, 2) := by decide +kernel
theorem xd_RE_richestNode_25 : decode xc_RE_richestNode 25 = .ok (.iload_n 2, 1) := by decide +kernel
theorem xd_RE_richestNode_26 : decode xc_RE_richestNode 26 = .ok (.if_icmp .le 8, 3) := by decide +kernel
theorem xd_RE_richestNode_29 : decode xc_RE_richestNode 29 = .ok (.iload_n 3, 1) := by decide +kernel
theorem xd_RE_richestNode_30 : decode xc_RE_richestNode 30 = .ok (.istore_n 1, 1) := by decide +kernel
theorem xd_RE_richestNode_31 : decode xc_RE_richestNode 31 = .ok (.iload 4, 2) := by decide +kernel
theorem xd_RE_richestNode_33 : decode xc_RE_richestNode 33 = .ok (.istore_n 2, 1) := by decide +kernel
theorem xd_RE_richestNode_34 : decode xc_RE_richestNode 34 = .ok (.iinc 3 1, 3) := by decide +kernel
theorem xd_RE_richestNode_37 : decode xc_RE_richestNode 37 = .ok (.goto (-31), 3) := by decide +kernel
theorem xd_RE_richestNode_40 : decode xc_RE_richestNode 40 = .ok (.iload_n 1, 1) := by decide +kernel
theorem xd_RE_richestNode_41 : decode xc_RE_richestNode 41 = .ok (.ireturn, 1) := by decide +kernel
end
section
theorem xd_EX_init_0 : decode xc_EX_init 0 = .ok (.aload_n 0, 1) := by decide +kernel
theorem xd_EX_init_1 : decode xc_EX_init 1 = .ok (.invokespecial 5, 3) := by decide +kernel
theorem xd_EX_init_4 : decode xc_EX_init 4 = .ok (.aload_n 0, 1) := by decide +kernel
theorem xd_EX_init_5 : decode xc_EX_init 5 = .ok (.sipush 203, 3) := by decide +kernel
theorem xd_EX_init_8 : decode xc_EX_init 8 = .ok (.newarray .int, 2) := by decide +kernel
theorem xd_EX_init_10 : decode xc_EX_init 10 = .ok (.putfield 11, 3) := by decide +kernel
theorem xd_EX_init_13 : decode xc_EX_init 13 = .ok (.aload_n 0, 1) := by decide +kernel
theorem xd_EX_init_14 : decode xc_EX_init 14 = .ok (.iconst 0, 1) := by decide +kernel
theorem xd_EX_init_15 : decode xc_EX_init 15 = .ok (.putfield 15, 3) := by decide +kernel
theorem xd_EX_init_18 : decode xc_EX_init 18 = .ok (.aload_n 0, 1) := by decide +kernel
theorem xd_EX_init_19 : decode xc_EX_init 19 = .ok (.iconst 0, 1) := by decide +kernel
theorem xd_EX_init_20 : decode xc_EX_init 20 = .ok (.putfield 19, 3) := by decide +kernel
theorem xd_EX_init_23 : decode xc_EX_init 23 = .ok (.aload_n 0, 1) := by decide +kernel
theorem xd_EX_init_24 : decode xc_EX_init 24 = .ok (.getfield 11, 3) := by decide +kernel
theorem xd_EX_init_27 : decode xc_EX_init 27 = .ok (.iconst 0, 1) := by decide +kernel
theorem xd_EX_init_28 : decode xc_EX_init 28 = .ok (.iconst 1, 1) := by decide +kernel
theorem xd_EX_init_29 : decode xc_EX_init 29 = .ok (.iastore, 1) := by decide +kernel
theorem xd_EX_init_30 : decode xc_EX_init 30 = .ok (.aload_n 0, 1) := by decide +kernel
theorem xd_EX_init_31 : decode xc_EX_init 31 = .ok (.iconst 1, 1) := by decide +kernel
theorem xd_EX_init_32 : decode xc_EX_init 32 = .ok (.putfield 15, 3) := by decide +kernel
theorem xd_EX_init_35 : decode xc_EX_init 35 = .ok (.return_, 1) := by decide +kernel
theorem xd_EX_clear_0 : decode xc_EX_clear 0 = .ok (.aload_n 0, 1) := by decide +kernel
theorem xd_EX_clear_1 : decode xc_EX_clear 1 = .ok (.iconst 0, 1) := by decide +kernel
theorem xd_EX_clear_2 : decode xc_EX_clear 2 = .ok (.putfield 15, 3) := by decide +kernel
theorem xd_EX_clear_5 : decode xc_EX_clear 5 = .ok (.aload_n 0, 1) := by decide +kernel
theorem xd_EX_clear_6 : decode xc_EX_clear 6 = .ok (.iconst 0, 1) := by decide +kernel
theorem xd_EX_clear_7 : decode xc_EX_clear 7 = .ok (.putfield 19, 3) := by decide +kernel
theorem xd_EX_clear_10 : decode xc_EX_clear 10 = .ok (.return_, 1) := by decide +kernel
theorem xd_EX_append_0 : decode xc_EX_append 0 = .ok (.aload_n 0, 1) := by decide +kernel
theorem xd_EX_append_1 : decode xc_EX_append 1 = .ok (.getfield 15, 3) := by decide +kernel
theorem xd_EX_append_4 : decode xc_EX_append 4 = .ok (.sipush 203, 3) := by decide +kernel
theorem xd_EX_append_7 : decode xc_EX_append 7 = .ok (.if_icmp .ge 27, 3) := by decide +kernel
theorem xd_EX_append_10 : decode xc_EX_append 10 = .ok (.aload_n 0, 1) := by decide +kernel
theorem xd_EX_append_11 : decode xc_EX_append 11 = .ok (.getfield 11, 3) := by decide +kernel
theorem xd_EX_append_14 : decode xc_EX_append 14 = .ok (.aload_n 0, 1) := by decide +kernel
theorem xd_EX_append_15 : decode xc_EX_append 15 = .ok (.getfield 15, 3) := by decide +kernel
theorem xd_EX_append_18 : decode xc_EX_append 18 = .ok (.iload_n 1, 1) := by decide +kernel
theorem xd_EX_append_19 : decode xc_EX_append 19 = .ok (.iload_n 2, 1) := by decide +kernel
theorem xd_EX_append_20 : decode xc_EX_append 20 = .ok (.iconst 4, 1) := by decide +kernel
theorem xd_EX_append_21 : decode xc_EX_append 21 = .ok (.ishl, 1) := by decide +kernel
theorem xd_EX_append_22 : decode xc_EX_append 22 = .ok (.ior, 1) := by decide +kernel
theorem xd_EX_append_23 : decode xc_EX_append 23 = .ok (.iastore, 1) := by decide +kernel
theorem xd_EX_append_24 : decode xc_EX_append 24 = .ok (.aload_n 0, 1) := by decide +kernel
theorem xd_EX_append_25 : decode xc_EX_append 25 = .ok (.dup, 1) := by decide +kernel
theorem xd_EX_append_26 : decode xc_EX_append 26 = .ok (.getfield 15, 3) := by decide +kernel
theorem xd_EX_append_29 : decode xc_EX_append 29 = .ok (.iconst 1, 1) := by decide +kernel
theorem xd_EX_append_30 : decode xc_EX_append 30 = .ok (.iadd, 1) := by decide +kernel
theorem xd_EX_append_31 : decode xc_EX_append 31 = .ok (.putfield 15, 3) := by decide +kernel
theorem xd_EX_append_34 : decode xc_EX_append 34 = .ok (.return_, 1) := by decide +kernel
theorem xd_EX_makeEmptyRow_0 : decode xc_EX_makeEmptyRow 0 = .ok (.aload_n 0, 1) := by decide +kernel
theorem xd_EX_makeEmptyRow_1 : decode xc_EX_makeEmptyRow 1 = .ok (.invokevirtual 22, 3) := by decide +kernel
theorem xd_EX_makeEmptyRow_4 : decode xc_EX_makeEmptyRow 4 = .ok (.aload_n 0, 1) := by decide +kernel
theorem xd_EX_makeEmptyRow_5 : decode xc_EX_makeEmptyRow 5 = .ok (.iconst 1, 1) := by decide +kernel
theorem xd_EX_makeEmptyRow_6 : decode xc_EX_makeEmptyRow 6 = .ok (.iconst 0, 1) := by decide +kernel
theorem xd_EX_makeEmptyRow_7 : decode xc_EX_makeEmptyRow 7 = .ok (.invokevirtual 25, 3) := by decide +kernel
theorem xd_EX_makeEmptyRow_10 : decode xc_EX_makeEmptyRow 10 = .ok (.return_, 1) := by decide +kernel
end
section
theorem xd_RD_init_0 : decode xc_RD_init 0 = .ok (.aload_n 0, 1) := by decide +kernel
theorem xd_RD_init_1 : decode xc_RD_init 1 = .ok (.invokespecial 3, 3) := by decide +kernel
theorem xd_RD_init_4 : decode xc_RD_init 4 = .ok (.aload_n 0, 1) := by decide +kernel
theorem xd_RD_init_5 : decode xc_RD_init 5 = .ok (.bipush 11, 2) := by decide +kernel
theorem xd_RD_init_7 : decode xc_RD_init 7 = .ok (.newarray .int, 2) := by decide +kernel
theorem xd_RD_init_9 : decode xc_RD_init 9 = .ok (.putfield 9, 3) := by decide +kernel
theorem xd_RD_init_12 : decode xc_RD_init 12 = .ok (.aload_n 0, 1) := by decide +kernel
theorem xd_RD_init_13 : decode xc_RD_init 13 = .ok (.new 15, 3) := by decide +kernel
theorem xd_RD_init_16 : decode xc_RD_init 16 = .ok (.dup, 1) := by decide +kernel
theorem xd_RD_init_17 : decode xc_RD_init 17 = .ok (.invokespecial 17, 3) := by decide +kernel
theorem xd_RD_init_20 : decode xc_RD_init 20 = .ok (.putfield 18, 3) := by decide +kernel
theorem xd_RD_init_23 : decode xc_RD_init 23 = .ok (.aload_n 0, 1) := by decide +kernel
theorem xd_RD_init_24 : decode xc_RD_init 24 = .ok (.iconst 0, 1) := by decide +kernel
theorem xd_RD_init_25 : decode xc_RD_init 25 = .ok (.putfield 22, 3) := by decide +kernel
theorem xd_RD_init_28 : decode xc_RD_init 28 = .ok (.aload_n 0, 1) := by decide +kernel
theorem xd_RD_init_29 : decode xc_RD_init 29 = .ok (.iconst 0, 1) := by decide +kernel
theorem xd_RD_init_30 : decode xc_RD_init 30 = .ok (.putfield 26, 3) := by decide +kernel
theorem xd_RD_init_33 : decode xc_RD_init 33 = .ok (.aload_n 0, 1) := by decide +kernel
theorem xd_RD_init_34 : decode xc_RD_init 34 = .ok (.iconst 0, 1) := by decide +kernel
theorem xd_RD_init_35 : decode xc_RD_init 35 = .ok (.putfield 29, 3) := by decide +kernel
theorem xd_RD_init_38 : decode xc_RD_init 38 = .ok (.aload_n 0, 1) := by decide +kernel
theorem xd_RD_init_39 : decode xc_RD_init 39 = .ok (.iconst 0, 1) := by decide +kernel
theorem xd_RD_init_40 : decode xc_RD_init 40 = .ok (.putfield 33, 3) := by decide +kernel
theorem xd_RD_init_43 : decode xc_RD_init 43 = .ok (.aload_n 0, 1) := by decide +kernel
theorem xd_RD_init_44 : decode xc_RD_init 44 = .ok (.iconst 0, 1) := by decide +kernel
theorem xd_RD_init_45 : decode xc_RD_init 45 = .ok (.putfield 36, 3) := by decide +kernel
theorem xd_RD_init_48 : decode xc_RD_init 48 = .ok (.aload_n 0, 1) := by decide +kernel
theorem xd_RD_init_49 : decode xc_RD_init 49 = .ok (.iconst 0, 1) := by decide +kernel
theorem xd_RD_init_50 : decode xc_RD_init 50 = .ok (.putfield 39, 3) := by decide +kernel
theorem xd_RD_init_53 : decode xc_RD_init 53 = .ok (.return_, 1) := by decide +kernel
theorem xd_RD_read_0 : decode xc_RD_read 0 = .ok (.aload_n 0, 1) := by decide +kernel
theorem xd_RD_read_1 : decode xc_RD_read 1 = .ok (.aload_n 3, 1) := by decide +kernel
theorem xd_RD_read_2 : decode xc_RD_read 2 = .ok (.invokevirtual 42, 3) := by decide +kernel
theorem xd_RD_read_5 : decode xc_RD_read 5 = .ok (.iconst 0, 1) := by decide +kernel
theorem xd_RD_read_6 : decode xc_RD_read 6 = .ok (.istore 4, 2) := by decide +kernel
theorem xd_RD_read_8 : decode xc_RD_read 8 = .ok (.iload 4, 2) := by decide +kernel
theorem xd_RD_read_10 : decode xc_RD_read 10 = .ok (.iload_n 2, 1) := by decide +kernel
theorem xd_RD_read_11 : decode xc_RD_read 11 = .ok (.if_icmp .ge 46, 3) := by decide +kernel
theorem xd_RD_read_14 : decode xc_RD_read 14 = .ok (.aload_n 1, 1) := by decide +kernel
theorem xd_RD_read_15 : decode xc_RD_read 15 = .ok (.iload 4, 2) := by decide +kernel
theorem xd_RD_read_17 : decode xc_RD_read 17 = .ok (.iaload, 1) := by decide +kernel
theorem xd_RD_read_18 : decode xc_RD_read 18 = .ok (.istore 5, 2) := by decide +kernel
theorem xd_RD_read_20 : decode xc_RD_read 20 = .ok (.aload_n 0, 1) := by decide +kernel
theorem xd_RD_read_21 : decode xc_RD_read 21 = .ok (.getfield 22, 3) := by decide +kernel
theorem xd_RD_read_24 : decode xc_RD_read 24 = .ok (.ifCond .ne 15, 3) := by decide +kernel
theorem xd_RD_read_27 : decode xc_RD_read 27 = .ok (.aload_n 0, 1) := by decide +kernel
theorem xd_RD_read_28 : decode xc_RD_read 28 = .ok (.iload 5, 2) := by decide +kernel
theorem xd_RD_read_30 : decode xc_RD_read 30 = .ok (.invokevirtual 46, 3) := by decide +kernel
theorem xd_RD_read_33 : decode xc_RD_read 33 = .ok (.ifCond .eq 15, 3) := by decide +kernel
theorem xd_RD_read_36 : decode xc_RD_read 36 = .ok (.goto 15, 3) := by decide +kernel
theorem xd_RD_read_39 : decode xc_RD_read 39 = .ok (.aload_n 0, 1) := by decide +kernel
theorem xd_RD_read_40 : decode xc_RD_read 40 = .ok (.iload 5, 2) := by decide +kernel
theorem xd_RD_read_42 : decode xc_RD_read 42 = .ok (.invokevirtual 50, 3) := by decide +kernel
theorem xd_RD_read_45 : decode xc_RD_read 45 = .ok (.ifCond .ne 6, 3) := by decide +kernel
theorem xd_RD_read_48 : decode xc_RD_read 48 = .ok (.iload 4, 2) := by decide +kernel
theorem xd_RD_read_50 : decode xc_RD_read 50 = .ok (.ireturn, 1) := by decide +kernel
theorem xd_RD_read_51 : decode xc_RD_read 51 = .ok (.iinc 4 1, 3) := by decide +kernel
theorem xd_RD_read_54 : decode xc_RD_read 54 = .ok (.goto (-46), 3) := by decide +kernel
theorem xd_RD_read_57 : decode xc_RD_read 57 = .ok (.aload_n 0, 1) := by decide +kernel
theorem xd_RD_read_58 : decode xc_RD_read 58 = .ok (.getfield 22, 3) := by decide +kernel
theorem xd_RD_read_61 : decode xc_RD_read 61 = .ok (.ifCond .ne 10, 3) := by decide +kernel
theorem xd_RD_read_64 : decode xc_RD_read 64 = .ok (.aload_n 0, 1) := by decide +kernel
theorem xd_RD_read_65 : decode xc_RD_read 65 = .ok (.getfield 26, 3) := by decide +kernel
theorem xd_RD_read_68 : decode xc_RD_read 68 = .ok (.ifCond .le 5, 3) := by decide +kernel
theorem xd_RD_read_71 : decode xc_RD_read 71 = .ok (.iload_n 2, 1) := by decide +kernel
theorem xd_RD_read_72 : decode xc_RD_read 72 = .ok (.ireturn, 1) := by decide +kernel
theorem xd_RD_read_73 : decode xc_RD_read 73 = .ok (.aload_n 0, 1) := by decide +kernel
theorem xd_RD_read_74 : decode xc_RD_read 74 = .ok (.invokevirtual 53, 3) := by decide +kernel
theorem xd_RD_read_77 : decode xc_RD_read 77 = .ok (.aload_n 0, 1) := by decide +kernel
theorem xd_RD_read_78 : decode xc_RD_read 78 = .ok (.getfield 18, 3) := by decide +kernel
theorem xd_RD_read_81 : decode xc_RD_read 81 = .ok (.aload_n 0, 1) := by decide +kernel
theorem xd_RD_read_82 : decode xc_RD_read 82 = .ok (.getfield 9, 3) := by decide +kernel
theorem xd_RD_read_85 : decode xc_RD_read 85 = .ok (.iconst 0, 1) := by decide +kernel
theorem xd_RD_read_86 : decode xc_RD_read 86 = .ok (.iaload, 1) := by decide +kernel
theorem xd_RD_read_87 : decode xc_RD_read 87 = .ok (.putfield 56, 3) := by decide +kernel
theorem xd_RD_read_90 : decode xc_RD_read 90 = .ok (.iconst (-1), 1) := by decide +kernel
theorem xd_RD_read_91 : decode xc_RD_read 91 = .ok (.ireturn, 1) := by decide +kernel
theorem xd_RD_start_0 : decode xc_RD_start 0 = .ok (.aload_n 0, 1) := by decide +kernel
theorem xd_RD_start_1 : decode xc_RD_start 1 = .ok (.aload_n 1, 1) := by decide +kernel
theorem xd_RD_start_2 : decode xc_RD_start 2 = .ok (.putfield 18, 3) := by decide +kernel
theorem xd_RD_start_5 : decode xc_RD_start 5 = .ok (.aload_n 0, 1) := by decide +kernel
theorem xd_RD_start_6 : decode xc_RD_start 6 = .ok (.getfield 18, 3) := by decide +kernel
theorem xd_RD_start_9 : decode xc_RD_start 9 = .ok (.invokevirtual 59, 3) := by decide +kernel
theorem xd_RD_start_12 : decode xc_RD_start 12 = .ok (.aload_n 0, 1) := by decide +kernel
theorem xd_RD_start_13 : decode xc_RD_start 13 = .ok (.iconst 0, 1) := by decide +kernel
theorem xd_RD_start_14 : decode xc_RD_start 14 = .ok (.putfield 22, 3) := by decide +kernel
theorem xd_RD_start_17 : decode xc_RD_start 17 = .ok (.aload_n 0, 1) := by decide +kernel
theorem xd_RD_start_18 : decode xc_RD_start 18 = .ok (.iconst 0, 1) := by decide +kernel
theorem xd_RD_start_19 : decode xc_RD_start 19 = .ok (.putfield 26, 3) := by decide +kernel
theorem xd_RD_start_22 : decode xc_RD_start 22 = .ok (.aload_n 0, 1) := by decide +kernel
theorem xd_RD_start_23 : decode xc_RD_start 23 = .ok (.iconst 0, 1) := by decide +kernel
theorem xd_RD_start_24 : decode xc_RD_start 24 = .ok (.putfield 29, 3) := by decide +kernel
theorem xd_RD_start_27 : decode xc_RD_start 27 = .ok (.aload_n 0, 1) := by decide +kernel
theorem xd_RD_start_28 : decode xc_RD_start 28 = .ok (.invokevirtual 62, 3) := by decide +kernel
theorem xd_RD_start_31 : decode xc_RD_start 31 = .ok (.return_, 1) := by decide +kernel
theorem xd_RD_startAlternative_0 : decode xc_RD_startAlternative 0 = .ok (.aload_n 0, 1) := by decide +kernel
theorem xd_RD_startAlternative_1 : decode xc_RD_startAlternative 1 = .ok (.getfield 9, 3) := by decide +kernel
theorem xd_RD_startAlternative_4 : decode xc_RD_startAlternative 4 = .ok (.aload_n 0, 1) := by decide +kernel
theorem xd_RD_startAlternative_5 : decode xc_RD_startAlternative 5 = .ok (.getfield 26, 3) := by decide +kernel
theorem xd_RD_startAlternative_8 : decode xc_RD_startAlternative 8 = .ok (.iconst 0, 1) := by decide +kernel
theorem xd_RD_startAlternative_9 : decode xc_RD_startAlternative 9 = .ok (.iastore, 1) := by decide +kernel
theorem xd_RD_startAlternative_10 : decode xc_RD_startAlternative 10 = .ok (.aload_n 0, 1) := by decide +kernel
theorem xd_RD_startAlternative_11 : decode xc_RD_startAlternative 11 = .ok (.getfield 18, 3) := by decide +kernel
theorem xd_RD_startAlternative_14 : decode xc_RD_startAlternative 14 = .ok (.iconst 0, 1) := by decide +kernel
theorem xd_RD_startAlternative_15 : decode xc_RD_startAlternative 15 = .ok (.iconst 0, 1) := by decide +kernel
theorem xd_RD_startAlternative_16 : decode xc_RD_startAlternative 16 = .ok (.invokevirtual 91, 3) := by decide +kernel
theorem xd_RD_startAlternative_19 : decode xc_RD_startAlternative 19 = .ok (.aload_n 0, 1) := by decide +kernel
theorem xd_RD_startAlternative_20 : decode xc_RD_startAlternative 20 = .ok (.getfield 18, 3) := by decide +kernel
theorem xd_RD_startAlternative_23 : decode xc_RD_startAlternative 23 = .ok (.iconst 1, 1) := by decide +kernel
theorem xd_RD_startAlternative_24 : decode xc_RD_startAlternative 24 = .ok (.iconst 0, 1) := by decide +kernel
theorem xd_RD_startAlternative_25 : decode xc_RD_startAlternative 25 = .ok (.invokevirtual 91, 3) := by decide +kernel
theorem xd_RD_startAlternative_28 : decode xc_RD_startAlternative 28 = .ok (.return_, 1) := by decide +kernel
theorem xd_RD_takeInRow_0 : decode xc_RD_takeInRow 0 = .ok (.iload_n 1, 1) := by decide +kernel
theorem xd_RD_takeInRow_1 : decode xc_RD_takeInRow 1 = .ok (.lookupswitch 162 #[(40, 83), (41, 88), (42, 120), (43, 127), (63, 134), (91, 114), (94, 108), (123, 141), (124, 93)], 83) := by decide +kernel
theorem xd_RD_takeInRow_84 : decode xc_RD_takeInRow 84 = .ok (.aload_n 0, 1) := by decide +kernel
theorem xd_RD_takeInRow_85 : decode xc_RD_takeInRow 85 = .ok (.invokevirtual 84, 3) := by decide +kernel
theorem xd_RD_takeInRow_88 : decode xc_RD_takeInRow 88 = .ok (.ireturn, 1) := by decide +kernel
theorem xd_RD_takeInRow_89 : decode xc_RD_takeInRow 89 = .ok (.aload_n 0, 1) := by decide +kernel
theorem xd_RD_takeInRow_90 : decode xc_RD_takeInRow 90 = .ok (.invokevirtual 88, 3) := by decide +kernel
theorem xd_RD_takeInRow_93 : decode xc_RD_takeInRow 93 = .ok (.ireturn, 1) := by decide +kernel
theorem xd_RD_takeInRow_94 : decode xc_RD_takeInRow 94 = .ok (.aload_n 0, 1) := by decide +kernel
theorem xd_RD_takeInRow_95 : decode xc_RD_takeInRow 95 = .ok (.invokevirtual 53, 3) := by decide +kernel
theorem xd_RD_takeInRow_98 : decode xc_RD_takeInRow 98 = .ok (.aload_n 0, 1) := by decide +kernel
theorem xd_RD_takeInRow_99 : decode xc_RD_takeInRow 99 = .ok (.getfield 18, 3) := by decide +kernel
theorem xd_RD_takeInRow_102 : decode xc_RD_takeInRow 102 = .ok (.iconst 1, 1) := by decide +kernel
theorem xd_RD_takeInRow_103 : decode xc_RD_takeInRow 103 = .ok (.iconst 0, 1) := by decide +kernel
theorem xd_RD_takeInRow_104 : decode xc_RD_takeInRow 104 = .ok (.invokevirtual 91, 3) := by decide +kernel
theorem xd_RD_takeInRow_107 : decode xc_RD_takeInRow 107 = .ok (.iconst 1, 1) := by decide +kernel
theorem xd_RD_takeInRow_108 : decode xc_RD_takeInRow 108 = .ok (.ireturn, 1) := by decide +kernel
theorem xd_RD_takeInRow_109 : decode xc_RD_takeInRow 109 = .ok (.aload_n 0, 1) := by decide +kernel
theorem xd_RD_takeInRow_110 : decode xc_RD_takeInRow 110 = .ok (.iconst 1, 1) := by decide +kernel
theorem xd_RD_takeInRow_111 : decode xc_RD_takeInRow 111 = .ok (.invokevirtual 69, 3) := by decide +kernel
theorem xd_RD_takeInRow_114 : decode xc_RD_takeInRow 114 = .ok (.ireturn, 1) := by decide +kernel
theorem xd_RD_takeInRow_115 : decode xc_RD_takeInRow 115 = .ok (.aload_n 0, 1) := by decide +kernel
theorem xd_RD_takeInRow_116 : decode xc_RD_takeInRow 116 = .ok (.iconst 2, 1) := by decide +kernel
theorem xd_RD_takeInRow_117 : decode xc_RD_takeInRow 117 = .ok (.invokevirtual 69, 3) := by decide +kernel
theorem xd_RD_takeInRow_120 : decode xc_RD_takeInRow 120 = .ok (.ireturn, 1) := by decide +kernel
theorem xd_RD_takeInRow_121 : decode xc_RD_takeInRow 121 = .ok (.aload_n 0, 1) := by decide +kernel
theorem xd_RD_takeInRow_122 : decode xc_RD_takeInRow 122 = .ok (.bipush 8, 2) := by decide +kernel
theorem xd_RD_takeInRow_124 : decode xc_RD_takeInRow 124 = .ok (.invokevirtual 95, 3) := by decide +kernel
theorem xd_RD_takeInRow_127 : decode xc_RD_takeInRow 127 = .ok (.ireturn, 1) := by decide +kernel
theorem xd_RD_takeInRow_128 : decode xc_RD_takeInRow 128 = .ok (.aload_n 0, 1) := by decide +kernel
theorem xd_RD_takeInRow_129 : decode xc_RD_takeInRow 129 = .ok (.bipush 9, 2) := by decide +kernel
theorem xd_RD_takeInRow_131 : decode xc_RD_takeInRow 131 = .ok (.invokevirtual 95, 3) := by decide +kernel
theorem xd_RD_takeInRow_134 : decode xc_RD_takeInRow 134 = .ok (.ireturn, 1) := by decide +kernel
theorem xd_RD_takeInRow_135 : decode xc_RD_takeInRow 135 = .ok (.aload_n 0, 1) := by decide +kernel
theorem xd_RD_takeInRow_136 : decode xc_RD_takeInRow 136 = .ok (.bipush 10, 2) := by decide +kernel
theorem xd_RD_takeInRow_138 : decode xc_RD_takeInRow 138 = .ok (.invokevirtual 95, 3) := by decide +kernel
theorem xd_RD_takeInRow_141 : decode xc_RD_takeInRow 141 = .ok (.ireturn, 1) := by decide +kernel
theorem xd_RD_takeInRow_142 : decode xc_RD_takeInRow 142 = .ok (.aload_n 0, 1) := by decide +kernel
theorem xd_RD_takeInRow_143 : decode xc_RD_takeInRow 143 = .ok (.getfield 29, 3) := by decide +kernel
theorem xd_RD_takeInRow_146 : decode xc_RD_takeInRow 146 = .ok (.ifCond .eq 15, 3) := by decide +kernel
theorem xd_RD_takeInRow_149 : decode xc_RD_takeInRow 149 = .ok (.aload_n 0, 1) := by decide +kernel
theorem xd_RD_takeInRow_150 : decode xc_RD_takeInRow 150 = .ok (.iconst 5, 1) := by decide +kernel
theorem xd_RD_takeInRow_151 : decode xc_RD_takeInRow 151 = .ok (.invokevirtual 69, 3) := by decide +kernel
theorem xd_RD_takeInRow_154 : decode xc_RD_takeInRow 154 = .ok (.ifCond .eq 7, 3) := by decide +kernel
theorem xd_RD_takeInRow_157 : decode xc_RD_takeInRow 157 = .ok (.iconst 1, 1) := by decide +kernel
theorem xd_RD_takeInRow_158 : decode xc_RD_takeInRow 158 = .ok (.goto 4, 3) := by decide +kernel
theorem xd_RD_takeInRow_161 : decode xc_RD_takeInRow 161 = .ok (.iconst 0, 1) := by decide +kernel
theorem xd_RD_takeInRow_162 : decode xc_RD_takeInRow 162 = .ok (.ireturn, 1) := by decide +kernel
theorem xd_RD_takeInRow_163 : decode xc_RD_takeInRow 163 = .ok (.aload_n 0, 1) := by decide +kernel
theorem xd_RD_takeInRow_164 : decode xc_RD_takeInRow 164 = .ok (.iload_n 1, 1) := by decide +kernel
theorem xd_RD_takeInRow_165 : decode xc_RD_takeInRow 165 = .ok (.iconst 2, 1) := by decide +kernel
theorem xd_RD_takeInRow_166 : decode xc_RD_takeInRow 166 = .ok (.invokevirtual 65, 3) := by decide +kernel
theorem xd_RD_takeInRow_169 : decode xc_RD_takeInRow 169 = .ok (.ireturn, 1) := by decide +kernel
theorem xd_RD_openGroup_0 : decode xc_RD_openGroup 0 = .ok (.aload_n 0, 1) := by decide +kernel
theorem xd_RD_openGroup_1 : decode xc_RD_openGroup 1 = .ok (.getfield 26, 3) := by decide +kernel
theorem xd_RD_openGroup_4 : decode xc_RD_openGroup 4 = .ok (.bipush 10, 2) := by decide +kernel
theorem xd_RD_openGroup_6 : decode xc_RD_openGroup 6 = .ok (.if_icmp .ne 5, 3) := by decide +kernel
theorem xd_RD_openGroup_9 : decode xc_RD_openGroup 9 = .ok (.iconst 0, 1) := by decide +kernel
theorem xd_RD_openGroup_10 : decode xc_RD_openGroup 10 = .ok (.ireturn, 1) := by decide +kernel
theorem xd_RD_openGroup_11 : decode xc_RD_openGroup 11 = .ok (.aload_n 0, 1) := by decide +kernel
theorem xd_RD_openGroup_12 : decode xc_RD_openGroup 12 = .ok (.invokevirtual 110, 3) := by decide +kernel
theorem xd_RD_openGroup_15 : decode xc_RD_openGroup 15 = .ok (.aload_n 0, 1) := by decide +kernel
theorem xd_RD_openGroup_16 : decode xc_RD_openGroup 16 = .ok (.dup, 1) := by decide +kernel
theorem xd_RD_openGroup_17 : decode xc_RD_openGroup 17 = .ok (.getfield 26, 3) := by decide +kernel
theorem xd_RD_openGroup_20 : decode xc_RD_openGroup 20 = .ok (.iconst 1, 1) := by decide +kernel
theorem xd_RD_openGroup_21 : decode xc_RD_openGroup 21 = .ok (.iadd, 1) := by decide +kernel
theorem xd_RD_openGroup_22 : decode xc_RD_openGroup 22 = .ok (.putfield 26, 3) := by decide +kernel
theorem xd_RD_openGroup_25 : decode xc_RD_openGroup 25 = .ok (.aload_n 0, 1) := by decide +kernel
theorem xd_RD_openGroup_26 : decode xc_RD_openGroup 26 = .ok (.invokevirtual 62, 3) := by decide +kernel
theorem xd_RD_openGroup_29 : decode xc_RD_openGroup 29 = .ok (.iconst 1, 1) := by decide +kernel
theorem xd_RD_openGroup_30 : decode xc_RD_openGroup 30 = .ok (.ireturn, 1) := by decide +kernel
theorem xd_RD_endRepeat_0 : decode xc_RD_endRepeat 0 = .ok (.aload_n 0, 1) := by decide +kernel
theorem xd_RD_endRepeat_1 : decode xc_RD_endRepeat 1 = .ok (.getfield 29, 3) := by decide +kernel
theorem xd_RD_endRepeat_4 : decode xc_RD_endRepeat 4 = .ok (.ifCond .eq 46, 3) := by decide +kernel
theorem xd_RD_endRepeat_7 : decode xc_RD_endRepeat 7 = .ok (.aload_n 0, 1) := by decide +kernel
theorem xd_RD_endRepeat_8 : decode xc_RD_endRepeat 8 = .ok (.getfield 18, 3) := by decide +kernel
theorem xd_RD_endRepeat_11 : decode xc_RD_endRepeat 11 = .ok (.bipush 6, 2) := by decide +kernel
theorem xd_RD_endRepeat_13 : decode xc_RD_endRepeat 13 = .ok (.iconst 0, 1) := by decide +kernel
theorem xd_RD_endRepeat_14 : decode xc_RD_endRepeat 14 = .ok (.invokevirtual 91, 3) := by decide +kernel
theorem xd_RD_endRepeat_17 : decode xc_RD_endRepeat 17 = .ok (.aload_n 0, 1) := by decide +kernel
theorem xd_RD_endRepeat_18 : decode xc_RD_endRepeat 18 = .ok (.getfield 9, 3) := by decide +kernel
theorem xd_RD_endRepeat_21 : decode xc_RD_endRepeat 21 = .ok (.aload_n 0, 1) := by decide +kernel
theorem xd_RD_endRepeat_22 : decode xc_RD_endRepeat 22 = .ok (.getfield 26, 3) := by decide +kernel
theorem xd_RD_endRepeat_25 : decode xc_RD_endRepeat 25 = .ok (.aload_n 0, 1) := by decide +kernel
theorem xd_RD_endRepeat_26 : decode xc_RD_endRepeat 26 = .ok (.getfield 9, 3) := by decide +kernel
theorem xd_RD_endRepeat_29 : decode xc_RD_endRepeat 29 = .ok (.aload_n 0, 1) := by decide +kernel
theorem xd_RD_endRepeat_30 : decode xc_RD_endRepeat 30 = .ok (.getfield 26, 3) := by decide +kernel
theorem xd_RD_endRepeat_33 : decode xc_RD_endRepeat 33 = .ok (.iaload, 1) := by decide +kernel
theorem xd_RD_endRepeat_34 : decode xc_RD_endRepeat 34 = .ok (.aload_n 0, 1) := by decide +kernel
theorem xd_RD_endRepeat_35 : decode xc_RD_endRepeat 35 = .ok (.getfield 33, 3) := by decide +kernel
theorem xd_RD_endRepeat_38 : decode xc_RD_endRepeat 38 = .ok (.iadd, 1) := by decide +kernel
theorem xd_RD_endRepeat_39 : decode xc_RD_endRepeat 39 = .ok (.bipush 81, 2) := by decide +kernel
theorem xd_RD_endRepeat_41 : decode xc_RD_endRepeat 41 = .ok (.invokestatic 104, 3) := by decide +kernel
theorem xd_RD_endRepeat_44 : decode xc_RD_endRepeat 44 = .ok (.iastore, 1) := by decide +kernel
theorem xd_RD_endRepeat_45 : decode xc_RD_endRepeat 45 = .ok (.aload_n 0, 1) := by decide +kernel
theorem xd_RD_endRepeat_46 : decode xc_RD_endRepeat 46 = .ok (.iconst 0, 1) := by decide +kernel
theorem xd_RD_endRepeat_47 : decode xc_RD_endRepeat 47 = .ok (.putfield 29, 3) := by decide +kernel
theorem xd_RD_endRepeat_50 : decode xc_RD_endRepeat 50 = .ok (.return_, 1) := by decide +kernel
theorem xd_RD_closeGroup_0 : decode xc_RD_closeGroup 0 = .ok (.aload_n 0, 1) := by decide +kernel
theorem xd_RD_closeGroup_1 : decode xc_RD_closeGroup 1 = .ok (.getfield 26, 3) := by decide +kernel
theorem xd_RD_closeGroup_4 : decode xc_RD_closeGroup 4 = .ok (.ifCond .ne 5, 3) := by decide +kernel
theorem xd_RD_closeGroup_7 : decode xc_RD_closeGroup 7 = .ok (.iconst 0, 1) := by decide +kernel
theorem xd_RD_closeGroup_8 : decode xc_RD_closeGroup 8 = .ok (.ireturn, 1) := by decide +kernel
theorem xd_RD_closeGroup_9 : decode xc_RD_closeGroup 9 = .ok (.aload_n 0, 1) := by decide +kernel
theorem xd_RD_closeGroup_10 : decode xc_RD_closeGroup 10 = .ok (.invokevirtual 53, 3) := by decide +kernel
theorem xd_RD_closeGroup_13 : decode xc_RD_closeGroup 13 = .ok (.aload_n 0, 1) := by decide +kernel
theorem xd_RD_closeGroup_14 : decode xc_RD_closeGroup 14 = .ok (.aload_n 0, 1) := by decide +kernel
theorem xd_RD_closeGroup_15 : decode xc_RD_closeGroup 15 = .ok (.getfield 9, 3) := by decide +kernel
theorem xd_RD_closeGroup_18 : decode xc_RD_closeGroup 18 = .ok (.aload_n 0, 1) := by decide +kernel
theorem xd_RD_closeGroup_19 : decode xc_RD_closeGroup 19 = .ok (.getfield 26, 3) := by decide +kernel
theorem xd_RD_closeGroup_22 : decode xc_RD_closeGroup 22 = .ok (.iaload, 1) := by decide +kernel
theorem xd_RD_closeGroup_23 : decode xc_RD_closeGroup 23 = .ok (.invokevirtual 113, 3) := by decide +kernel
theorem xd_RD_closeGroup_26 : decode xc_RD_closeGroup 26 = .ok (.aload_n 0, 1) := by decide +kernel
theorem xd_RD_closeGroup_27 : decode xc_RD_closeGroup 27 = .ok (.dup, 1) := by decide +kernel
theorem xd_RD_closeGroup_28 : decode xc_RD_closeGroup 28 = .ok (.getfield 26, 3) := by decide +kernel
theorem xd_RD_closeGroup_31 : decode xc_RD_closeGroup 31 = .ok (.iconst 1, 1) := by decide +kernel
theorem xd_RD_closeGroup_32 : decode xc_RD_closeGroup 32 = .ok (.isub, 1) := by decide +kernel
theorem xd_RD_closeGroup_33 : decode xc_RD_closeGroup 33 = .ok (.putfield 26, 3) := by decide +kernel
theorem xd_RD_closeGroup_36 : decode xc_RD_closeGroup 36 = .ok (.iconst 1, 1) := by decide +kernel
theorem xd_RD_closeGroup_37 : decode xc_RD_closeGroup 37 = .ok (.ireturn, 1) := by decide +kernel
theorem xd_RD_endRow_0 : decode xc_RD_endRow 0 = .ok (.aload_n 0, 1) := by decide +kernel
theorem xd_RD_endRow_1 : decode xc_RD_endRow 1 = .ok (.invokevirtual 110, 3) := by decide +kernel
theorem xd_RD_endRow_4 : decode xc_RD_endRow 4 = .ok (.aload_n 0, 1) := by decide +kernel
theorem xd_RD_endRow_5 : decode xc_RD_endRow 5 = .ok (.getfield 18, 3) := by decide +kernel
theorem xd_RD_endRow_8 : decode xc_RD_endRow 8 = .ok (.bipush 7, 2) := by decide +kernel
theorem xd_RD_endRow_10 : decode xc_RD_endRow 10 = .ok (.iconst 0, 1) := by decide +kernel
theorem xd_RD_endRow_11 : decode xc_RD_endRow 11 = .ok (.invokevirtual 91, 3) := by decide +kernel
theorem xd_RD_endRow_14 : decode xc_RD_endRow 14 = .ok (.return_, 1) := by decide +kernel
theorem xd_RD_startRepeat_0 : decode xc_RD_startRepeat 0 = .ok (.aload_n 0, 1) := by decide +kernel
theorem xd_RD_startRepeat_1 : decode xc_RD_startRepeat 1 = .ok (.iconst 1, 1) := by decide +kernel
theorem xd_RD_startRepeat_2 : decode xc_RD_startRepeat 2 = .ok (.putfield 29, 3) := by decide +kernel
theorem xd_RD_startRepeat_5 : decode xc_RD_startRepeat 5 = .ok (.aload_n 0, 1) := by decide +kernel
theorem xd_RD_startRepeat_6 : decode xc_RD_startRepeat 6 = .ok (.iload_n 1, 1) := by decide +kernel
theorem xd_RD_startRepeat_7 : decode xc_RD_startRepeat 7 = .ok (.putfield 33, 3) := by decide +kernel
theorem xd_RD_startRepeat_10 : decode xc_RD_startRepeat 10 = .ok (.return_, 1) := by decide +kernel
theorem xd_RD_goOnTo_0 : decode xc_RD_goOnTo 0 = .ok (.aload_n 0, 1) := by decide +kernel
theorem xd_RD_goOnTo_1 : decode xc_RD_goOnTo 1 = .ok (.iload_n 1, 1) := by decide +kernel
theorem xd_RD_goOnTo_2 : decode xc_RD_goOnTo 2 = .ok (.putfield 22, 3) := by decide +kernel
theorem xd_RD_goOnTo_5 : decode xc_RD_goOnTo 5 = .ok (.iconst 1, 1) := by decide +kernel
theorem xd_RD_goOnTo_6 : decode xc_RD_goOnTo 6 = .ok (.ireturn, 1) := by decide +kernel
theorem xd_RD_changeRepeat_0 : decode xc_RD_changeRepeat 0 = .ok (.aload_n 0, 1) := by decide +kernel
theorem xd_RD_changeRepeat_1 : decode xc_RD_changeRepeat 1 = .ok (.getfield 29, 3) := by decide +kernel
theorem xd_RD_changeRepeat_4 : decode xc_RD_changeRepeat 4 = .ok (.ifCond .eq 12, 3) := by decide +kernel
theorem xd_RD_changeRepeat_7 : decode xc_RD_changeRepeat 7 = .ok (.aload_n 0, 1) := by decide +kernel
theorem xd_RD_changeRepeat_8 : decode xc_RD_changeRepeat 8 = .ok (.getfield 18, 3) := by decide +kernel
theorem xd_RD_changeRepeat_11 : decode xc_RD_changeRepeat 11 = .ok (.iload_n 1, 1) := by decide +kernel
theorem xd_RD_changeRepeat_12 : decode xc_RD_changeRepeat 12 = .ok (.iconst 0, 1) := by decide +kernel
theorem xd_RD_changeRepeat_13 : decode xc_RD_changeRepeat 13 = .ok (.invokevirtual 91, 3) := by decide +kernel
theorem xd_RD_changeRepeat_16 : decode xc_RD_changeRepeat 16 = .ok (.aload_n 0, 1) := by decide +kernel
theorem xd_RD_changeRepeat_17 : decode xc_RD_changeRepeat 17 = .ok (.getfield 29, 3) := by decide +kernel
theorem xd_RD_changeRepeat_20 : decode xc_RD_changeRepeat 20 = .ok (.ireturn, 1) := by decide +kernel
theorem xd_RD_takeStep_0 : decode xc_RD_takeStep 0 = .ok (.iload_n 1, 1) := by decide +kernel
theorem xd_RD_takeStep_1 : decode xc_RD_takeStep 1 = .ok (.bipush 46, 2) := by decide +kernel
theorem xd_RD_takeStep_3 : decode xc_RD_takeStep 3 = .ok (.if_icmp .ne 17, 3) := by decide +kernel
theorem xd_RD_takeStep_6 : decode xc_RD_takeStep 6 = .ok (.aload_n 0, 1) := by decide +kernel
theorem xd_RD_takeStep_7 : decode xc_RD_takeStep 7 = .ok (.iload_n 2, 1) := by decide +kernel
theorem xd_RD_takeStep_8 : decode xc_RD_takeStep 8 = .ok (.sipush 255, 3) := by decide +kernel
theorem xd_RD_takeStep_11 : decode xc_RD_takeStep 11 = .ok (.invokevirtual 98, 3) := by decide +kernel
theorem xd_RD_takeStep_14 : decode xc_RD_takeStep 14 = .ok (.aload_n 0, 1) := by decide +kernel
theorem xd_RD_takeStep_15 : decode xc_RD_takeStep 15 = .ok (.iconst 0, 1) := by decide +kernel
theorem xd_RD_takeStep_16 : decode xc_RD_takeStep 16 = .ok (.invokevirtual 69, 3) := by decide +kernel
theorem xd_RD_takeStep_19 : decode xc_RD_takeStep 19 = .ok (.ireturn, 1) := by decide +kernel
theorem xd_RD_takeStep_20 : decode xc_RD_takeStep 20 = .ok (.iload_n 1, 1) := by decide +kernel
theorem xd_RD_takeStep_21 : decode xc_RD_takeStep 21 = .ok (.bipush 97, 2) := by decide +kernel
theorem xd_RD_takeStep_23 : decode xc_RD_takeStep 23 = .ok (.isub, 1) := by decide +kernel
theorem xd_RD_takeStep_24 : decode xc_RD_takeStep 24 = .ok (.istore_n 3, 1) := by decide +kernel
theorem xd_RD_takeStep_25 : decode xc_RD_takeStep 25 = .ok (.iload_n 3, 1) := by decide +kernel
theorem xd_RD_takeStep_26 : decode xc_RD_takeStep 26 = .ok (.ifCond .lt 9, 3) := by decide +kernel
theorem xd_RD_takeStep_29 : decode xc_RD_takeStep 29 = .ok (.iload_n 3, 1) := by decide +kernel
theorem xd_RD_takeStep_30 : decode xc_RD_takeStep 30 = .ok (.bipush 8, 2) := by decide +kernel
theorem xd_RD_takeStep_32 : decode xc_RD_takeStep 32 = .ok (.if_icmp .lt 5, 3) := by decide +kernel
theorem xd_RD_takeStep_35 : decode xc_RD_takeStep 35 = .ok (.iconst 0, 1) := by decide +kernel
theorem xd_RD_takeStep_36 : decode xc_RD_takeStep 36 = .ok (.ireturn, 1) := by decide +kernel
theorem xd_RD_takeStep_37 : decode xc_RD_takeStep 37 = .ok (.aload_n 0, 1) := by decide +kernel
theorem xd_RD_takeStep_38 : decode xc_RD_takeStep 38 = .ok (.iload_n 2, 1) := by decide +kernel
theorem xd_RD_takeStep_39 : decode xc_RD_takeStep 39 = .ok (.iconst 1, 1) := by decide +kernel
theorem xd_RD_takeStep_40 : decode xc_RD_takeStep 40 = .ok (.iload_n 3, 1) := by decide +kernel
theorem xd_RD_takeStep_41 : decode xc_RD_takeStep 41 = .ok (.ishl, 1) := by decide +kernel
theorem xd_RD_takeStep_42 : decode xc_RD_takeStep 42 = .ok (.invokevirtual 98, 3) := by decide +kernel
theorem xd_RD_takeStep_45 : decode xc_RD_takeStep 45 = .ok (.aload_n 0, 1) := by decide +kernel
theorem xd_RD_takeStep_46 : decode xc_RD_takeStep 46 = .ok (.iconst 0, 1) := by decide +kernel
theorem xd_RD_takeStep_47 : decode xc_RD_takeStep 47 = .ok (.invokevirtual 69, 3) := by decide +kernel
theorem xd_RD_takeStep_50 : decode xc_RD_takeStep 50 = .ok (.ireturn, 1) := by decide +kernel
theorem xd_RD_addStep_0 : decode xc_RD_addStep 0 = .ok (.aload_n 0, 1) := by decide +kernel
theorem xd_RD_addStep_1 : decode xc_RD_addStep 1 = .ok (.invokevirtual 110, 3) := by decide +kernel
theorem xd_RD_addStep_4 : decode xc_RD_addStep 4 = .ok (.aload_n 0, 1) := by decide +kernel
theorem xd_RD_addStep_5 : decode xc_RD_addStep 5 = .ok (.getfield 18, 3) := by decide +kernel
theorem xd_RD_addStep_8 : decode xc_RD_addStep 8 = .ok (.iload_n 1, 1) := by decide +kernel
theorem xd_RD_addStep_9 : decode xc_RD_addStep 9 = .ok (.iload_n 2, 1) := by decide +kernel
theorem xd_RD_addStep_10 : decode xc_RD_addStep 10 = .ok (.invokevirtual 91, 3) := by decide +kernel
theorem xd_RD_addStep_13 : decode xc_RD_addStep 13 = .ok (.aload_n 0, 1) := by decide +kernel
theorem xd_RD_addStep_14 : decode xc_RD_addStep 14 = .ok (.iconst 1, 1) := by decide +kernel
theorem xd_RD_addStep_15 : decode xc_RD_addStep 15 = .ok (.invokevirtual 113, 3) := by decide +kernel
theorem xd_RD_addStep_18 : decode xc_RD_addStep 18 = .ok (.return_, 1) := by decide +kernel
theorem xd_RD_takeInside_0 : decode xc_RD_takeInside 0 = .ok (.aload_n 0, 1) := by decide +kernel
theorem xd_RD_takeInside_1 : decode xc_RD_takeInside 1 = .ok (.getfield 22, 3) := by decide +kernel
theorem xd_RD_takeInside_4 : decode xc_RD_takeInside 4 = .ok (.tableswitch 132 1 7 #[44, 51, 72, 79, 99, 105, 126], 44) := by decide +kernel
theorem xd_RD_takeInside_48 : decode xc_RD_takeInside 48 = .ok (.aload_n 0, 1) := by decide +kernel
theorem xd_RD_takeInside_49 : decode xc_RD_takeInside 49 = .ok (.iload_n 1, 1) := by decide +kernel
theorem xd_RD_takeInside_50 : decode xc_RD_takeInside 50 = .ok (.iconst 3, 1) := by decide +kernel
theorem xd_RD_takeInside_51 : decode xc_RD_takeInside 51 = .ok (.invokevirtual 65, 3) := by decide +kernel
theorem xd_RD_takeInside_54 : decode xc_RD_takeInside 54 = .ok (.ireturn, 1) := by decide +kernel
theorem xd_RD_takeInside_55 : decode xc_RD_takeInside 55 = .ok (.iload_n 1, 1) := by decide +kernel
theorem xd_RD_takeInside_56 : decode xc_RD_takeInside 56 = .ok (.bipush 33, 2) := by decide +kernel
theorem xd_RD_takeInside_58 : decode xc_RD_takeInside 58 = .ok (.if_icmp .ne 11, 3) := by decide +kernel
theorem xd_RD_takeInside_61 : decode xc_RD_takeInside 61 = .ok (.aload_n 0, 1) := by decide +kernel
theorem xd_RD_takeInside_62 : decode xc_RD_takeInside 62 = .ok (.iconst 3, 1) := by decide +kernel
theorem xd_RD_takeInside_63 : decode xc_RD_takeInside 63 = .ok (.invokevirtual 69, 3) := by decide +kernel
theorem xd_RD_takeInside_66 : decode xc_RD_takeInside 66 = .ok (.goto 9, 3) := by decide +kernel
theorem xd_RD_takeInside_69 : decode xc_RD_takeInside 69 = .ok (.aload_n 0, 1) := by decide +kernel
theorem xd_RD_takeInside_70 : decode xc_RD_takeInside 70 = .ok (.iload_n 1, 1) := by decide +kernel
theorem xd_RD_takeInside_71 : decode xc_RD_takeInside 71 = .ok (.iconst 4, 1) := by decide +kernel
theorem xd_RD_takeInside_72 : decode xc_RD_takeInside 72 = .ok (.invokevirtual 72, 3) := by decide +kernel
theorem xd_RD_takeInside_75 : decode xc_RD_takeInside 75 = .ok (.ireturn, 1) := by decide +kernel
theorem xd_RD_takeInside_76 : decode xc_RD_takeInside 76 = .ok (.aload_n 0, 1) := by decide +kernel
theorem xd_RD_takeInside_77 : decode xc_RD_takeInside 77 = .ok (.iload_n 1, 1) := by decide +kernel
theorem xd_RD_takeInside_78 : decode xc_RD_takeInside 78 = .ok (.iconst 5, 1) := by decide +kernel
theorem xd_RD_takeInside_79 : decode xc_RD_takeInside 79 = .ok (.invokevirtual 72, 3) := by decide +kernel
theorem xd_RD_takeInside_82 : decode xc_RD_takeInside 82 = .ok (.ireturn, 1) := by decide +kernel
theorem xd_RD_takeInside_83 : decode xc_RD_takeInside 83 = .ok (.iload_n 1, 1) := by decide +kernel
theorem xd_RD_takeInside_84 : decode xc_RD_takeInside 84 = .ok (.bipush 93, 2) := by decide +kernel
theorem xd_RD_takeInside_86 : decode xc_RD_takeInside 86 = .ok (.if_icmp .ne 15, 3) := by decide +kernel
theorem xd_RD_takeInside_89 : decode xc_RD_takeInside 89 = .ok (.aload_n 0, 1) := by decide +kernel
theorem xd_RD_takeInside_90 : decode xc_RD_takeInside 90 = .ok (.iconst 0, 1) := by decide +kernel
theorem xd_RD_takeInside_91 : decode xc_RD_takeInside 91 = .ok (.invokevirtual 69, 3) := by decide +kernel
theorem xd_RD_takeInside_94 : decode xc_RD_takeInside 94 = .ok (.ifCond .eq 7, 3) := by decide +kernel
theorem xd_RD_takeInside_97 : decode xc_RD_takeInside 97 = .ok (.iconst 1, 1) := by decide +kernel
theorem xd_RD_takeInside_98 : decode xc_RD_takeInside 98 = .ok (.goto 4, 3) := by decide +kernel
theorem xd_RD_takeInside_101 : decode xc_RD_takeInside 101 = .ok (.iconst 0, 1) := by decide +kernel
theorem xd_RD_takeInside_102 : decode xc_RD_takeInside 102 = .ok (.ireturn, 1) := by decide +kernel
theorem xd_RD_takeInside_103 : decode xc_RD_takeInside 103 = .ok (.aload_n 0, 1) := by decide +kernel
theorem xd_RD_takeInside_104 : decode xc_RD_takeInside 104 = .ok (.iload_n 1, 1) := by decide +kernel
theorem xd_RD_takeInside_105 : decode xc_RD_takeInside 105 = .ok (.invokevirtual 75, 3) := by decide +kernel
theorem xd_RD_takeInside_108 : decode xc_RD_takeInside 108 = .ok (.ireturn, 1) := by decide +kernel
theorem xd_RD_takeInside_109 : decode xc_RD_takeInside 109 = .ok (.iload_n 1, 1) := by decide +kernel
theorem xd_RD_takeInside_110 : decode xc_RD_takeInside 110 = .ok (.bipush 44, 2) := by decide +kernel
theorem xd_RD_takeInside_112 : decode xc_RD_takeInside 112 = .ok (.if_icmp .ne 12, 3) := by decide +kernel
theorem xd_RD_takeInside_115 : decode xc_RD_takeInside 115 = .ok (.aload_n 0, 1) := by decide +kernel
theorem xd_RD_takeInside_116 : decode xc_RD_takeInside 116 = .ok (.bipush 7, 2) := by decide +kernel
theorem xd_RD_takeInside_118 : decode xc_RD_takeInside 118 = .ok (.invokevirtual 69, 3) := by decide +kernel
theorem xd_RD_takeInside_121 : decode xc_RD_takeInside 121 = .ok (.goto 8, 3) := by decide +kernel
theorem xd_RD_takeInside_124 : decode xc_RD_takeInside 124 = .ok (.aload_n 0, 1) := by decide +kernel
theorem xd_RD_takeInside_125 : decode xc_RD_takeInside 125 = .ok (.iload_n 1, 1) := by decide +kernel
theorem xd_RD_takeInside_126 : decode xc_RD_takeInside 126 = .ok (.invokevirtual 78, 3) := by decide +kernel
theorem xd_RD_takeInside_129 : decode xc_RD_takeInside 129 = .ok (.ireturn, 1) := by decide +kernel
theorem xd_RD_takeInside_130 : decode xc_RD_takeInside 130 = .ok (.aload_n 0, 1) := by decide +kernel
theorem xd_RD_takeInside_131 : decode xc_RD_takeInside 131 = .ok (.iload_n 1, 1) := by decide +kernel
theorem xd_RD_takeInside_132 : decode xc_RD_takeInside 132 = .ok (.invokevirtual 81, 3) := by decide +kernel
theorem xd_RD_takeInside_135 : decode xc_RD_takeInside 135 = .ok (.ireturn, 1) := by decide +kernel
theorem xd_RD_takeInside_136 : decode xc_RD_takeInside 136 = .ok (.aload_n 0, 1) := by decide +kernel
theorem xd_RD_takeInside_137 : decode xc_RD_takeInside 137 = .ok (.iload_n 1, 1) := by decide +kernel
theorem xd_RD_takeInside_138 : decode xc_RD_takeInside 138 = .ok (.invokevirtual 78, 3) := by decide +kernel
theorem xd_RD_takeInside_141 : decode xc_RD_takeInside 141 = .ok (.ireturn, 1) := by decide +kernel
theorem xd_RD_takeTag_0 : decode xc_RD_takeTag 0 = .ok (.iload_n 1, 1) := by decide +kernel
theorem xd_RD_takeTag_1 : decode xc_RD_takeTag 1 = .ok (.bipush 48, 2) := by decide +kernel
theorem xd_RD_takeTag_3 : decode xc_RD_takeTag 3 = .ok (.isub, 1) := by decide +kernel
theorem xd_RD_takeTag_4 : decode xc_RD_takeTag 4 = .ok (.istore_n 3, 1) := by decide +kernel
theorem xd_RD_takeTag_5 : decode xc_RD_takeTag 5 = .ok (.iload_n 3, 1) := by decide +kernel
theorem xd_RD_takeTag_6 : decode xc_RD_takeTag 6 = .ok (.ifCond .lt 8, 3) := by decide +kernel
theorem xd_RD_takeTag_9 : decode xc_RD_takeTag 9 = .ok (.iload_n 3, 1) := by decide +kernel
theorem xd_RD_takeTag_10 : decode xc_RD_takeTag 10 = .ok (.iconst 4, 1) := by decide +kernel
theorem xd_RD_takeTag_11 : decode xc_RD_takeTag 11 = .ok (.if_icmp .lt 5, 3) := by decide +kernel
theorem xd_RD_takeTag_14 : decode xc_RD_takeTag 14 = .ok (.iconst 0, 1) := by decide +kernel
theorem xd_RD_takeTag_15 : decode xc_RD_takeTag 15 = .ok (.ireturn, 1) := by decide +kernel
theorem xd_RD_takeTag_16 : decode xc_RD_takeTag 16 = .ok (.aload_n 0, 1) := by decide +kernel
theorem xd_RD_takeTag_17 : decode xc_RD_takeTag 17 = .ok (.iload_n 2, 1) := by decide +kernel
theorem xd_RD_takeTag_18 : decode xc_RD_takeTag 18 = .ok (.iload_n 3, 1) := by decide +kernel
theorem xd_RD_takeTag_19 : decode xc_RD_takeTag 19 = .ok (.invokevirtual 98, 3) := by decide +kernel
theorem xd_RD_takeTag_22 : decode xc_RD_takeTag 22 = .ok (.aload_n 0, 1) := by decide +kernel
theorem xd_RD_takeTag_23 : decode xc_RD_takeTag 23 = .ok (.iconst 4, 1) := by decide +kernel
theorem xd_RD_takeTag_24 : decode xc_RD_takeTag 24 = .ok (.invokevirtual 69, 3) := by decide +kernel
theorem xd_RD_takeTag_27 : decode xc_RD_takeTag 27 = .ok (.ireturn, 1) := by decide +kernel
theorem xd_RD_takeLeast_0 : decode xc_RD_takeLeast 0 = .ok (.iload_n 1, 1) := by decide +kernel
theorem xd_RD_takeLeast_1 : decode xc_RD_takeLeast 1 = .ok (.invokestatic 101, 3) := by decide +kernel
theorem xd_RD_takeLeast_4 : decode xc_RD_takeLeast 4 = .ok (.ifCond .ne 5, 3) := by decide +kernel
theorem xd_RD_takeLeast_7 : decode xc_RD_takeLeast 7 = .ok (.iconst 0, 1) := by decide +kernel
theorem xd_RD_takeLeast_8 : decode xc_RD_takeLeast 8 = .ok (.ireturn, 1) := by decide +kernel
theorem xd_RD_takeLeast_9 : decode xc_RD_takeLeast 9 = .ok (.aload_n 0, 1) := by decide +kernel
theorem xd_RD_takeLeast_10 : decode xc_RD_takeLeast 10 = .ok (.iload_n 1, 1) := by decide +kernel
theorem xd_RD_takeLeast_11 : decode xc_RD_takeLeast 11 = .ok (.bipush 48, 2) := by decide +kernel
theorem xd_RD_takeLeast_13 : decode xc_RD_takeLeast 13 = .ok (.isub, 1) := by decide +kernel
theorem xd_RD_takeLeast_14 : decode xc_RD_takeLeast 14 = .ok (.putfield 36, 3) := by decide +kernel
theorem xd_RD_takeLeast_17 : decode xc_RD_takeLeast 17 = .ok (.aload_n 0, 1) := by decide +kernel
theorem xd_RD_takeLeast_18 : decode xc_RD_takeLeast 18 = .ok (.aload_n 0, 1) := by decide +kernel
theorem xd_RD_takeLeast_19 : decode xc_RD_takeLeast 19 = .ok (.getfield 36, 3) := by decide +kernel
theorem xd_RD_takeLeast_22 : decode xc_RD_takeLeast 22 = .ok (.putfield 39, 3) := by decide +kernel
theorem xd_RD_takeLeast_25 : decode xc_RD_takeLeast 25 = .ok (.aload_n 0, 1) := by decide +kernel
theorem xd_RD_takeLeast_26 : decode xc_RD_takeLeast 26 = .ok (.bipush 6, 2) := by decide +kernel
theorem xd_RD_takeLeast_28 : decode xc_RD_takeLeast 28 = .ok (.invokevirtual 69, 3) := by decide +kernel
theorem xd_RD_takeLeast_31 : decode xc_RD_takeLeast 31 = .ok (.ireturn, 1) := by decide +kernel
theorem xd_RD_isDigit_0 : decode xc_RD_isDigit 0 = .ok (.iload_n 0, 1) := by decide +kernel
theorem xd_RD_isDigit_1 : decode xc_RD_isDigit 1 = .ok (.bipush 48, 2) := by decide +kernel
theorem xd_RD_isDigit_3 : decode xc_RD_isDigit 3 = .ok (.if_icmp .lt 13, 3) := by decide +kernel
theorem xd_RD_isDigit_6 : decode xc_RD_isDigit 6 = .ok (.iload_n 0, 1) := by decide +kernel
theorem xd_RD_isDigit_7 : decode xc_RD_isDigit 7 = .ok (.bipush 57, 2) := by decide +kernel
theorem xd_RD_isDigit_9 : decode xc_RD_isDigit 9 = .ok (.if_icmp .gt 7, 3) := by decide +kernel
theorem xd_RD_isDigit_12 : decode xc_RD_isDigit 12 = .ok (.iconst 1, 1) := by decide +kernel
theorem xd_RD_isDigit_13 : decode xc_RD_isDigit 13 = .ok (.goto 4, 3) := by decide +kernel
theorem xd_RD_isDigit_16 : decode xc_RD_isDigit 16 = .ok (.iconst 0, 1) := by decide +kernel
theorem xd_RD_isDigit_17 : decode xc_RD_isDigit 17 = .ok (.ireturn, 1) := by decide +kernel
theorem xd_RD_takeBraceEnd_0 : decode xc_RD_takeBraceEnd 0 = .ok (.iload_n 1, 1) := by decide +kernel
theorem xd_RD_takeBraceEnd_1 : decode xc_RD_takeBraceEnd 1 = .ok (.bipush 125, 2) := by decide +kernel
theorem xd_RD_takeBraceEnd_3 : decode xc_RD_takeBraceEnd 3 = .ok (.if_icmp .ne 10, 3) := by decide +kernel
theorem xd_RD_takeBraceEnd_6 : decode xc_RD_takeBraceEnd 6 = .ok (.aload_n 0, 1) := by decide +kernel
theorem xd_RD_takeBraceEnd_7 : decode xc_RD_takeBraceEnd 7 = .ok (.getfield 39, 3) := by decide +kernel
theorem xd_RD_takeBraceEnd_10 : decode xc_RD_takeBraceEnd 10 = .ok (.ifCond .ne 5, 3) := by decide +kernel
theorem xd_RD_takeBraceEnd_13 : decode xc_RD_takeBraceEnd 13 = .ok (.iconst 0, 1) := by decide +kernel
theorem xd_RD_takeBraceEnd_14 : decode xc_RD_takeBraceEnd 14 = .ok (.ireturn, 1) := by decide +kernel
theorem xd_RD_takeBraceEnd_15 : decode xc_RD_takeBraceEnd 15 = .ok (.aload_n 0, 1) := by decide +kernel
theorem xd_RD_takeBraceEnd_16 : decode xc_RD_takeBraceEnd 16 = .ok (.getfield 18, 3) := by decide +kernel
theorem xd_RD_takeBraceEnd_19 : decode xc_RD_takeBraceEnd 19 = .ok (.bipush 11, 2) := by decide +kernel
theorem xd_RD_takeBraceEnd_21 : decode xc_RD_takeBraceEnd 21 = .ok (.aload_n 0, 1) := by decide +kernel
theorem xd_RD_takeBraceEnd_22 : decode xc_RD_takeBraceEnd 22 = .ok (.getfield 36, 3) := by decide +kernel
theorem xd_RD_takeBraceEnd_25 : decode xc_RD_takeBraceEnd 25 = .ok (.bipush 10, 2) := by decide +kernel
theorem xd_RD_takeBraceEnd_27 : decode xc_RD_takeBraceEnd 27 = .ok (.imul, 1) := by decide +kernel
theorem xd_RD_takeBraceEnd_28 : decode xc_RD_takeBraceEnd 28 = .ok (.aload_n 0, 1) := by decide +kernel
theorem xd_RD_takeBraceEnd_29 : decode xc_RD_takeBraceEnd 29 = .ok (.getfield 39, 3) := by decide +kernel
theorem xd_RD_takeBraceEnd_32 : decode xc_RD_takeBraceEnd 32 = .ok (.iadd, 1) := by decide +kernel
theorem xd_RD_takeBraceEnd_33 : decode xc_RD_takeBraceEnd 33 = .ok (.invokevirtual 91, 3) := by decide +kernel
theorem xd_RD_takeBraceEnd_36 : decode xc_RD_takeBraceEnd 36 = .ok (.aload_n 0, 1) := by decide +kernel
theorem xd_RD_takeBraceEnd_37 : decode xc_RD_takeBraceEnd 37 = .ok (.aload_n 0, 1) := by decide +kernel
theorem xd_RD_takeBraceEnd_38 : decode xc_RD_takeBraceEnd 38 = .ok (.getfield 33, 3) := by decide +kernel
theorem xd_RD_takeBraceEnd_41 : decode xc_RD_takeBraceEnd 41 = .ok (.aload_n 0, 1) := by decide +kernel
theorem xd_RD_takeBraceEnd_42 : decode xc_RD_takeBraceEnd 42 = .ok (.getfield 39, 3) := by decide +kernel
theorem xd_RD_takeBraceEnd_45 : decode xc_RD_takeBraceEnd 45 = .ok (.imul, 1) := by decide +kernel
theorem xd_RD_takeBraceEnd_46 : decode xc_RD_takeBraceEnd 46 = .ok (.bipush 81, 2) := by decide +kernel
theorem xd_RD_takeBraceEnd_48 : decode xc_RD_takeBraceEnd 48 = .ok (.invokestatic 104, 3) := by decide +kernel
theorem xd_RD_takeBraceEnd_51 : decode xc_RD_takeBraceEnd 51 = .ok (.putfield 33, 3) := by decide +kernel
theorem xd_RD_takeBraceEnd_54 : decode xc_RD_takeBraceEnd 54 = .ok (.aload_n 0, 1) := by decide +kernel
theorem xd_RD_takeBraceEnd_55 : decode xc_RD_takeBraceEnd 55 = .ok (.iconst 0, 1) := by decide +kernel
theorem xd_RD_takeBraceEnd_56 : decode xc_RD_takeBraceEnd 56 = .ok (.invokevirtual 69, 3) := by decide +kernel
theorem xd_RD_takeBraceEnd_59 : decode xc_RD_takeBraceEnd 59 = .ok (.ireturn, 1) := by decide +kernel
theorem xd_RD_takeMost_0 : decode xc_RD_takeMost 0 = .ok (.iload_n 1, 1) := by decide +kernel
theorem xd_RD_takeMost_1 : decode xc_RD_takeMost 1 = .ok (.invokestatic 101, 3) := by decide +kernel
theorem xd_RD_takeMost_4 : decode xc_RD_takeMost 4 = .ok (.ifCond .ne 5, 3) := by decide +kernel
theorem xd_RD_takeMost_7 : decode xc_RD_takeMost 7 = .ok (.iconst 0, 1) := by decide +kernel
theorem xd_RD_takeMost_8 : decode xc_RD_takeMost 8 = .ok (.ireturn, 1) := by decide +kernel
theorem xd_RD_takeMost_9 : decode xc_RD_takeMost 9 = .ok (.aload_n 0, 1) := by decide +kernel
theorem xd_RD_takeMost_10 : decode xc_RD_takeMost 10 = .ok (.iload_n 1, 1) := by decide +kernel
theorem xd_RD_takeMost_11 : decode xc_RD_takeMost 11 = .ok (.bipush 48, 2) := by decide +kernel
theorem xd_RD_takeMost_13 : decode xc_RD_takeMost 13 = .ok (.isub, 1) := by decide +kernel
theorem xd_RD_takeMost_14 : decode xc_RD_takeMost 14 = .ok (.putfield 39, 3) := by decide +kernel
theorem xd_RD_takeMost_17 : decode xc_RD_takeMost 17 = .ok (.aload_n 0, 1) := by decide +kernel
theorem xd_RD_takeMost_18 : decode xc_RD_takeMost 18 = .ok (.getfield 39, 3) := by decide +kernel
theorem xd_RD_takeMost_21 : decode xc_RD_takeMost 21 = .ok (.aload_n 0, 1) := by decide +kernel
theorem xd_RD_takeMost_22 : decode xc_RD_takeMost 22 = .ok (.getfield 36, 3) := by decide +kernel
theorem xd_RD_takeMost_25 : decode xc_RD_takeMost 25 = .ok (.if_icmp .lt 23, 3) := by decide +kernel
theorem xd_RD_takeMost_28 : decode xc_RD_takeMost 28 = .ok (.aload_n 0, 1) := by decide +kernel
theorem xd_RD_takeMost_29 : decode xc_RD_takeMost 29 = .ok (.getfield 39, 3) := by decide +kernel
theorem xd_RD_takeMost_32 : decode xc_RD_takeMost 32 = .ok (.ifCond .le 16, 3) := by decide +kernel
theorem xd_RD_takeMost_35 : decode xc_RD_takeMost 35 = .ok (.aload_n 0, 1) := by decide +kernel
theorem xd_RD_takeMost_36 : decode xc_RD_takeMost 36 = .ok (.bipush 8, 2) := by decide +kernel
theorem xd_RD_takeMost_38 : decode xc_RD_takeMost 38 = .ok (.invokevirtual 69, 3) := by decide +kernel
theorem xd_RD_takeMost_41 : decode xc_RD_takeMost 41 = .ok (.ifCond .eq 7, 3) := by decide +kernel
theorem xd_RD_takeMost_44 : decode xc_RD_takeMost 44 = .ok (.iconst 1, 1) := by decide +kernel
theorem xd_RD_takeMost_45 : decode xc_RD_takeMost 45 = .ok (.goto 4, 3) := by decide +kernel
theorem xd_RD_takeMost_48 : decode xc_RD_takeMost 48 = .ok (.iconst 0, 1) := by decide +kernel
theorem xd_RD_takeMost_49 : decode xc_RD_takeMost 49 = .ok (.ireturn, 1) := by decide +kernel
end
section
theorem xd_BE_init_0 : decode xc_BE_init 0 = .ok (.aload_n 0, 1) := by decide +kernel
theorem xd_BE_init_1 : decode xc_BE_init 1 = .ok (.invokespecial 3, 3) := by decide +kernel
theorem xd_BE_init_4 : decode xc_BE_init 4 = .ok (.aload_n 0, 1) := by decide +kernel
theorem xd_BE_init_5 : decode xc_BE_init 5 = .ok (.bipush 24, 2) := by decide +kernel
theorem xd_BE_init_7 : decode xc_BE_init 7 = .ok (.anewarray 11, 3) := by decide +kernel
theorem xd_BE_init_10 : decode xc_BE_init 10 = .ok (.putfield 13, 3) := by decide +kernel
theorem xd_BE_init_13 : decode xc_BE_init 13 = .ok (.aload_n 0, 1) := by decide +kernel
theorem xd_BE_init_14 : decode xc_BE_init 14 = .ok (.iconst 0, 1) := by decide +kernel
theorem xd_BE_init_15 : decode xc_BE_init 15 = .ok (.putfield 17, 3) := by decide +kernel
theorem xd_BE_init_18 : decode xc_BE_init 18 = .ok (.aload_n 0, 1) := by decide +kernel
theorem xd_BE_init_19 : decode xc_BE_init 19 = .ok (.new 11, 3) := by decide +kernel
theorem xd_BE_init_22 : decode xc_BE_init 22 = .ok (.dup, 1) := by decide +kernel
theorem xd_BE_init_23 : decode xc_BE_init 23 = .ok (.invokespecial 21, 3) := by decide +kernel
theorem xd_BE_init_26 : decode xc_BE_init 26 = .ok (.putfield 22, 3) := by decide +kernel
theorem xd_BE_init_29 : decode xc_BE_init 29 = .ok (.return_, 1) := by decide +kernel
theorem xd_BE_clear_0 : decode xc_BE_clear 0 = .ok (.aload_n 0, 1) := by decide +kernel
theorem xd_BE_clear_1 : decode xc_BE_clear 1 = .ok (.iconst 0, 1) := by decide +kernel
theorem xd_BE_clear_2 : decode xc_BE_clear 2 = .ok (.putfield 17, 3) := by decide +kernel
theorem xd_BE_clear_5 : decode xc_BE_clear 5 = .ok (.return_, 1) := by decide +kernel
theorem xd_BE_carryOut_0 : decode xc_BE_carryOut 0 = .ok (.iload_n 1, 1) := by decide +kernel
theorem xd_BE_carryOut_1 : decode xc_BE_carryOut 1 = .ok (.iconst 4, 1) := by decide +kernel
theorem xd_BE_carryOut_2 : decode xc_BE_carryOut 2 = .ok (.iushr, 1) := by decide +kernel
theorem xd_BE_carryOut_3 : decode xc_BE_carryOut 3 = .ok (.istore_n 3, 1) := by decide +kernel
theorem xd_BE_carryOut_4 : decode xc_BE_carryOut 4 = .ok (.iload_n 1, 1) := by decide +kernel
theorem xd_BE_carryOut_5 : decode xc_BE_carryOut 5 = .ok (.bipush 15, 2) := by decide +kernel
theorem xd_BE_carryOut_7 : decode xc_BE_carryOut 7 = .ok (.iand, 1) := by decide +kernel
theorem xd_BE_carryOut_8 : decode xc_BE_carryOut 8 = .ok (.tableswitch 190 0 10 #[60, 68, 79, 92, 105, 120, 137, 144, 151, 169, 179], 60) := by decide +kernel
theorem xd_BE_carryOut_68 : decode xc_BE_carryOut 68 = .ok (.aload_n 0, 1) := by decide +kernel
theorem xd_BE_carryOut_69 : decode xc_BE_carryOut 69 = .ok (.invokevirtual 32, 3) := by decide +kernel
theorem xd_BE_carryOut_72 : decode xc_BE_carryOut 72 = .ok (.pop, 1) := by decide +kernel
theorem xd_BE_carryOut_73 : decode xc_BE_carryOut 73 = .ok (.goto 137, 3) := by decide +kernel
theorem xd_BE_carryOut_76 : decode xc_BE_carryOut 76 = .ok (.aload_n 0, 1) := by decide +kernel
theorem xd_BE_carryOut_77 : decode xc_BE_carryOut 77 = .ok (.invokevirtual 32, 3) := by decide +kernel
theorem xd_BE_carryOut_80 : decode xc_BE_carryOut 80 = .ok (.iconst (-1), 1) := by decide +kernel
theorem xd_BE_carryOut_81 : decode xc_BE_carryOut 81 = .ok (.invokevirtual 36, 3) := by decide +kernel
theorem xd_BE_carryOut_84 : decode xc_BE_carryOut 84 = .ok (.goto 126, 3) := by decide +kernel
theorem xd_BE_carryOut_87 : decode xc_BE_carryOut 87 = .ok (.aload_n 0, 1) := by decide +kernel
theorem xd_BE_carryOut_88 : decode xc_BE_carryOut 88 = .ok (.invokevirtual 32, 3) := by decide +kernel
theorem xd_BE_carryOut_91 : decode xc_BE_carryOut 91 = .ok (.aload_n 2, 1) := by decide +kernel
theorem xd_BE_carryOut_92 : decode xc_BE_carryOut 92 = .ok (.iload_n 3, 1) := by decide +kernel
theorem xd_BE_carryOut_93 : decode xc_BE_carryOut 93 = .ok (.iconst 0, 1) := by decide +kernel
theorem xd_BE_carryOut_94 : decode xc_BE_carryOut 94 = .ok (.invokevirtual 40, 3) := by decide +kernel
theorem xd_BE_carryOut_97 : decode xc_BE_carryOut 97 = .ok (.goto 113, 3) := by decide +kernel
theorem xd_BE_carryOut_100 : decode xc_BE_carryOut 100 = .ok (.aload_n 0, 1) := by decide +kernel
theorem xd_BE_carryOut_101 : decode xc_BE_carryOut 101 = .ok (.invokevirtual 32, 3) := by decide +kernel
theorem xd_BE_carryOut_104 : decode xc_BE_carryOut 104 = .ok (.aload_n 2, 1) := by decide +kernel
theorem xd_BE_carryOut_105 : decode xc_BE_carryOut 105 = .ok (.iload_n 3, 1) := by decide +kernel
theorem xd_BE_carryOut_106 : decode xc_BE_carryOut 106 = .ok (.iconst 1, 1) := by decide +kernel
theorem xd_BE_carryOut_107 : decode xc_BE_carryOut 107 = .ok (.invokevirtual 40, 3) := by decide +kernel
theorem xd_BE_carryOut_110 : decode xc_BE_carryOut 110 = .ok (.goto 100, 3) := by decide +kernel
theorem xd_BE_carryOut_113 : decode xc_BE_carryOut 113 = .ok (.aload_n 0, 1) := by decide +kernel
theorem xd_BE_carryOut_114 : decode xc_BE_carryOut 114 = .ok (.invokevirtual 32, 3) := by decide +kernel
theorem xd_BE_carryOut_117 : decode xc_BE_carryOut 117 = .ok (.aload_n 2, 1) := by decide +kernel
theorem xd_BE_carryOut_118 : decode xc_BE_carryOut 118 = .ok (.iload_n 3, 1) := by decide +kernel
theorem xd_BE_carryOut_119 : decode xc_BE_carryOut 119 = .ok (.invokevirtual 44, 3) := by decide +kernel
theorem xd_BE_carryOut_122 : decode xc_BE_carryOut 122 = .ok (.invokevirtual 36, 3) := by decide +kernel
theorem xd_BE_carryOut_125 : decode xc_BE_carryOut 125 = .ok (.goto 85, 3) := by decide +kernel
theorem xd_BE_carryOut_128 : decode xc_BE_carryOut 128 = .ok (.aload_n 0, 1) := by decide +kernel
theorem xd_BE_carryOut_129 : decode xc_BE_carryOut 129 = .ok (.invokevirtual 32, 3) := by decide +kernel
theorem xd_BE_carryOut_132 : decode xc_BE_carryOut 132 = .ok (.aload_n 2, 1) := by decide +kernel
theorem xd_BE_carryOut_133 : decode xc_BE_carryOut 133 = .ok (.iload_n 3, 1) := by decide +kernel
theorem xd_BE_carryOut_134 : decode xc_BE_carryOut 134 = .ok (.invokevirtual 44, 3) := by decide +kernel
theorem xd_BE_carryOut_137 : decode xc_BE_carryOut 137 = .ok (.iconst (-1), 1) := by decide +kernel
theorem xd_BE_carryOut_138 : decode xc_BE_carryOut 138 = .ok (.ixor, 1) := by decide +kernel
theorem xd_BE_carryOut_139 : decode xc_BE_carryOut 139 = .ok (.invokevirtual 36, 3) := by decide +kernel
theorem xd_BE_carryOut_142 : decode xc_BE_carryOut 142 = .ok (.goto 68, 3) := by decide +kernel
theorem xd_BE_carryOut_145 : decode xc_BE_carryOut 145 = .ok (.aload_n 0, 1) := by decide +kernel
theorem xd_BE_carryOut_146 : decode xc_BE_carryOut 146 = .ok (.invokevirtual 50, 3) := by decide +kernel
theorem xd_BE_carryOut_149 : decode xc_BE_carryOut 149 = .ok (.goto 61, 3) := by decide +kernel
theorem xd_BE_carryOut_152 : decode xc_BE_carryOut 152 = .ok (.aload_n 0, 1) := by decide +kernel
theorem xd_BE_carryOut_153 : decode xc_BE_carryOut 153 = .ok (.invokevirtual 53, 3) := by decide +kernel
theorem xd_BE_carryOut_156 : decode xc_BE_carryOut 156 = .ok (.goto 54, 3) := by decide +kernel
theorem xd_BE_carryOut_159 : decode xc_BE_carryOut 159 = .ok (.aload_n 0, 1) := by decide +kernel
theorem xd_BE_carryOut_160 : decode xc_BE_carryOut 160 = .ok (.invokevirtual 56, 3) := by decide +kernel
theorem xd_BE_carryOut_163 : decode xc_BE_carryOut 163 = .ok (.invokevirtual 59, 3) := by decide +kernel
theorem xd_BE_carryOut_166 : decode xc_BE_carryOut 166 = .ok (.aload_n 0, 1) := by decide +kernel
theorem xd_BE_carryOut_167 : decode xc_BE_carryOut 167 = .ok (.invokevirtual 56, 3) := by decide +kernel
theorem xd_BE_carryOut_170 : decode xc_BE_carryOut 170 = .ok (.iconst (-1), 1) := by decide +kernel
theorem xd_BE_carryOut_171 : decode xc_BE_carryOut 171 = .ok (.invokevirtual 36, 3) := by decide +kernel
theorem xd_BE_carryOut_174 : decode xc_BE_carryOut 174 = .ok (.goto 36, 3) := by decide +kernel
theorem xd_BE_carryOut_177 : decode xc_BE_carryOut 177 = .ok (.aload_n 0, 1) := by decide +kernel
theorem xd_BE_carryOut_178 : decode xc_BE_carryOut 178 = .ok (.invokevirtual 56, 3) := by decide +kernel
theorem xd_BE_carryOut_181 : decode xc_BE_carryOut 181 = .ok (.invokevirtual 59, 3) := by decide +kernel
theorem xd_BE_carryOut_184 : decode xc_BE_carryOut 184 = .ok (.goto 26, 3) := by decide +kernel
theorem xd_BE_carryOut_187 : decode xc_BE_carryOut 187 = .ok (.aload_n 0, 1) := by decide +kernel
theorem xd_BE_carryOut_188 : decode xc_BE_carryOut 188 = .ok (.invokevirtual 56, 3) := by decide +kernel
theorem xd_BE_carryOut_191 : decode xc_BE_carryOut 191 = .ok (.iconst (-1), 1) := by decide +kernel
theorem xd_BE_carryOut_192 : decode xc_BE_carryOut 192 = .ok (.invokevirtual 36, 3) := by decide +kernel
theorem xd_BE_carryOut_195 : decode xc_BE_carryOut 195 = .ok (.goto 15, 3) := by decide +kernel
theorem xd_BE_carryOut_198 : decode xc_BE_carryOut 198 = .ok (.aload_n 0, 1) := by decide +kernel
theorem xd_BE_carryOut_199 : decode xc_BE_carryOut 199 = .ok (.iload_n 3, 1) := by decide +kernel
theorem xd_BE_carryOut_200 : decode xc_BE_carryOut 200 = .ok (.bipush 10, 2) := by decide +kernel
theorem xd_BE_carryOut_202 : decode xc_BE_carryOut 202 = .ok (.idiv, 1) := by decide +kernel
theorem xd_BE_carryOut_203 : decode xc_BE_carryOut 203 = .ok (.iload_n 3, 1) := by decide +kernel
theorem xd_BE_carryOut_204 : decode xc_BE_carryOut 204 = .ok (.bipush 10, 2) := by decide +kernel
theorem xd_BE_carryOut_206 : decode xc_BE_carryOut 206 = .ok (.irem, 1) := by decide +kernel
theorem xd_BE_carryOut_207 : decode xc_BE_carryOut 207 = .ok (.invokevirtual 62, 3) := by decide +kernel
theorem xd_BE_carryOut_210 : decode xc_BE_carryOut 210 = .ok (.return_, 1) := by decide +kernel
theorem xd_BE_layDown_0 : decode xc_BE_layDown 0 = .ok (.aload_n 0, 1) := by decide +kernel
theorem xd_BE_layDown_1 : decode xc_BE_layDown 1 = .ok (.aload_n 0, 1) := by decide +kernel
theorem xd_BE_layDown_2 : decode xc_BE_layDown 2 = .ok (.getfield 17, 3) := by decide +kernel
theorem xd_BE_layDown_5 : decode xc_BE_layDown 5 = .ok (.iconst 1, 1) := by decide +kernel
theorem xd_BE_layDown_6 : decode xc_BE_layDown 6 = .ok (.iadd, 1) := by decide +kernel
theorem xd_BE_layDown_7 : decode xc_BE_layDown 7 = .ok (.bipush 24, 2) := by decide +kernel
theorem xd_BE_layDown_9 : decode xc_BE_layDown 9 = .ok (.invokestatic 66, 3) := by decide +kernel
theorem xd_BE_layDown_12 : decode xc_BE_layDown 12 = .ok (.putfield 17, 3) := by decide +kernel
theorem xd_BE_layDown_15 : decode xc_BE_layDown 15 = .ok (.aload_n 0, 1) := by decide +kernel
theorem xd_BE_layDown_16 : decode xc_BE_layDown 16 = .ok (.aload_n 0, 1) := by decide +kernel
theorem xd_BE_layDown_17 : decode xc_BE_layDown 17 = .ok (.getfield 17, 3) := by decide +kernel
theorem xd_BE_layDown_20 : decode xc_BE_layDown 20 = .ok (.iconst 1, 1) := by decide +kernel
theorem xd_BE_layDown_21 : decode xc_BE_layDown 21 = .ok (.isub, 1) := by decide +kernel
theorem xd_BE_layDown_22 : decode xc_BE_layDown 22 = .ok (.invokevirtual 26, 3) := by decide +kernel
theorem xd_BE_layDown_25 : decode xc_BE_layDown 25 = .ok (.astore_n 1, 1) := by decide +kernel
theorem xd_BE_layDown_26 : decode xc_BE_layDown 26 = .ok (.aload_n 1, 1) := by decide +kernel
theorem xd_BE_layDown_27 : decode xc_BE_layDown 27 = .ok (.invokevirtual 75, 3) := by decide +kernel
theorem xd_BE_layDown_30 : decode xc_BE_layDown 30 = .ok (.aload_n 1, 1) := by decide +kernel
theorem xd_BE_layDown_31 : decode xc_BE_layDown 31 = .ok (.areturn, 1) := by decide +kernel
theorem xd_BE_at_0 : decode xc_BE_at 0 = .ok (.iconst 0, 1) := by decide +kernel
theorem xd_BE_at_1 : decode xc_BE_at 1 = .ok (.iload_n 1, 1) := by decide +kernel
theorem xd_BE_at_2 : decode xc_BE_at 2 = .ok (.bipush 23, 2) := by decide +kernel
theorem xd_BE_at_4 : decode xc_BE_at 4 = .ok (.invokestatic 66, 3) := by decide +kernel
theorem xd_BE_at_7 : decode xc_BE_at 7 = .ok (.invokestatic 72, 3) := by decide +kernel
theorem xd_BE_at_10 : decode xc_BE_at 10 = .ok (.istore_n 2, 1) := by decide +kernel
theorem xd_BE_at_11 : decode xc_BE_at 11 = .ok (.aload_n 0, 1) := by decide +kernel
theorem xd_BE_at_12 : decode xc_BE_at 12 = .ok (.getfield 13, 3) := by decide +kernel
theorem xd_BE_at_15 : decode xc_BE_at 15 = .ok (.iload_n 2, 1) := by decide +kernel
theorem xd_BE_at_16 : decode xc_BE_at 16 = .ok (.aaload, 1) := by decide +kernel
theorem xd_BE_at_17 : decode xc_BE_at 17 = .ok (.ifnonnull 16, 3) := by decide +kernel
theorem xd_BE_at_20 : decode xc_BE_at 20 = .ok (.aload_n 0, 1) := by decide +kernel
theorem xd_BE_at_21 : decode xc_BE_at 21 = .ok (.getfield 13, 3) := by decide +kernel
theorem xd_BE_at_24 : decode xc_BE_at 24 = .ok (.iload_n 2, 1) := by decide +kernel
theorem xd_BE_at_25 : decode xc_BE_at 25 = .ok (.new 11, 3) := by decide +kernel
theorem xd_BE_at_28 : decode xc_BE_at 28 = .ok (.dup, 1) := by decide +kernel
theorem xd_BE_at_29 : decode xc_BE_at 29 = .ok (.invokespecial 21, 3) := by decide +kernel
theorem xd_BE_at_32 : decode xc_BE_at 32 = .ok (.aastore, 1) := by decide +kernel
theorem xd_BE_at_33 : decode xc_BE_at 33 = .ok (.aload_n 0, 1) := by decide +kernel
theorem xd_BE_at_34 : decode xc_BE_at 34 = .ok (.getfield 13, 3) := by decide +kernel
theorem xd_BE_at_37 : decode xc_BE_at 37 = .ok (.iload_n 2, 1) := by decide +kernel
theorem xd_BE_at_38 : decode xc_BE_at 38 = .ok (.aaload, 1) := by decide +kernel
theorem xd_BE_at_39 : decode xc_BE_at 39 = .ok (.areturn, 1) := by decide +kernel
theorem xd_BE_chainTwo_0 : decode xc_BE_chainTwo 0 = .ok (.aload_n 0, 1) := by decide +kernel
theorem xd_BE_chainTwo_1 : decode xc_BE_chainTwo 1 = .ok (.getfield 17, 3) := by decide +kernel
theorem xd_BE_chainTwo_4 : decode xc_BE_chainTwo 4 = .ok (.iconst 2, 1) := by decide +kernel
theorem xd_BE_chainTwo_5 : decode xc_BE_chainTwo 5 = .ok (.if_icmp .lt 54, 3) := by decide +kernel
theorem xd_BE_chainTwo_8 : decode xc_BE_chainTwo 8 = .ok (.aload_n 0, 1) := by decide +kernel
theorem xd_BE_chainTwo_9 : decode xc_BE_chainTwo 9 = .ok (.dup, 1) := by decide +kernel
theorem xd_BE_chainTwo_10 : decode xc_BE_chainTwo 10 = .ok (.getfield 17, 3) := by decide +kernel
theorem xd_BE_chainTwo_13 : decode xc_BE_chainTwo 13 = .ok (.iconst 1, 1) := by decide +kernel
theorem xd_BE_chainTwo_14 : decode xc_BE_chainTwo 14 = .ok (.isub, 1) := by decide +kernel
theorem xd_BE_chainTwo_15 : decode xc_BE_chainTwo 15 = .ok (.putfield 17, 3) := by decide +kernel
theorem xd_BE_chainTwo_18 : decode xc_BE_chainTwo 18 = .ok (.aload_n 0, 1) := by decide +kernel
theorem xd_BE_chainTwo_19 : decode xc_BE_chainTwo 19 = .ok (.invokevirtual 56, 3) := by decide +kernel
theorem xd_BE_chainTwo_22 : decode xc_BE_chainTwo 22 = .ok (.astore_n 1, 1) := by decide +kernel
theorem xd_BE_chainTwo_23 : decode xc_BE_chainTwo 23 = .ok (.aload_n 0, 1) := by decide +kernel
theorem xd_BE_chainTwo_24 : decode xc_BE_chainTwo 24 = .ok (.getfield 22, 3) := by decide +kernel
theorem xd_BE_chainTwo_27 : decode xc_BE_chainTwo 27 = .ok (.aload_n 1, 1) := by decide +kernel
theorem xd_BE_chainTwo_28 : decode xc_BE_chainTwo 28 = .ok (.aload_n 0, 1) := by decide +kernel
theorem xd_BE_chainTwo_29 : decode xc_BE_chainTwo 29 = .ok (.aload_n 0, 1) := by decide +kernel
theorem xd_BE_chainTwo_30 : decode xc_BE_chainTwo 30 = .ok (.getfield 17, 3) := by decide +kernel
theorem xd_BE_chainTwo_33 : decode xc_BE_chainTwo 33 = .ok (.invokevirtual 26, 3) := by decide +kernel
theorem xd_BE_chainTwo_36 : decode xc_BE_chainTwo 36 = .ok (.invokevirtual 82, 3) := by decide +kernel
theorem xd_BE_chainTwo_39 : decode xc_BE_chainTwo 39 = .ok (.aload_n 0, 1) := by decide +kernel
theorem xd_BE_chainTwo_40 : decode xc_BE_chainTwo 40 = .ok (.getfield 13, 3) := by decide +kernel
theorem xd_BE_chainTwo_43 : decode xc_BE_chainTwo 43 = .ok (.aload_n 0, 1) := by decide +kernel
theorem xd_BE_chainTwo_44 : decode xc_BE_chainTwo 44 = .ok (.getfield 17, 3) := by decide +kernel
theorem xd_BE_chainTwo_47 : decode xc_BE_chainTwo 47 = .ok (.iconst 1, 1) := by decide +kernel
theorem xd_BE_chainTwo_48 : decode xc_BE_chainTwo 48 = .ok (.isub, 1) := by decide +kernel
theorem xd_BE_chainTwo_49 : decode xc_BE_chainTwo 49 = .ok (.aload_n 0, 1) := by decide +kernel
theorem xd_BE_chainTwo_50 : decode xc_BE_chainTwo 50 = .ok (.getfield 22, 3) := by decide +kernel
theorem xd_BE_chainTwo_53 : decode xc_BE_chainTwo 53 = .ok (.aastore, 1) := by decide +kernel
theorem xd_BE_chainTwo_54 : decode xc_BE_chainTwo 54 = .ok (.aload_n 0, 1) := by decide +kernel
theorem xd_BE_chainTwo_55 : decode xc_BE_chainTwo 55 = .ok (.aload_n 1, 1) := by decide +kernel
theorem xd_BE_chainTwo_56 : decode xc_BE_chainTwo 56 = .ok (.putfield 22, 3) := by decide +kernel
theorem xd_BE_chainTwo_59 : decode xc_BE_chainTwo 59 = .ok (.return_, 1) := by decide +kernel
theorem xd_BE_top_0 : decode xc_BE_top 0 = .ok (.aload_n 0, 1) := by decide +kernel
theorem xd_BE_top_1 : decode xc_BE_top 1 = .ok (.aload_n 0, 1) := by decide +kernel
theorem xd_BE_top_2 : decode xc_BE_top 2 = .ok (.getfield 17, 3) := by decide +kernel
theorem xd_BE_top_5 : decode xc_BE_top 5 = .ok (.iconst 1, 1) := by decide +kernel
theorem xd_BE_top_6 : decode xc_BE_top 6 = .ok (.isub, 1) := by decide +kernel
theorem xd_BE_top_7 : decode xc_BE_top 7 = .ok (.invokevirtual 26, 3) := by decide +kernel
theorem xd_BE_top_10 : decode xc_BE_top 10 = .ok (.areturn, 1) := by decide +kernel
theorem xd_BE_joinTwo_0 : decode xc_BE_joinTwo 0 = .ok (.aload_n 0, 1) := by decide +kernel
theorem xd_BE_joinTwo_1 : decode xc_BE_joinTwo 1 = .ok (.getfield 17, 3) := by decide +kernel
theorem xd_BE_joinTwo_4 : decode xc_BE_joinTwo 4 = .ok (.iconst 2, 1) := by decide +kernel
theorem xd_BE_joinTwo_5 : decode xc_BE_joinTwo 5 = .ok (.if_icmp .lt 28, 3) := by decide +kernel
theorem xd_BE_joinTwo_8 : decode xc_BE_joinTwo 8 = .ok (.aload_n 0, 1) := by decide +kernel
theorem xd_BE_joinTwo_9 : decode xc_BE_joinTwo 9 = .ok (.dup, 1) := by decide +kernel
theorem xd_BE_joinTwo_10 : decode xc_BE_joinTwo 10 = .ok (.getfield 17, 3) := by decide +kernel
theorem xd_BE_joinTwo_13 : decode xc_BE_joinTwo 13 = .ok (.iconst 1, 1) := by decide +kernel
theorem xd_BE_joinTwo_14 : decode xc_BE_joinTwo 14 = .ok (.isub, 1) := by decide +kernel
theorem xd_BE_joinTwo_15 : decode xc_BE_joinTwo 15 = .ok (.putfield 17, 3) := by decide +kernel
theorem xd_BE_joinTwo_18 : decode xc_BE_joinTwo 18 = .ok (.aload_n 0, 1) := by decide +kernel
theorem xd_BE_joinTwo_19 : decode xc_BE_joinTwo 19 = .ok (.invokevirtual 56, 3) := by decide +kernel
theorem xd_BE_joinTwo_22 : decode xc_BE_joinTwo 22 = .ok (.aload_n 0, 1) := by decide +kernel
theorem xd_BE_joinTwo_23 : decode xc_BE_joinTwo 23 = .ok (.aload_n 0, 1) := by decide +kernel
theorem xd_BE_joinTwo_24 : decode xc_BE_joinTwo 24 = .ok (.getfield 17, 3) := by decide +kernel
theorem xd_BE_joinTwo_27 : decode xc_BE_joinTwo 27 = .ok (.invokevirtual 26, 3) := by decide +kernel
theorem xd_BE_joinTwo_30 : decode xc_BE_joinTwo 30 = .ok (.invokevirtual 78, 3) := by decide +kernel
theorem xd_BE_joinTwo_33 : decode xc_BE_joinTwo 33 = .ok (.return_, 1) := by decide +kernel
theorem xd_BE_copyTop_0 : decode xc_BE_copyTop 0 = .ok (.aload_n 0, 1) := by decide +kernel
theorem xd_BE_copyTop_1 : decode xc_BE_copyTop 1 = .ok (.invokevirtual 56, 3) := by decide +kernel
theorem xd_BE_copyTop_4 : decode xc_BE_copyTop 4 = .ok (.astore_n 3, 1) := by decide +kernel
theorem xd_BE_copyTop_5 : decode xc_BE_copyTop 5 = .ok (.aload_n 0, 1) := by decide +kernel
theorem xd_BE_copyTop_6 : decode xc_BE_copyTop 6 = .ok (.invokevirtual 32, 3) := by decide +kernel
theorem xd_BE_copyTop_9 : decode xc_BE_copyTop 9 = .ok (.astore 4, 2) := by decide +kernel
theorem xd_BE_copyTop_11 : decode xc_BE_copyTop 11 = .ok (.aload 4, 2) := by decide +kernel
theorem xd_BE_copyTop_13 : decode xc_BE_copyTop 13 = .ok (.iconst (-1), 1) := by decide +kernel
theorem xd_BE_copyTop_14 : decode xc_BE_copyTop 14 = .ok (.invokevirtual 36, 3) := by decide +kernel
theorem xd_BE_copyTop_17 : decode xc_BE_copyTop 17 = .ok (.iconst 0, 1) := by decide +kernel
theorem xd_BE_copyTop_18 : decode xc_BE_copyTop 18 = .ok (.istore 5, 2) := by decide +kernel
theorem xd_BE_copyTop_20 : decode xc_BE_copyTop 20 = .ok (.iload 5, 2) := by decide +kernel
theorem xd_BE_copyTop_22 : decode xc_BE_copyTop 22 = .ok (.iload_n 2, 1) := by decide +kernel
theorem xd_BE_copyTop_23 : decode xc_BE_copyTop 23 = .ok (.if_icmp .ge 46, 3) := by decide +kernel
theorem xd_BE_copyTop_26 : decode xc_BE_copyTop 26 = .ok (.aload_n 0, 1) := by decide +kernel
theorem xd_BE_copyTop_27 : decode xc_BE_copyTop 27 = .ok (.getfield 22, 3) := by decide +kernel
theorem xd_BE_copyTop_30 : decode xc_BE_copyTop 30 = .ok (.astore 6, 2) := by decide +kernel
theorem xd_BE_copyTop_32 : decode xc_BE_copyTop 32 = .ok (.aload 6, 2) := by decide +kernel
theorem xd_BE_copyTop_34 : decode xc_BE_copyTop 34 = .ok (.aload_n 3, 1) := by decide +kernel
theorem xd_BE_copyTop_35 : decode xc_BE_copyTop 35 = .ok (.aload 4, 2) := by decide +kernel
theorem xd_BE_copyTop_37 : decode xc_BE_copyTop 37 = .ok (.invokevirtual 82, 3) := by decide +kernel
theorem xd_BE_copyTop_40 : decode xc_BE_copyTop 40 = .ok (.iload 5, 2) := by decide +kernel
theorem xd_BE_copyTop_42 : decode xc_BE_copyTop 42 = .ok (.iload_n 1, 1) := by decide +kernel
theorem xd_BE_copyTop_43 : decode xc_BE_copyTop 43 = .ok (.if_icmp .lt 10, 3) := by decide +kernel
theorem xd_BE_copyTop_46 : decode xc_BE_copyTop 46 = .ok (.aload 6, 2) := by decide +kernel
theorem xd_BE_copyTop_48 : decode xc_BE_copyTop 48 = .ok (.aload 4, 2) := by decide +kernel
theorem xd_BE_copyTop_50 : decode xc_BE_copyTop 50 = .ok (.invokevirtual 78, 3) := by decide +kernel
theorem xd_BE_copyTop_53 : decode xc_BE_copyTop 53 = .ok (.aload_n 0, 1) := by decide +kernel
theorem xd_BE_copyTop_54 : decode xc_BE_copyTop 54 = .ok (.aload 4, 2) := by decide +kernel
theorem xd_BE_copyTop_56 : decode xc_BE_copyTop 56 = .ok (.putfield 22, 3) := by decide +kernel
theorem xd_BE_copyTop_59 : decode xc_BE_copyTop 59 = .ok (.aload 6, 2) := by decide +kernel
theorem xd_BE_copyTop_61 : decode xc_BE_copyTop 61 = .ok (.astore 4, 2) := by decide +kernel
theorem xd_BE_copyTop_63 : decode xc_BE_copyTop 63 = .ok (.iinc 5 1, 3) := by decide +kernel
theorem xd_BE_copyTop_66 : decode xc_BE_copyTop 66 = .ok (.goto (-46), 3) := by decide +kernel
theorem xd_BE_copyTop_69 : decode xc_BE_copyTop 69 = .ok (.aload_n 0, 1) := by decide +kernel
theorem xd_BE_copyTop_70 : decode xc_BE_copyTop 70 = .ok (.getfield 17, 3) := by decide +kernel
theorem xd_BE_copyTop_73 : decode xc_BE_copyTop 73 = .ok (.iconst 2, 1) := by decide +kernel
theorem xd_BE_copyTop_74 : decode xc_BE_copyTop 74 = .ok (.if_icmp .lt 36, 3) := by decide +kernel
theorem xd_BE_copyTop_77 : decode xc_BE_copyTop 77 = .ok (.aload_n 0, 1) := by decide +kernel
theorem xd_BE_copyTop_78 : decode xc_BE_copyTop 78 = .ok (.dup, 1) := by decide +kernel
theorem xd_BE_copyTop_79 : decode xc_BE_copyTop 79 = .ok (.getfield 17, 3) := by decide +kernel
theorem xd_BE_copyTop_82 : decode xc_BE_copyTop 82 = .ok (.iconst 1, 1) := by decide +kernel
theorem xd_BE_copyTop_83 : decode xc_BE_copyTop 83 = .ok (.isub, 1) := by decide +kernel
theorem xd_BE_copyTop_84 : decode xc_BE_copyTop 84 = .ok (.putfield 17, 3) := by decide +kernel
theorem xd_BE_copyTop_87 : decode xc_BE_copyTop 87 = .ok (.aload_n 0, 1) := by decide +kernel
theorem xd_BE_copyTop_88 : decode xc_BE_copyTop 88 = .ok (.getfield 13, 3) := by decide +kernel
theorem xd_BE_copyTop_91 : decode xc_BE_copyTop 91 = .ok (.aload_n 0, 1) := by decide +kernel
theorem xd_BE_copyTop_92 : decode xc_BE_copyTop 92 = .ok (.getfield 17, 3) := by decide +kernel
theorem xd_BE_copyTop_95 : decode xc_BE_copyTop 95 = .ok (.iconst 1, 1) := by decide +kernel
theorem xd_BE_copyTop_96 : decode xc_BE_copyTop 96 = .ok (.isub, 1) := by decide +kernel
theorem xd_BE_copyTop_97 : decode xc_BE_copyTop 97 = .ok (.aload 4, 2) := by decide +kernel
theorem xd_BE_copyTop_99 : decode xc_BE_copyTop 99 = .ok (.aastore, 1) := by decide +kernel
theorem xd_BE_copyTop_100 : decode xc_BE_copyTop 100 = .ok (.aload_n 0, 1) := by decide +kernel
theorem xd_BE_copyTop_101 : decode xc_BE_copyTop 101 = .ok (.getfield 13, 3) := by decide +kernel
theorem xd_BE_copyTop_104 : decode xc_BE_copyTop 104 = .ok (.aload_n 0, 1) := by decide +kernel
theorem xd_BE_copyTop_105 : decode xc_BE_copyTop 105 = .ok (.getfield 17, 3) := by decide +kernel
theorem xd_BE_copyTop_108 : decode xc_BE_copyTop 108 = .ok (.aload_n 3, 1) := by decide +kernel
theorem xd_BE_copyTop_109 : decode xc_BE_copyTop 109 = .ok (.aastore, 1) := by decide +kernel
theorem xd_BE_copyTop_110 : decode xc_BE_copyTop 110 = .ok (.return_, 1) := by decide +kernel
end
section
theorem xd_MO_init_0 : decode xc_MO_init 0 = .ok (.aload_n 0, 1) := by decide +kernel
theorem xd_MO_init_1 : decode xc_MO_init 1 = .ok (.invokespecial 1, 3) := by decide +kernel
theorem xd_MO_init_4 : decode xc_MO_init 4 = .ok (.aload_n 0, 1) := by decide +kernel
theorem xd_MO_init_5 : decode xc_MO_init 5 = .ok (.sipush 8192, 3) := by decide +kernel
theorem xd_MO_init_8 : decode xc_MO_init 8 = .ok (.newarray .boolean, 2) := by decide +kernel
theorem xd_MO_init_10 : decode xc_MO_init 10 = .ok (.putfield 7, 3) := by decide +kernel
theorem xd_MO_init_13 : decode xc_MO_init 13 = .ok (.aload_n 0, 1) := by decide +kernel
theorem xd_MO_init_14 : decode xc_MO_init 14 = .ok (.sipush 128, 3) := by decide +kernel
theorem xd_MO_init_17 : decode xc_MO_init 17 = .ok (.newarray .boolean, 2) := by decide +kernel
theorem xd_MO_init_19 : decode xc_MO_init 19 = .ok (.putfield 13, 3) := by decide +kernel
theorem xd_MO_init_22 : decode xc_MO_init 22 = .ok (.aload_n 0, 1) := by decide +kernel
theorem xd_MO_init_23 : decode xc_MO_init 23 = .ok (.bipush 100, 2) := by decide +kernel
theorem xd_MO_init_25 : decode xc_MO_init 25 = .ok (.newarray .int, 2) := by decide +kernel
theorem xd_MO_init_27 : decode xc_MO_init 27 = .ok (.putfield 16, 3) := by decide +kernel
theorem xd_MO_init_30 : decode xc_MO_init 30 = .ok (.aload_n 0, 1) := by decide +kernel
theorem xd_MO_init_31 : decode xc_MO_init 31 = .ok (.sipush 400, 3) := by decide +kernel
theorem xd_MO_init_34 : decode xc_MO_init 34 = .ok (.newarray .int, 2) := by decide +kernel
theorem xd_MO_init_36 : decode xc_MO_init 36 = .ok (.putfield 20, 3) := by decide +kernel
theorem xd_MO_init_39 : decode xc_MO_init 39 = .ok (.aload_n 0, 1) := by decide +kernel
theorem xd_MO_init_40 : decode xc_MO_init 40 = .ok (.iconst 4, 1) := by decide +kernel
theorem xd_MO_init_41 : decode xc_MO_init 41 = .ok (.newarray .int, 2) := by decide +kernel
theorem xd_MO_init_43 : decode xc_MO_init 43 = .ok (.putfield 23, 3) := by decide +kernel
theorem xd_MO_init_46 : decode xc_MO_init 46 = .ok (.aload_n 0, 1) := by decide +kernel
theorem xd_MO_init_47 : decode xc_MO_init 47 = .ok (.iconst 4, 1) := by decide +kernel
theorem xd_MO_init_48 : decode xc_MO_init 48 = .ok (.newarray .int, 2) := by decide +kernel
theorem xd_MO_init_50 : decode xc_MO_init 50 = .ok (.putfield 26, 3) := by decide +kernel
theorem xd_MO_init_53 : decode xc_MO_init 53 = .ok (.aload_n 0, 1) := by decide +kernel
theorem xd_MO_init_54 : decode xc_MO_init 54 = .ok (.bipush 101, 2) := by decide +kernel
theorem xd_MO_init_56 : decode xc_MO_init 56 = .ok (.newarray .int, 2) := by decide +kernel
theorem xd_MO_init_58 : decode xc_MO_init 58 = .ok (.putfield 29, 3) := by decide +kernel
theorem xd_MO_init_61 : decode xc_MO_init 61 = .ok (.aload_n 0, 1) := by decide +kernel
theorem xd_MO_init_62 : decode xc_MO_init 62 = .ok (.ldc 32, 2) := by decide +kernel
theorem xd_MO_init_64 : decode xc_MO_init 64 = .ok (.newarray .int, 2) := by decide +kernel
theorem xd_MO_init_66 : decode xc_MO_init 66 = .ok (.putfield 33, 3) := by decide +kernel
theorem xd_MO_init_69 : decode xc_MO_init 69 = .ok (.aload_n 0, 1) := by decide +kernel
theorem xd_MO_init_70 : decode xc_MO_init 70 = .ok (.bipush 40, 2) := by decide +kernel
theorem xd_MO_init_72 : decode xc_MO_init 72 = .ok (.newarray .int, 2) := by decide +kernel
theorem xd_MO_init_74 : decode xc_MO_init 74 = .ok (.putfield 36, 3) := by decide +kernel
theorem xd_MO_init_77 : decode xc_MO_init 77 = .ok (.aload_n 0, 1) := by decide +kernel
theorem xd_MO_init_78 : decode xc_MO_init 78 = .ok (.bipush 12, 2) := by decide +kernel
theorem xd_MO_init_80 : decode xc_MO_init 80 = .ok (.newarray .boolean, 2) := by decide +kernel
theorem xd_MO_init_82 : decode xc_MO_init 82 = .ok (.putfield 39, 3) := by decide +kernel
theorem xd_MO_init_85 : decode xc_MO_init 85 = .ok (.aload_n 0, 1) := by decide +kernel
theorem xd_MO_init_86 : decode xc_MO_init 86 = .ok (.sipush 1024, 3) := by decide +kernel
theorem xd_MO_init_89 : decode xc_MO_init 89 = .ok (.newarray .int, 2) := by decide +kernel
theorem xd_MO_init_91 : decode xc_MO_init 91 = .ok (.putfield 42, 3) := by decide +kernel
theorem xd_MO_init_94 : decode xc_MO_init 94 = .ok (.aload_n 0, 1) := by decide +kernel
theorem xd_MO_init_95 : decode xc_MO_init 95 = .ok (.sipush 1024, 3) := by decide +kernel
theorem xd_MO_init_98 : decode xc_MO_init 98 = .ok (.newarray .int, 2) := by decide +kernel
theorem xd_MO_init_100 : decode xc_MO_init 100 = .ok (.putfield 45, 3) := by decide +kernel
theorem xd_MO_init_103 : decode xc_MO_init 103 = .ok (.return_, 1) := by decide +kernel
theorem xd_MO_thrown_0 : decode xc_MO_thrown 0 = .ok (.aload_n 0, 1) := by decide +kernel
theorem xd_MO_thrown_1 : decode xc_MO_thrown 1 = .ok (.getfield 48, 3) := by decide +kernel
theorem xd_MO_thrown_4 : decode xc_MO_thrown 4 = .ok (.ireturn, 1) := by decide +kernel
theorem xd_MO_edge_0 : decode xc_MO_edge 0 = .ok (.aload_n 0, 1) := by decide +kernel
theorem xd_MO_edge_1 : decode xc_MO_edge 1 = .ok (.iload_n 1, 1) := by decide +kernel
theorem xd_MO_edge_2 : decode xc_MO_edge 2 = .ok (.bipush 32, 2) := by decide +kernel
theorem xd_MO_edge_4 : decode xc_MO_edge 4 = .ok (.invokestatic 52, 3) := by decide +kernel
theorem xd_MO_edge_7 : decode xc_MO_edge 7 = .ok (.ifCond .eq 21, 3) := by decide +kernel
theorem xd_MO_edge_10 : decode xc_MO_edge 10 = .ok (.iload_n 2, 1) := by decide +kernel
theorem xd_MO_edge_11 : decode xc_MO_edge 11 = .ok (.bipush 8, 2) := by decide +kernel
theorem xd_MO_edge_13 : decode xc_MO_edge 13 = .ok (.invokestatic 52, 3) := by decide +kernel
theorem xd_MO_edge_16 : decode xc_MO_edge 16 = .ok (.ifCond .eq 12, 3) := by decide +kernel
theorem xd_MO_edge_19 : decode xc_MO_edge 19 = .ok (.iload_n 3, 1) := by decide +kernel
theorem xd_MO_edge_20 : decode xc_MO_edge 20 = .ok (.bipush 32, 2) := by decide +kernel
theorem xd_MO_edge_22 : decode xc_MO_edge 22 = .ok (.invokestatic 52, 3) := by decide +kernel
theorem xd_MO_edge_25 : decode xc_MO_edge 25 = .ok (.ifCond .ne 7, 3) := by decide +kernel
theorem xd_MO_edge_28 : decode xc_MO_edge 28 = .ok (.iconst 1, 1) := by decide +kernel
theorem xd_MO_edge_29 : decode xc_MO_edge 29 = .ok (.goto 4, 3) := by decide +kernel
theorem xd_MO_edge_32 : decode xc_MO_edge 32 = .ok (.iconst 0, 1) := by decide +kernel
theorem xd_MO_edge_33 : decode xc_MO_edge 33 = .ok (.iconst 0, 1) := by decide +kernel
theorem xd_MO_edge_34 : decode xc_MO_edge 34 = .ok (.invokevirtual 56, 3) := by decide +kernel
theorem xd_MO_edge_37 : decode xc_MO_edge 37 = .ok (.ifCond .eq 5, 3) := by decide +kernel
theorem xd_MO_edge_40 : decode xc_MO_edge 40 = .ok (.iconst 0, 1) := by decide +kernel
theorem xd_MO_edge_41 : decode xc_MO_edge 41 = .ok (.ireturn, 1) := by decide +kernel
theorem xd_MO_edge_42 : decode xc_MO_edge 42 = .ok (.iload_n 1, 1) := by decide +kernel
theorem xd_MO_edge_43 : decode xc_MO_edge 43 = .ok (.iload_n 2, 1) := by decide +kernel
theorem xd_MO_edge_44 : decode xc_MO_edge 44 = .ok (.iload_n 3, 1) := by decide +kernel
theorem xd_MO_edge_45 : decode xc_MO_edge 45 = .ok (.invokestatic 60, 3) := by decide +kernel
theorem xd_MO_edge_48 : decode xc_MO_edge 48 = .ok (.istore 4, 2) := by decide +kernel
theorem xd_MO_edge_50 : decode xc_MO_edge 50 = .ok (.aload_n 0, 1) := by decide +kernel
theorem xd_MO_edge_51 : decode xc_MO_edge 51 = .ok (.getfield 7, 3) := by decide +kernel
theorem xd_MO_edge_54 : decode xc_MO_edge 54 = .ok (.iload 4, 2) := by decide +kernel
theorem xd_MO_edge_56 : decode xc_MO_edge 56 = .ok (.baload, 1) := by decide +kernel
theorem xd_MO_edge_57 : decode xc_MO_edge 57 = .ok (.ifCond .ne 13, 3) := by decide +kernel
theorem xd_MO_edge_60 : decode xc_MO_edge 60 = .ok (.aload_n 0, 1) := by decide +kernel
theorem xd_MO_edge_61 : decode xc_MO_edge 61 = .ok (.getfield 64, 3) := by decide +kernel
theorem xd_MO_edge_64 : decode xc_MO_edge 64 = .ok (.sipush 300, 3) := by decide +kernel
theorem xd_MO_edge_67 : decode xc_MO_edge 67 = .ok (.if_icmp .ne 5, 3) := by decide +kernel
theorem xd_MO_edge_70 : decode xc_MO_edge 70 = .ok (.iconst 0, 1) := by decide +kernel
theorem xd_MO_edge_71 : decode xc_MO_edge 71 = .ok (.ireturn, 1) := by decide +kernel
theorem xd_MO_edge_72 : decode xc_MO_edge 72 = .ok (.aload_n 0, 1) := by decide +kernel
theorem xd_MO_edge_73 : decode xc_MO_edge 73 = .ok (.getfield 7, 3) := by decide +kernel
theorem xd_MO_edge_76 : decode xc_MO_edge 76 = .ok (.iload 4, 2) := by decide +kernel
theorem xd_MO_edge_78 : decode xc_MO_edge 78 = .ok (.iconst 1, 1) := by decide +kernel
theorem xd_MO_edge_79 : decode xc_MO_edge 79 = .ok (.bastore, 1) := by decide +kernel
theorem xd_MO_edge_80 : decode xc_MO_edge 80 = .ok (.aload_n 0, 1) := by decide +kernel
theorem xd_MO_edge_81 : decode xc_MO_edge 81 = .ok (.dup, 1) := by decide +kernel
theorem xd_MO_edge_82 : decode xc_MO_edge 82 = .ok (.getfield 64, 3) := by decide +kernel
theorem xd_MO_edge_85 : decode xc_MO_edge 85 = .ok (.iconst 1, 1) := by decide +kernel
theorem xd_MO_edge_86 : decode xc_MO_edge 86 = .ok (.iadd, 1) := by decide +kernel
theorem xd_MO_edge_87 : decode xc_MO_edge 87 = .ok (.putfield 64, 3) := by decide +kernel
theorem xd_MO_edge_90 : decode xc_MO_edge 90 = .ok (.iconst 1, 1) := by decide +kernel
theorem xd_MO_edge_91 : decode xc_MO_edge 91 = .ok (.ireturn, 1) := by decide +kernel
theorem xd_MO_in_0 : decode xc_MO_in 0 = .ok (.iload_n 0, 1) := by decide +kernel
theorem xd_MO_in_1 : decode xc_MO_in 1 = .ok (.ifCond .lt 12, 3) := by decide +kernel
theorem xd_MO_in_4 : decode xc_MO_in 4 = .ok (.iload_n 0, 1) := by decide +kernel
theorem xd_MO_in_5 : decode xc_MO_in 5 = .ok (.iload_n 1, 1) := by decide +kernel
theorem xd_MO_in_6 : decode xc_MO_in 6 = .ok (.if_icmp .ge 7, 3) := by decide +kernel
theorem xd_MO_in_9 : decode xc_MO_in 9 = .ok (.iconst 1, 1) := by decide +kernel
theorem xd_MO_in_10 : decode xc_MO_in 10 = .ok (.goto 4, 3) := by decide +kernel
theorem xd_MO_in_13 : decode xc_MO_in 13 = .ok (.iconst 0, 1) := by decide +kernel
theorem xd_MO_in_14 : decode xc_MO_in 14 = .ok (.ireturn, 1) := by decide +kernel
theorem xd_MO_fails_0 : decode xc_MO_fails 0 = .ok (.aload_n 0, 1) := by decide +kernel
theorem xd_MO_fails_1 : decode xc_MO_fails 1 = .ok (.iload_n 1, 1) := by decide +kernel
theorem xd_MO_fails_2 : decode xc_MO_fails 2 = .ok (.ifCond .eq 7, 3) := by decide +kernel
theorem xd_MO_fails_5 : decode xc_MO_fails 5 = .ok (.iconst 1, 1) := by decide +kernel
theorem xd_MO_fails_6 : decode xc_MO_fails 6 = .ok (.goto 12, 3) := by decide +kernel
theorem xd_MO_fails_9 : decode xc_MO_fails 9 = .ok (.iload_n 2, 1) := by decide +kernel
theorem xd_MO_fails_10 : decode xc_MO_fails 10 = .ok (.ifCond .eq 7, 3) := by decide +kernel
theorem xd_MO_fails_13 : decode xc_MO_fails 13 = .ok (.iconst 2, 1) := by decide +kernel
theorem xd_MO_fails_14 : decode xc_MO_fails 14 = .ok (.goto 4, 3) := by decide +kernel
theorem xd_MO_fails_17 : decode xc_MO_fails 17 = .ok (.iconst 0, 1) := by decide +kernel
theorem xd_MO_fails_18 : decode xc_MO_fails 18 = .ok (.putfield 48, 3) := by decide +kernel
theorem xd_MO_fails_21 : decode xc_MO_fails 21 = .ok (.aload_n 0, 1) := by decide +kernel
theorem xd_MO_fails_22 : decode xc_MO_fails 22 = .ok (.getfield 48, 3) := by decide +kernel
theorem xd_MO_fails_25 : decode xc_MO_fails 25 = .ok (.ifCond .le 7, 3) := by decide +kernel
theorem xd_MO_fails_28 : decode xc_MO_fails 28 = .ok (.iconst 1, 1) := by decide +kernel
theorem xd_MO_fails_29 : decode xc_MO_fails 29 = .ok (.goto 4, 3) := by decide +kernel
theorem xd_MO_fails_32 : decode xc_MO_fails 32 = .ok (.iconst 0, 1) := by decide +kernel
theorem xd_MO_fails_33 : decode xc_MO_fails 33 = .ok (.ireturn, 1) := by decide +kernel
theorem xd_MO_place_0 : decode xc_MO_place 0 = .ok (.bipush 32, 2) := by decide +kernel
theorem xd_MO_place_2 : decode xc_MO_place 2 = .ok (.iload_n 1, 1) := by decide +kernel
theorem xd_MO_place_3 : decode xc_MO_place 3 = .ok (.imul, 1) := by decide +kernel
theorem xd_MO_place_4 : decode xc_MO_place 4 = .ok (.iload_n 0, 1) := by decide +kernel
theorem xd_MO_place_5 : decode xc_MO_place 5 = .ok (.iadd, 1) := by decide +kernel
theorem xd_MO_place_6 : decode xc_MO_place 6 = .ok (.bipush 32, 2) := by decide +kernel
theorem xd_MO_place_8 : decode xc_MO_place 8 = .ok (.imul, 1) := by decide +kernel
theorem xd_MO_place_9 : decode xc_MO_place 9 = .ok (.iload_n 2, 1) := by decide +kernel
theorem xd_MO_place_10 : decode xc_MO_place 10 = .ok (.iadd, 1) := by decide +kernel
theorem xd_MO_place_11 : decode xc_MO_place 11 = .ok (.ireturn, 1) := by decide +kernel
theorem xd_MO_cut_0 : decode xc_MO_cut 0 = .ok (.aload_n 0, 1) := by decide +kernel
theorem xd_MO_cut_1 : decode xc_MO_cut 1 = .ok (.iload_n 1, 1) := by decide +kernel
theorem xd_MO_cut_2 : decode xc_MO_cut 2 = .ok (.bipush 32, 2) := by decide +kernel
theorem xd_MO_cut_4 : decode xc_MO_cut 4 = .ok (.invokestatic 52, 3) := by decide +kernel
theorem xd_MO_cut_7 : decode xc_MO_cut 7 = .ok (.ifCond .eq 21, 3) := by decide +kernel
theorem xd_MO_cut_10 : decode xc_MO_cut 10 = .ok (.iload_n 2, 1) := by decide +kernel
theorem xd_MO_cut_11 : decode xc_MO_cut 11 = .ok (.bipush 8, 2) := by decide +kernel
theorem xd_MO_cut_13 : decode xc_MO_cut 13 = .ok (.invokestatic 52, 3) := by decide +kernel
theorem xd_MO_cut_16 : decode xc_MO_cut 16 = .ok (.ifCond .eq 12, 3) := by decide +kernel
theorem xd_MO_cut_19 : decode xc_MO_cut 19 = .ok (.iload_n 3, 1) := by decide +kernel
theorem xd_MO_cut_20 : decode xc_MO_cut 20 = .ok (.bipush 32, 2) := by decide +kernel
theorem xd_MO_cut_22 : decode xc_MO_cut 22 = .ok (.invokestatic 52, 3) := by decide +kernel
theorem xd_MO_cut_25 : decode xc_MO_cut 25 = .ok (.ifCond .ne 7, 3) := by decide +kernel
theorem xd_MO_cut_28 : decode xc_MO_cut 28 = .ok (.iconst 1, 1) := by decide +kernel
theorem xd_MO_cut_29 : decode xc_MO_cut 29 = .ok (.goto 4, 3) := by decide +kernel
theorem xd_MO_cut_32 : decode xc_MO_cut 32 = .ok (.iconst 0, 1) := by decide +kernel
theorem xd_MO_cut_33 : decode xc_MO_cut 33 = .ok (.iconst 0, 1) := by decide +kernel
theorem xd_MO_cut_34 : decode xc_MO_cut 34 = .ok (.invokevirtual 56, 3) := by decide +kernel
theorem xd_MO_cut_37 : decode xc_MO_cut 37 = .ok (.ifCond .eq 5, 3) := by decide +kernel
theorem xd_MO_cut_40 : decode xc_MO_cut 40 = .ok (.iconst 0, 1) := by decide +kernel
theorem xd_MO_cut_41 : decode xc_MO_cut 41 = .ok (.ireturn, 1) := by decide +kernel
theorem xd_MO_cut_42 : decode xc_MO_cut 42 = .ok (.iload_n 1, 1) := by decide +kernel
theorem xd_MO_cut_43 : decode xc_MO_cut 43 = .ok (.iload_n 2, 1) := by decide +kernel
theorem xd_MO_cut_44 : decode xc_MO_cut 44 = .ok (.iload_n 3, 1) := by decide +kernel
theorem xd_MO_cut_45 : decode xc_MO_cut 45 = .ok (.invokestatic 60, 3) := by decide +kernel
theorem xd_MO_cut_48 : decode xc_MO_cut 48 = .ok (.istore 4, 2) := by decide +kernel
theorem xd_MO_cut_50 : decode xc_MO_cut 50 = .ok (.aload_n 0, 1) := by decide +kernel
theorem xd_MO_cut_51 : decode xc_MO_cut 51 = .ok (.getfield 7, 3) := by decide +kernel
theorem xd_MO_cut_54 : decode xc_MO_cut 54 = .ok (.iload 4, 2) := by decide +kernel
theorem xd_MO_cut_56 : decode xc_MO_cut 56 = .ok (.baload, 1) := by decide +kernel
theorem xd_MO_cut_57 : decode xc_MO_cut 57 = .ok (.istore 5, 2) := by decide +kernel
theorem xd_MO_cut_59 : decode xc_MO_cut 59 = .ok (.aload_n 0, 1) := by decide +kernel
theorem xd_MO_cut_60 : decode xc_MO_cut 60 = .ok (.getfield 7, 3) := by decide +kernel
theorem xd_MO_cut_63 : decode xc_MO_cut 63 = .ok (.iload 4, 2) := by decide +kernel
theorem xd_MO_cut_65 : decode xc_MO_cut 65 = .ok (.iconst 0, 1) := by decide +kernel
theorem xd_MO_cut_66 : decode xc_MO_cut 66 = .ok (.bastore, 1) := by decide +kernel
theorem xd_MO_cut_67 : decode xc_MO_cut 67 = .ok (.aload_n 0, 1) := by decide +kernel
theorem xd_MO_cut_68 : decode xc_MO_cut 68 = .ok (.dup, 1) := by decide +kernel
theorem xd_MO_cut_69 : decode xc_MO_cut 69 = .ok (.getfield 64, 3) := by decide +kernel
theorem xd_MO_cut_72 : decode xc_MO_cut 72 = .ok (.iload 5, 2) := by decide +kernel
theorem xd_MO_cut_74 : decode xc_MO_cut 74 = .ok (.ifCond .eq 7, 3) := by decide +kernel
theorem xd_MO_cut_77 : decode xc_MO_cut 77 = .ok (.iconst 1, 1) := by decide +kernel
theorem xd_MO_cut_78 : decode xc_MO_cut 78 = .ok (.goto 4, 3) := by decide +kernel
theorem xd_MO_cut_81 : decode xc_MO_cut 81 = .ok (.iconst 0, 1) := by decide +kernel
theorem xd_MO_cut_82 : decode xc_MO_cut 82 = .ok (.isub, 1) := by decide +kernel
theorem xd_MO_cut_83 : decode xc_MO_cut 83 = .ok (.putfield 64, 3) := by decide +kernel
theorem xd_MO_cut_86 : decode xc_MO_cut 86 = .ok (.iload 5, 2) := by decide +kernel
theorem xd_MO_cut_88 : decode xc_MO_cut 88 = .ok (.ireturn, 1) := by decide +kernel
theorem xd_MO_tag_0 : decode xc_MO_tag 0 = .ok (.aload_n 0, 1) := by decide +kernel
theorem xd_MO_tag_1 : decode xc_MO_tag 1 = .ok (.iload_n 1, 1) := by decide +kernel
theorem xd_MO_tag_2 : decode xc_MO_tag 2 = .ok (.bipush 32, 2) := by decide +kernel
theorem xd_MO_tag_4 : decode xc_MO_tag 4 = .ok (.invokestatic 52, 3) := by decide +kernel
theorem xd_MO_tag_7 : decode xc_MO_tag 7 = .ok (.ifCond .eq 11, 3) := by decide +kernel
theorem xd_MO_tag_10 : decode xc_MO_tag 10 = .ok (.iload_n 2, 1) := by decide +kernel
theorem xd_MO_tag_11 : decode xc_MO_tag 11 = .ok (.iconst 4, 1) := by decide +kernel
theorem xd_MO_tag_12 : decode xc_MO_tag 12 = .ok (.invokestatic 52, 3) := by decide +kernel
theorem xd_MO_tag_15 : decode xc_MO_tag 15 = .ok (.ifCond .ne 7, 3) := by decide +kernel
theorem xd_MO_tag_18 : decode xc_MO_tag 18 = .ok (.iconst 1, 1) := by decide +kernel
theorem xd_MO_tag_19 : decode xc_MO_tag 19 = .ok (.goto 4, 3) := by decide +kernel
theorem xd_MO_tag_22 : decode xc_MO_tag 22 = .ok (.iconst 0, 1) := by decide +kernel
theorem xd_MO_tag_23 : decode xc_MO_tag 23 = .ok (.iconst 0, 1) := by decide +kernel
theorem xd_MO_tag_24 : decode xc_MO_tag 24 = .ok (.invokevirtual 56, 3) := by decide +kernel
theorem xd_MO_tag_27 : decode xc_MO_tag 27 = .ok (.ifCond .eq 4, 3) := by decide +kernel
theorem xd_MO_tag_30 : decode xc_MO_tag 30 = .ok (.return_, 1) := by decide +kernel
theorem xd_MO_tag_31 : decode xc_MO_tag 31 = .ok (.aload_n 0, 1) := by decide +kernel
theorem xd_MO_tag_32 : decode xc_MO_tag 32 = .ok (.getfield 13, 3) := by decide +kernel
theorem xd_MO_tag_35 : decode xc_MO_tag 35 = .ok (.iconst 4, 1) := by decide +kernel
theorem xd_MO_tag_36 : decode xc_MO_tag 36 = .ok (.iload_n 1, 1) := by decide +kernel
theorem xd_MO_tag_37 : decode xc_MO_tag 37 = .ok (.imul, 1) := by decide +kernel
theorem xd_MO_tag_38 : decode xc_MO_tag 38 = .ok (.iload_n 2, 1) := by decide +kernel
theorem xd_MO_tag_39 : decode xc_MO_tag 39 = .ok (.iadd, 1) := by decide +kernel
theorem xd_MO_tag_40 : decode xc_MO_tag 40 = .ok (.iload_n 3, 1) := by decide +kernel
theorem xd_MO_tag_41 : decode xc_MO_tag 41 = .ok (.bastore, 1) := by decide +kernel
theorem xd_MO_tag_42 : decode xc_MO_tag 42 = .ok (.return_, 1) := by decide +kernel
theorem xd_MO_feed_0 : decode xc_MO_feed 0 = .ok (.aload_n 0, 1) := by decide +kernel
theorem xd_MO_feed_1 : decode xc_MO_feed 1 = .ok (.iload_n 3, 1) := by decide +kernel
theorem xd_MO_feed_2 : decode xc_MO_feed 2 = .ok (.iconst 1, 1) := by decide +kernel
theorem xd_MO_feed_3 : decode xc_MO_feed 3 = .ok (.if_icmp .lt 9, 3) := by decide +kernel
theorem xd_MO_feed_6 : decode xc_MO_feed 6 = .ok (.iload_n 3, 1) := by decide +kernel
theorem xd_MO_feed_7 : decode xc_MO_feed 7 = .ok (.bipush 8, 2) := by decide +kernel
theorem xd_MO_feed_9 : decode xc_MO_feed 9 = .ok (.if_icmp .le 7, 3) := by decide +kernel
theorem xd_MO_feed_12 : decode xc_MO_feed 12 = .ok (.iconst 1, 1) := by decide +kernel
theorem xd_MO_feed_13 : decode xc_MO_feed 13 = .ok (.goto 4, 3) := by decide +kernel
theorem xd_MO_feed_16 : decode xc_MO_feed 16 = .ok (.iconst 0, 1) := by decide +kernel
theorem xd_MO_feed_17 : decode xc_MO_feed 17 = .ok (.iconst 0, 1) := by decide +kernel
theorem xd_MO_feed_18 : decode xc_MO_feed 18 = .ok (.invokevirtual 56, 3) := by decide +kernel
theorem xd_MO_feed_21 : decode xc_MO_feed 21 = .ok (.ifCond .eq 5, 3) := by decide +kernel
theorem xd_MO_feed_24 : decode xc_MO_feed 24 = .ok (.iconst 0, 1) := by decide +kernel
theorem xd_MO_feed_25 : decode xc_MO_feed 25 = .ok (.ireturn, 1) := by decide +kernel
theorem xd_MO_feed_26 : decode xc_MO_feed 26 = .ok (.aload_n 0, 1) := by decide +kernel
theorem xd_MO_feed_27 : decode xc_MO_feed 27 = .ok (.getfield 67, 3) := by decide +kernel
theorem xd_MO_feed_30 : decode xc_MO_feed 30 = .ok (.iload_n 3, 1) := by decide +kernel
theorem xd_MO_feed_31 : decode xc_MO_feed 31 = .ok (.iadd, 1) := by decide +kernel
theorem xd_MO_feed_32 : decode xc_MO_feed 32 = .ok (.bipush 100, 2) := by decide +kernel
theorem xd_MO_feed_34 : decode xc_MO_feed 34 = .ok (.if_icmp .le 5, 3) := by decide +kernel
theorem xd_MO_feed_37 : decode xc_MO_feed 37 = .ok (.iconst (-1), 1) := by decide +kernel
theorem xd_MO_feed_38 : decode xc_MO_feed 38 = .ok (.ireturn, 1) := by decide +kernel
theorem xd_MO_feed_39 : decode xc_MO_feed 39 = .ok (.iload_n 3, 1) := by decide +kernel
theorem xd_MO_feed_40 : decode xc_MO_feed 40 = .ok (.iconst 1, 1) := by decide +kernel
theorem xd_MO_feed_41 : decode xc_MO_feed 41 = .ok (.isub, 1) := by decide +kernel
theorem xd_MO_feed_42 : decode xc_MO_feed 42 = .ok (.istore 4, 2) := by decide +kernel
theorem xd_MO_feed_44 : decode xc_MO_feed 44 = .ok (.iload 4, 2) := by decide +kernel
theorem xd_MO_feed_46 : decode xc_MO_feed 46 = .ok (.ifCond .lt 40, 3) := by decide +kernel
theorem xd_MO_feed_49 : decode xc_MO_feed 49 = .ok (.aload_n 0, 1) := by decide +kernel
theorem xd_MO_feed_50 : decode xc_MO_feed 50 = .ok (.getfield 16, 3) := by decide +kernel
theorem xd_MO_feed_53 : decode xc_MO_feed 53 = .ok (.aload_n 0, 1) := by decide +kernel
theorem xd_MO_feed_54 : decode xc_MO_feed 54 = .ok (.getfield 67, 3) := by decide +kernel
theorem xd_MO_feed_57 : decode xc_MO_feed 57 = .ok (.lload_n 1, 1) := by decide +kernel
theorem xd_MO_feed_58 : decode xc_MO_feed 58 = .ok (.bipush 8, 2) := by decide +kernel
theorem xd_MO_feed_60 : decode xc_MO_feed 60 = .ok (.iload 4, 2) := by decide +kernel
theorem xd_MO_feed_62 : decode xc_MO_feed 62 = .ok (.imul, 1) := by decide +kernel
theorem xd_MO_feed_63 : decode xc_MO_feed 63 = .ok (.lshr, 1) := by decide +kernel
theorem xd_MO_feed_64 : decode xc_MO_feed 64 = .ok (.ldc2_w 70, 3) := by decide +kernel
theorem xd_MO_feed_67 : decode xc_MO_feed 67 = .ok (.land, 1) := by decide +kernel
theorem xd_MO_feed_68 : decode xc_MO_feed 68 = .ok (.l2i, 1) := by decide +kernel
theorem xd_MO_feed_69 : decode xc_MO_feed 69 = .ok (.iastore, 1) := by decide +kernel
theorem xd_MO_feed_70 : decode xc_MO_feed 70 = .ok (.aload_n 0, 1) := by decide +kernel
theorem xd_MO_feed_71 : decode xc_MO_feed 71 = .ok (.dup, 1) := by decide +kernel
theorem xd_MO_feed_72 : decode xc_MO_feed 72 = .ok (.getfield 67, 3) := by decide +kernel
theorem xd_MO_feed_75 : decode xc_MO_feed 75 = .ok (.iconst 1, 1) := by decide +kernel
theorem xd_MO_feed_76 : decode xc_MO_feed 76 = .ok (.iadd, 1) := by decide +kernel
theorem xd_MO_feed_77 : decode xc_MO_feed 77 = .ok (.putfield 67, 3) := by decide +kernel
theorem xd_MO_feed_80 : decode xc_MO_feed 80 = .ok (.iinc 4 (-1), 3) := by decide +kernel
theorem xd_MO_feed_83 : decode xc_MO_feed 83 = .ok (.goto (-39), 3) := by decide +kernel
theorem xd_MO_feed_86 : decode xc_MO_feed 86 = .ok (.aload_n 0, 1) := by decide +kernel
theorem xd_MO_feed_87 : decode xc_MO_feed 87 = .ok (.getfield 67, 3) := by decide +kernel
theorem xd_MO_feed_90 : decode xc_MO_feed 90 = .ok (.ireturn, 1) := by decide +kernel
theorem xd_MO_load_0 : decode xc_MO_load 0 = .ok (.aload_n 0, 1) := by decide +kernel
theorem xd_MO_load_1 : decode xc_MO_load 1 = .ok (.iload_n 1, 1) := by decide +kernel
theorem xd_MO_load_2 : decode xc_MO_load 2 = .ok (.iconst 4, 1) := by decide +kernel
theorem xd_MO_load_3 : decode xc_MO_load 3 = .ok (.invokestatic 52, 3) := by decide +kernel
theorem xd_MO_load_6 : decode xc_MO_load 6 = .ok (.ifCond .ne 7, 3) := by decide +kernel
theorem xd_MO_load_9 : decode xc_MO_load 9 = .ok (.iconst 1, 1) := by decide +kernel
theorem xd_MO_load_10 : decode xc_MO_load 10 = .ok (.goto 4, 3) := by decide +kernel
theorem xd_MO_load_13 : decode xc_MO_load 13 = .ok (.iconst 0, 1) := by decide +kernel
theorem xd_MO_load_14 : decode xc_MO_load 14 = .ok (.iconst 0, 1) := by decide +kernel
theorem xd_MO_load_15 : decode xc_MO_load 15 = .ok (.invokevirtual 56, 3) := by decide +kernel
theorem xd_MO_load_18 : decode xc_MO_load 18 = .ok (.ifCond .eq 5, 3) := by decide +kernel
theorem xd_MO_load_21 : decode xc_MO_load 21 = .ok (.iconst 0, 1) := by decide +kernel
theorem xd_MO_load_22 : decode xc_MO_load 22 = .ok (.ireturn, 1) := by decide +kernel
theorem xd_MO_load_23 : decode xc_MO_load 23 = .ok (.iconst 0, 1) := by decide +kernel
theorem xd_MO_load_24 : decode xc_MO_load 24 = .ok (.istore_n 2, 1) := by decide +kernel
theorem xd_MO_load_25 : decode xc_MO_load 25 = .ok (.iload_n 2, 1) := by decide +kernel
theorem xd_MO_load_26 : decode xc_MO_load 26 = .ok (.aload_n 0, 1) := by decide +kernel
theorem xd_MO_load_27 : decode xc_MO_load 27 = .ok (.getfield 67, 3) := by decide +kernel
theorem xd_MO_load_30 : decode xc_MO_load 30 = .ok (.if_icmp .ge 21, 3) := by decide +kernel
theorem xd_MO_load_33 : decode xc_MO_load 33 = .ok (.aload_n 0, 1) := by decide +kernel
theorem xd_MO_load_34 : decode xc_MO_load 34 = .ok (.getfield 29, 3) := by decide +kernel
theorem xd_MO_load_37 : decode xc_MO_load 37 = .ok (.iload_n 2, 1) := by decide +kernel
theorem xd_MO_load_38 : decode xc_MO_load 38 = .ok (.aload_n 0, 1) := by decide +kernel
theorem xd_MO_load_39 : decode xc_MO_load 39 = .ok (.getfield 16, 3) := by decide +kernel
theorem xd_MO_load_42 : decode xc_MO_load 42 = .ok (.iload_n 2, 1) := by decide +kernel
theorem xd_MO_load_43 : decode xc_MO_load 43 = .ok (.iaload, 1) := by decide +kernel
theorem xd_MO_load_44 : decode xc_MO_load 44 = .ok (.iastore, 1) := by decide +kernel
theorem xd_MO_load_45 : decode xc_MO_load 45 = .ok (.iinc 2 1, 3) := by decide +kernel
theorem xd_MO_load_48 : decode xc_MO_load 48 = .ok (.goto (-23), 3) := by decide +kernel
theorem xd_MO_load_51 : decode xc_MO_load 51 = .ok (.aload_n 0, 1) := by decide +kernel
theorem xd_MO_load_52 : decode xc_MO_load 52 = .ok (.aload_n 0, 1) := by decide +kernel
theorem xd_MO_load_53 : decode xc_MO_load 53 = .ok (.getfield 67, 3) := by decide +kernel
theorem xd_MO_load_56 : decode xc_MO_load 56 = .ok (.putfield 75, 3) := by decide +kernel
theorem xd_MO_load_59 : decode xc_MO_load 59 = .ok (.aload_n 0, 1) := by decide +kernel
theorem xd_MO_load_60 : decode xc_MO_load 60 = .ok (.iconst 0, 1) := by decide +kernel
theorem xd_MO_load_61 : decode xc_MO_load 61 = .ok (.putfield 67, 3) := by decide +kernel
theorem xd_MO_load_64 : decode xc_MO_load 64 = .ok (.aload_n 0, 1) := by decide +kernel
theorem xd_MO_load_65 : decode xc_MO_load 65 = .ok (.getfield 23, 3) := by decide +kernel
theorem xd_MO_load_68 : decode xc_MO_load 68 = .ok (.iload_n 1, 1) := by decide +kernel
theorem xd_MO_load_69 : decode xc_MO_load 69 = .ok (.iconst 0, 1) := by decide +kernel
theorem xd_MO_load_70 : decode xc_MO_load 70 = .ok (.iastore, 1) := by decide +kernel
theorem xd_MO_load_71 : decode xc_MO_load 71 = .ok (.aload_n 0, 1) := by decide +kernel
theorem xd_MO_load_72 : decode xc_MO_load 72 = .ok (.getfield 26, 3) := by decide +kernel
theorem xd_MO_load_75 : decode xc_MO_load 75 = .ok (.iload_n 1, 1) := by decide +kernel
theorem xd_MO_load_76 : decode xc_MO_load 76 = .ok (.iconst 0, 1) := by decide +kernel
theorem xd_MO_load_77 : decode xc_MO_load 77 = .ok (.iastore, 1) := by decide +kernel
theorem xd_MO_load_78 : decode xc_MO_load 78 = .ok (.aload_n 0, 1) := by decide +kernel
theorem xd_MO_load_79 : decode xc_MO_load 79 = .ok (.iconst 0, 1) := by decide +kernel
theorem xd_MO_load_80 : decode xc_MO_load 80 = .ok (.invokevirtual 159, 3) := by decide +kernel
theorem xd_MO_load_83 : decode xc_MO_load 83 = .ok (.aload_n 0, 1) := by decide +kernel
theorem xd_MO_load_84 : decode xc_MO_load 84 = .ok (.invokevirtual 163, 3) := by decide +kernel
theorem xd_MO_load_87 : decode xc_MO_load 87 = .ok (.aload_n 0, 1) := by decide +kernel
theorem xd_MO_load_88 : decode xc_MO_load 88 = .ok (.invokevirtual 81, 3) := by decide +kernel
theorem xd_MO_load_91 : decode xc_MO_load 91 = .ok (.ifCond .ne 10, 3) := by decide +kernel
theorem xd_MO_load_94 : decode xc_MO_load 94 = .ok (.iconst 1, 1) := by decide +kernel
theorem xd_MO_load_95 : decode xc_MO_load 95 = .ok (.aload_n 0, 1) := by decide +kernel
theorem xd_MO_load_96 : decode xc_MO_load 96 = .ok (.getfield 78, 3) := by decide +kernel
theorem xd_MO_load_99 : decode xc_MO_load 99 = .ok (.iadd, 1) := by decide +kernel
theorem xd_MO_load_100 : decode xc_MO_load 100 = .ok (.ireturn, 1) := by decide +kernel
theorem xd_MO_load_101 : decode xc_MO_load 101 = .ok (.aload_n 0, 1) := by decide +kernel
theorem xd_MO_load_102 : decode xc_MO_load 102 = .ok (.getfield 36, 3) := by decide +kernel
theorem xd_MO_load_105 : decode xc_MO_load 105 = .ok (.iconst 0, 1) := by decide +kernel
theorem xd_MO_load_106 : decode xc_MO_load 106 = .ok (.iaload, 1) := by decide +kernel
theorem xd_MO_load_107 : decode xc_MO_load 107 = .ok (.bipush 80, 2) := by decide +kernel
theorem xd_MO_load_109 : decode xc_MO_load 109 = .ok (.if_icmp .le 6, 3) := by decide +kernel
theorem xd_MO_load_112 : decode xc_MO_load 112 = .ok (.bipush (-2), 2) := by decide +kernel
theorem xd_MO_load_114 : decode xc_MO_load 114 = .ok (.ireturn, 1) := by decide +kernel
theorem xd_MO_load_115 : decode xc_MO_load 115 = .ok (.iconst 0, 1) := by decide +kernel
theorem xd_MO_load_116 : decode xc_MO_load 116 = .ok (.istore_n 2, 1) := by decide +kernel
theorem xd_MO_load_117 : decode xc_MO_load 117 = .ok (.iload_n 2, 1) := by decide +kernel
theorem xd_MO_load_118 : decode xc_MO_load 118 = .ok (.aload_n 0, 1) := by decide +kernel
theorem xd_MO_load_119 : decode xc_MO_load 119 = .ok (.getfield 75, 3) := by decide +kernel
theorem xd_MO_load_122 : decode xc_MO_load 122 = .ok (.if_icmp .ge 26, 3) := by decide +kernel
theorem xd_MO_load_125 : decode xc_MO_load 125 = .ok (.aload_n 0, 1) := by decide +kernel
theorem xd_MO_load_126 : decode xc_MO_load 126 = .ok (.getfield 20, 3) := by decide +kernel
theorem xd_MO_load_129 : decode xc_MO_load 129 = .ok (.bipush 100, 2) := by decide +kernel
theorem xd_MO_load_131 : decode xc_MO_load 131 = .ok (.iload_n 1, 1) := by decide +kernel
theorem xd_MO_load_132 : decode xc_MO_load 132 = .ok (.imul, 1) := by decide +kernel
theorem xd_MO_load_133 : decode xc_MO_load 133 = .ok (.iload_n 2, 1) := by decide +kernel
theorem xd_MO_load_134 : decode xc_MO_load 134 = .ok (.iadd, 1) := by decide +kernel
theorem xd_MO_load_135 : decode xc_MO_load 135 = .ok (.aload_n 0, 1) := by decide +kernel
theorem xd_MO_load_136 : decode xc_MO_load 136 = .ok (.getfield 29, 3) := by decide +kernel
theorem xd_MO_load_139 : decode xc_MO_load 139 = .ok (.iload_n 2, 1) := by decide +kernel
theorem xd_MO_load_140 : decode xc_MO_load 140 = .ok (.iaload, 1) := by decide +kernel
theorem xd_MO_load_141 : decode xc_MO_load 141 = .ok (.iastore, 1) := by decide +kernel
theorem xd_MO_load_142 : decode xc_MO_load 142 = .ok (.iinc 2 1, 3) := by decide +kernel
theorem xd_MO_load_145 : decode xc_MO_load 145 = .ok (.goto (-28), 3) := by decide +kernel
theorem xd_MO_load_148 : decode xc_MO_load 148 = .ok (.aload_n 0, 1) := by decide +kernel
theorem xd_MO_load_149 : decode xc_MO_load 149 = .ok (.getfield 23, 3) := by decide +kernel
theorem xd_MO_load_152 : decode xc_MO_load 152 = .ok (.iload_n 1, 1) := by decide +kernel
theorem xd_MO_load_153 : decode xc_MO_load 153 = .ok (.aload_n 0, 1) := by decide +kernel
theorem xd_MO_load_154 : decode xc_MO_load 154 = .ok (.getfield 75, 3) := by decide +kernel
theorem xd_MO_load_157 : decode xc_MO_load 157 = .ok (.iastore, 1) := by decide +kernel
theorem xd_MO_load_158 : decode xc_MO_load 158 = .ok (.aload_n 0, 1) := by decide +kernel
theorem xd_MO_load_159 : decode xc_MO_load 159 = .ok (.getfield 26, 3) := by decide +kernel
theorem xd_MO_load_162 : decode xc_MO_load 162 = .ok (.iload_n 1, 1) := by decide +kernel
theorem xd_MO_load_163 : decode xc_MO_load 163 = .ok (.aload_n 0, 1) := by decide +kernel
theorem xd_MO_load_164 : decode xc_MO_load 164 = .ok (.getfield 36, 3) := by decide +kernel
theorem xd_MO_load_167 : decode xc_MO_load 167 = .ok (.iconst 0, 1) := by decide +kernel
theorem xd_MO_load_168 : decode xc_MO_load 168 = .ok (.iaload, 1) := by decide +kernel
theorem xd_MO_load_169 : decode xc_MO_load 169 = .ok (.iastore, 1) := by decide +kernel
theorem xd_MO_load_170 : decode xc_MO_load 170 = .ok (.iconst 0, 1) := by decide +kernel
theorem xd_MO_load_171 : decode xc_MO_load 171 = .ok (.ireturn, 1) := by decide +kernel
theorem xd_MO_begin_0 : decode xc_MO_begin 0 = .ok (.aload_n 0, 1) := by decide +kernel
theorem xd_MO_begin_1 : decode xc_MO_begin 1 = .ok (.iconst 0, 1) := by decide +kernel
theorem xd_MO_begin_2 : decode xc_MO_begin 2 = .ok (.putfield 72, 3) := by decide +kernel
theorem xd_MO_begin_5 : decode xc_MO_begin 5 = .ok (.aload_n 0, 1) := by decide +kernel
theorem xd_MO_begin_6 : decode xc_MO_begin 6 = .ok (.iconst 0, 1) := by decide +kernel
theorem xd_MO_begin_7 : decode xc_MO_begin 7 = .ok (.putfield 114, 3) := by decide +kernel
theorem xd_MO_begin_10 : decode xc_MO_begin 10 = .ok (.aload_n 0, 1) := by decide +kernel
theorem xd_MO_begin_11 : decode xc_MO_begin 11 = .ok (.iconst (-1), 1) := by decide +kernel
theorem xd_MO_begin_12 : decode xc_MO_begin 12 = .ok (.putfield 78, 3) := by decide +kernel
theorem xd_MO_begin_15 : decode xc_MO_begin 15 = .ok (.aload_n 0, 1) := by decide +kernel
theorem xd_MO_begin_16 : decode xc_MO_begin 16 = .ok (.iload_n 1, 1) := by decide +kernel
theorem xd_MO_begin_17 : decode xc_MO_begin 17 = .ok (.putfield 92, 3) := by decide +kernel
theorem xd_MO_begin_20 : decode xc_MO_begin 20 = .ok (.aload_n 0, 1) := by decide +kernel
theorem xd_MO_begin_21 : decode xc_MO_begin 21 = .ok (.invokevirtual 117, 3) := by decide +kernel
theorem xd_MO_begin_24 : decode xc_MO_begin 24 = .ok (.return_, 1) := by decide +kernel
theorem xd_MO_bracket_0 : decode xc_MO_bracket 0 = .ok (.aload_n 0, 1) := by decide +kernel
theorem xd_MO_bracket_1 : decode xc_MO_bracket 1 = .ok (.getfield 39, 3) := by decide +kernel
theorem xd_MO_bracket_4 : decode xc_MO_bracket 4 = .ok (.aload_n 0, 1) := by decide +kernel
theorem xd_MO_bracket_5 : decode xc_MO_bracket 5 = .ok (.getfield 114, 3) := by decide +kernel
theorem xd_MO_bracket_8 : decode xc_MO_bracket 8 = .ok (.iconst 0, 1) := by decide +kernel
theorem xd_MO_bracket_9 : decode xc_MO_bracket 9 = .ok (.bastore, 1) := by decide +kernel
theorem xd_MO_bracket_10 : decode xc_MO_bracket 10 = .ok (.aload_n 0, 1) := by decide +kernel
theorem xd_MO_bracket_11 : decode xc_MO_bracket 11 = .ok (.iconst 3, 1) := by decide +kernel
theorem xd_MO_bracket_12 : decode xc_MO_bracket 12 = .ok (.aload_n 0, 1) := by decide +kernel
theorem xd_MO_bracket_13 : decode xc_MO_bracket 13 = .ok (.getfield 114, 3) := by decide +kernel
theorem xd_MO_bracket_16 : decode xc_MO_bracket 16 = .ok (.imul, 1) := by decide +kernel
theorem xd_MO_bracket_17 : decode xc_MO_bracket 17 = .ok (.iconst 1, 1) := by decide +kernel
theorem xd_MO_bracket_18 : decode xc_MO_bracket 18 = .ok (.iadd, 1) := by decide +kernel
theorem xd_MO_bracket_19 : decode xc_MO_bracket 19 = .ok (.iconst 1, 1) := by decide +kernel
theorem xd_MO_bracket_20 : decode xc_MO_bracket 20 = .ok (.invokevirtual 97, 3) := by decide +kernel
theorem xd_MO_bracket_23 : decode xc_MO_bracket 23 = .ok (.aload_n 0, 1) := by decide +kernel
theorem xd_MO_bracket_24 : decode xc_MO_bracket 24 = .ok (.getfield 36, 3) := by decide +kernel
theorem xd_MO_bracket_27 : decode xc_MO_bracket 27 = .ok (.iconst 3, 1) := by decide +kernel
theorem xd_MO_bracket_28 : decode xc_MO_bracket 28 = .ok (.aload_n 0, 1) := by decide +kernel
theorem xd_MO_bracket_29 : decode xc_MO_bracket 29 = .ok (.getfield 114, 3) := by decide +kernel
theorem xd_MO_bracket_32 : decode xc_MO_bracket 32 = .ok (.imul, 1) := by decide +kernel
theorem xd_MO_bracket_33 : decode xc_MO_bracket 33 = .ok (.iconst 0, 1) := by decide +kernel
theorem xd_MO_bracket_34 : decode xc_MO_bracket 34 = .ok (.iastore, 1) := by decide +kernel
theorem xd_MO_bracket_35 : decode xc_MO_bracket 35 = .ok (.aload_n 0, 1) := by decide +kernel
theorem xd_MO_bracket_36 : decode xc_MO_bracket 36 = .ok (.getfield 36, 3) := by decide +kernel
theorem xd_MO_bracket_39 : decode xc_MO_bracket 39 = .ok (.iconst 3, 1) := by decide +kernel
theorem xd_MO_bracket_40 : decode xc_MO_bracket 40 = .ok (.aload_n 0, 1) := by decide +kernel
theorem xd_MO_bracket_41 : decode xc_MO_bracket 41 = .ok (.getfield 114, 3) := by decide +kernel
theorem xd_MO_bracket_44 : decode xc_MO_bracket 44 = .ok (.imul, 1) := by decide +kernel
theorem xd_MO_bracket_45 : decode xc_MO_bracket 45 = .ok (.iconst 1, 1) := by decide +kernel
theorem xd_MO_bracket_46 : decode xc_MO_bracket 46 = .ok (.iadd, 1) := by decide +kernel
theorem xd_MO_bracket_47 : decode xc_MO_bracket 47 = .ok (.iconst 0, 1) := by decide +kernel
theorem xd_MO_bracket_48 : decode xc_MO_bracket 48 = .ok (.iastore, 1) := by decide +kernel
theorem xd_MO_bracket_49 : decode xc_MO_bracket 49 = .ok (.return_, 1) := by decide +kernel
theorem xd_MO_plain_0 : decode xc_MO_plain 0 = .ok (.iconst 0, 1) := by decide +kernel
theorem xd_MO_plain_1 : decode xc_MO_plain 1 = .ok (.istore_n 3, 1) := by decide +kernel
theorem xd_MO_plain_2 : decode xc_MO_plain 2 = .ok (.aload_n 0, 1) := by decide +kernel
theorem xd_MO_plain_3 : decode xc_MO_plain 3 = .ok (.getfield 92, 3) := by decide +kernel
theorem xd_MO_plain_6 : decode xc_MO_plain 6 = .ok (.ifCond .eq 45, 3) := by decide +kernel
theorem xd_MO_plain_9 : decode xc_MO_plain 9 = .ok (.iload_n 3, 1) := by decide +kernel
theorem xd_MO_plain_10 : decode xc_MO_plain 10 = .ok (.sipush 1024, 3) := by decide +kernel
theorem xd_MO_plain_13 : decode xc_MO_plain 13 = .ok (.if_icmp .ge 38, 3) := by decide +kernel
theorem xd_MO_plain_16 : decode xc_MO_plain 16 = .ok (.aload_n 0, 1) := by decide +kernel
theorem xd_MO_plain_17 : decode xc_MO_plain 17 = .ok (.getfield 33, 3) := by decide +kernel
theorem xd_MO_plain_20 : decode xc_MO_plain 20 = .ok (.sipush 1024, 3) := by decide +kernel
theorem xd_MO_plain_23 : decode xc_MO_plain 23 = .ok (.iload_n 1, 1) := by decide +kernel
theorem xd_MO_plain_24 : decode xc_MO_plain 24 = .ok (.imul, 1) := by decide +kernel
theorem xd_MO_plain_25 : decode xc_MO_plain 25 = .ok (.iload_n 3, 1) := by decide +kernel
theorem xd_MO_plain_26 : decode xc_MO_plain 26 = .ok (.iadd, 1) := by decide +kernel
theorem xd_MO_plain_27 : decode xc_MO_plain 27 = .ok (.iload_n 2, 1) := by decide +kernel
theorem xd_MO_plain_28 : decode xc_MO_plain 28 = .ok (.ifCond .eq 14, 3) := by decide +kernel
theorem xd_MO_plain_31 : decode xc_MO_plain 31 = .ok (.iload_n 3, 1) := by decide +kernel
theorem xd_MO_plain_32 : decode xc_MO_plain 32 = .ok (.bipush 33, 2) := by decide +kernel
theorem xd_MO_plain_34 : decode xc_MO_plain 34 = .ok (.irem, 1) := by decide +kernel
theorem xd_MO_plain_35 : decode xc_MO_plain 35 = .ok (.ifCond .ne 7, 3) := by decide +kernel
theorem xd_MO_plain_38 : decode xc_MO_plain 38 = .ok (.iconst 0, 1) := by decide +kernel
theorem xd_MO_plain_39 : decode xc_MO_plain 39 = .ok (.goto 5, 3) := by decide +kernel
theorem xd_MO_plain_42 : decode xc_MO_plain 42 = .ok (.ldc 96, 2) := by decide +kernel
theorem xd_MO_plain_44 : decode xc_MO_plain 44 = .ok (.iastore, 1) := by decide +kernel
theorem xd_MO_plain_45 : decode xc_MO_plain 45 = .ok (.iinc 3 1, 3) := by decide +kernel
theorem xd_MO_plain_48 : decode xc_MO_plain 48 = .ok (.goto (-46), 3) := by decide +kernel
theorem xd_MO_plain_51 : decode xc_MO_plain 51 = .ok (.return_, 1) := by decide +kernel
theorem xd_MO_read_0 : decode xc_MO_read 0 = .ok (.iconst 1, 1) := by decide +kernel
theorem xd_MO_read_1 : decode xc_MO_read 1 = .ok (.istore_n 1, 1) := by decide +kernel
theorem xd_MO_read_2 : decode xc_MO_read 2 = .ok (.iload_n 1, 1) := by decide +kernel
theorem xd_MO_read_3 : decode xc_MO_read 3 = .ok (.ifCond .eq 139, 3) := by decide +kernel
theorem xd_MO_read_6 : decode xc_MO_read 6 = .ok (.aload_n 0, 1) := by decide +kernel
theorem xd_MO_read_7 : decode xc_MO_read 7 = .ok (.invokevirtual 81, 3) := by decide +kernel
theorem xd_MO_read_10 : decode xc_MO_read 10 = .ok (.ifCond .eq 132, 3) := by decide +kernel
theorem xd_MO_read_13 : decode xc_MO_read 13 = .ok (.aload_n 0, 1) := by decide +kernel
theorem xd_MO_read_14 : decode xc_MO_read 14 = .ok (.invokevirtual 85, 3) := by decide +kernel
theorem xd_MO_read_17 : decode xc_MO_read 17 = .ok (.istore_n 2, 1) := by decide +kernel
theorem xd_MO_read_18 : decode xc_MO_read 18 = .ok (.iload_n 2, 1) := by decide +kernel
theorem xd_MO_read_19 : decode xc_MO_read 19 = .ok (.bipush 40, 2) := by decide +kernel
theorem xd_MO_read_21 : decode xc_MO_read 21 = .ok (.if_icmp .ne 10, 3) := by decide +kernel
theorem xd_MO_read_24 : decode xc_MO_read 24 = .ok (.aload_n 0, 1) := by decide +kernel
theorem xd_MO_read_25 : decode xc_MO_read 25 = .ok (.invokevirtual 120, 3) := by decide +kernel
theorem xd_MO_read_28 : decode xc_MO_read 28 = .ok (.goto 111, 3) := by decide +kernel
theorem xd_MO_read_31 : decode xc_MO_read 31 = .ok (.iload_n 2, 1) := by decide +kernel
theorem xd_MO_read_32 : decode xc_MO_read 32 = .ok (.bipush 41, 2) := by decide +kernel
theorem xd_MO_read_34 : decode xc_MO_read 34 = .ok (.if_icmp .ne 17, 3) := by decide +kernel
theorem xd_MO_read_37 : decode xc_MO_read 37 = .ok (.aload_n 0, 1) := by decide +kernel
theorem xd_MO_read_38 : decode xc_MO_read 38 = .ok (.getfield 114, 3) := by decide +kernel
theorem xd_MO_read_41 : decode xc_MO_read 41 = .ok (.ifCond .le 10, 3) := by decide +kernel
theorem xd_MO_read_44 : decode xc_MO_read 44 = .ok (.aload_n 0, 1) := by decide +kernel
theorem xd_MO_read_45 : decode xc_MO_read 45 = .ok (.invokevirtual 123, 3) := by decide +kernel
theorem xd_MO_read_48 : decode xc_MO_read 48 = .ok (.goto 91, 3) := by decide +kernel
theorem xd_MO_read_51 : decode xc_MO_read 51 = .ok (.iload_n 2, 1) := by decide +kernel
theorem xd_MO_read_52 : decode xc_MO_read 52 = .ok (.bipush 124, 2) := by decide +kernel
theorem xd_MO_read_54 : decode xc_MO_read 54 = .ok (.if_icmp .ne 47, 3) := by decide +kernel
theorem xd_MO_read_57 : decode xc_MO_read 57 = .ok (.aload_n 0, 1) := by decide +kernel
theorem xd_MO_read_58 : decode xc_MO_read 58 = .ok (.dup, 1) := by decide +kernel
theorem xd_MO_read_59 : decode xc_MO_read 59 = .ok (.getfield 72, 3) := by decide +kernel
theorem xd_MO_read_62 : decode xc_MO_read 62 = .ok (.iconst 1, 1) := by decide +kernel
theorem xd_MO_read_63 : decode xc_MO_read 63 = .ok (.iadd, 1) := by decide +kernel
theorem xd_MO_read_64 : decode xc_MO_read 64 = .ok (.putfield 72, 3) := by decide +kernel
theorem xd_MO_read_67 : decode xc_MO_read 67 = .ok (.aload_n 0, 1) := by decide +kernel
theorem xd_MO_read_68 : decode xc_MO_read 68 = .ok (.invokevirtual 126, 3) := by decide +kernel
theorem xd_MO_read_71 : decode xc_MO_read 71 = .ok (.aload_n 0, 1) := by decide +kernel
theorem xd_MO_read_72 : decode xc_MO_read 72 = .ok (.iconst 3, 1) := by decide +kernel
theorem xd_MO_read_73 : decode xc_MO_read 73 = .ok (.aload_n 0, 1) := by decide +kernel
theorem xd_MO_read_74 : decode xc_MO_read 74 = .ok (.getfield 114, 3) := by decide +kernel
theorem xd_MO_read_77 : decode xc_MO_read 77 = .ok (.imul, 1) := by decide +kernel
theorem xd_MO_read_78 : decode xc_MO_read 78 = .ok (.iconst 1, 1) := by decide +kernel
theorem xd_MO_read_79 : decode xc_MO_read 79 = .ok (.iadd, 1) := by decide +kernel
theorem xd_MO_read_80 : decode xc_MO_read 80 = .ok (.iconst 1, 1) := by decide +kernel
theorem xd_MO_read_81 : decode xc_MO_read 81 = .ok (.invokevirtual 97, 3) := by decide +kernel
theorem xd_MO_read_84 : decode xc_MO_read 84 = .ok (.aload_n 0, 1) := by decide +kernel
theorem xd_MO_read_85 : decode xc_MO_read 85 = .ok (.getfield 36, 3) := by decide +kernel
theorem xd_MO_read_88 : decode xc_MO_read 88 = .ok (.iconst 3, 1) := by decide +kernel
theorem xd_MO_read_89 : decode xc_MO_read 89 = .ok (.aload_n 0, 1) := by decide +kernel
theorem xd_MO_read_90 : decode xc_MO_read 90 = .ok (.getfield 114, 3) := by decide +kernel
theorem xd_MO_read_93 : decode xc_MO_read 93 = .ok (.imul, 1) := by decide +kernel
theorem xd_MO_read_94 : decode xc_MO_read 94 = .ok (.iconst 1, 1) := by decide +kernel
theorem xd_MO_read_95 : decode xc_MO_read 95 = .ok (.iadd, 1) := by decide +kernel
theorem xd_MO_read_96 : decode xc_MO_read 96 = .ok (.iconst 0, 1) := by decide +kernel
theorem xd_MO_read_97 : decode xc_MO_read 97 = .ok (.iastore, 1) := by decide +kernel
theorem xd_MO_read_98 : decode xc_MO_read 98 = .ok (.goto 41, 3) := by decide +kernel
theorem xd_MO_read_101 : decode xc_MO_read 101 = .ok (.iload_n 2, 1) := by decide +kernel
theorem xd_MO_read_102 : decode xc_MO_read 102 = .ok (.invokestatic 129, 3) := by decide +kernel
theorem xd_MO_read_105 : decode xc_MO_read 105 = .ok (.ifCond .ne 21, 3) := by decide +kernel
theorem xd_MO_read_108 : decode xc_MO_read 108 = .ok (.iload_n 2, 1) := by decide +kernel
theorem xd_MO_read_109 : decode xc_MO_read 109 = .ok (.bipush 94, 2) := by decide +kernel
theorem xd_MO_read_111 : decode xc_MO_read 111 = .ok (.if_icmp .eq 15, 3) := by decide +kernel
theorem xd_MO_read_114 : decode xc_MO_read 114 = .ok (.iload_n 2, 1) := by decide +kernel
theorem xd_MO_read_115 : decode xc_MO_read 115 = .ok (.bipush 46, 2) := by decide +kernel
theorem xd_MO_read_117 : decode xc_MO_read 117 = .ok (.if_icmp .eq 9, 3) := by decide +kernel
theorem xd_MO_read_120 : decode xc_MO_read 120 = .ok (.iload_n 2, 1) := by decide +kernel
theorem xd_MO_read_121 : decode xc_MO_read 121 = .ok (.bipush 91, 2) := by decide +kernel
theorem xd_MO_read_123 : decode xc_MO_read 123 = .ok (.if_icmp .ne 14, 3) := by decide +kernel
theorem xd_MO_read_126 : decode xc_MO_read 126 = .ok (.aload_n 0, 1) := by decide +kernel
theorem xd_MO_read_127 : decode xc_MO_read 127 = .ok (.invokevirtual 133, 3) := by decide +kernel
theorem xd_MO_read_130 : decode xc_MO_read 130 = .ok (.aload_n 0, 1) := by decide +kernel
theorem xd_MO_read_131 : decode xc_MO_read 131 = .ok (.invokevirtual 136, 3) := by decide +kernel
theorem xd_MO_read_134 : decode xc_MO_read 134 = .ok (.goto 5, 3) := by decide +kernel
theorem xd_MO_read_137 : decode xc_MO_read 137 = .ok (.iconst 0, 1) := by decide +kernel
theorem xd_MO_read_138 : decode xc_MO_read 138 = .ok (.istore_n 1, 1) := by decide +kernel
theorem xd_MO_read_139 : decode xc_MO_read 139 = .ok (.goto (-137), 3) := by decide +kernel
theorem xd_MO_read_142 : decode xc_MO_read 142 = .ok (.aload_n 0, 1) := by decide +kernel
theorem xd_MO_read_143 : decode xc_MO_read 143 = .ok (.getfield 72, 3) := by decide +kernel
theorem xd_MO_read_146 : decode xc_MO_read 146 = .ok (.aload_n 0, 1) := by decide +kernel
theorem xd_MO_read_147 : decode xc_MO_read 147 = .ok (.getfield 75, 3) := by decide +kernel
theorem xd_MO_read_150 : decode xc_MO_read 150 = .ok (.if_icmp .lt 10, 3) := by decide +kernel
theorem xd_MO_read_153 : decode xc_MO_read 153 = .ok (.aload_n 0, 1) := by decide +kernel
theorem xd_MO_read_154 : decode xc_MO_read 154 = .ok (.getfield 114, 3) := by decide +kernel
theorem xd_MO_read_157 : decode xc_MO_read 157 = .ok (.ifCond .le 7, 3) := by decide +kernel
theorem xd_MO_read_160 : decode xc_MO_read 160 = .ok (.aload_n 0, 1) := by decide +kernel
theorem xd_MO_read_161 : decode xc_MO_read 161 = .ok (.invokevirtual 89, 3) := by decide +kernel
theorem xd_MO_read_164 : decode xc_MO_read 164 = .ok (.aload_n 0, 1) := by decide +kernel
theorem xd_MO_read_165 : decode xc_MO_read 165 = .ok (.invokevirtual 81, 3) := by decide +kernel
theorem xd_MO_read_168 : decode xc_MO_read 168 = .ok (.ifCond .eq 7, 3) := by decide +kernel
theorem xd_MO_read_171 : decode xc_MO_read 171 = .ok (.aload_n 0, 1) := by decide +kernel
theorem xd_MO_read_172 : decode xc_MO_read 172 = .ok (.invokevirtual 126, 3) := by decide +kernel
theorem xd_MO_read_175 : decode xc_MO_read 175 = .ok (.return_, 1) := by decide +kernel
end
section
theorem xd_MO_goes_0 : decode xc_MO_goes 0 = .ok (.aload_n 0, 1) := by decide +kernel
theorem xd_MO_goes_1 : decode xc_MO_goes 1 = .ok (.getfield 78, 3) := by decide +kernel
theorem xd_MO_goes_4 : decode xc_MO_goes 4 = .ok (.iconst (-1), 1) := by decide +kernel
theorem xd_MO_goes_5 : decode xc_MO_goes 5 = .ok (.if_icmp .ne 7, 3) := by decide +kernel
theorem xd_MO_goes_8 : decode xc_MO_goes 8 = .ok (.iconst 1, 1) := by decide +kernel
theorem xd_MO_goes_9 : decode xc_MO_goes 9 = .ok (.goto 4, 3) := by decide +kernel
theorem xd_MO_goes_12 : decode xc_MO_goes 12 = .ok (.iconst 0, 1) := by decide +kernel
theorem xd_MO_goes_13 : decode xc_MO_goes 13 = .ok (.ireturn, 1) := by decide +kernel
theorem xd_MO_now_0 : decode xc_MO_now 0 = .ok (.aload_n 0, 1) := by decide +kernel
theorem xd_MO_now_1 : decode xc_MO_now 1 = .ok (.getfield 72, 3) := by decide +kernel
theorem xd_MO_now_4 : decode xc_MO_now 4 = .ok (.aload_n 0, 1) := by decide +kernel
theorem xd_MO_now_5 : decode xc_MO_now 5 = .ok (.getfield 75, 3) := by decide +kernel
theorem xd_MO_now_8 : decode xc_MO_now 8 = .ok (.if_icmp .ge 15, 3) := by decide +kernel
theorem xd_MO_now_11 : decode xc_MO_now 11 = .ok (.aload_n 0, 1) := by decide +kernel
theorem xd_MO_now_12 : decode xc_MO_now 12 = .ok (.getfield 29, 3) := by decide +kernel
theorem xd_MO_now_15 : decode xc_MO_now 15 = .ok (.aload_n 0, 1) := by decide +kernel
theorem xd_MO_now_16 : decode xc_MO_now 16 = .ok (.getfield 72, 3) := by decide +kernel
theorem xd_MO_now_19 : decode xc_MO_now 19 = .ok (.iaload, 1) := by decide +kernel
theorem xd_MO_now_20 : decode xc_MO_now 20 = .ok (.goto 4, 3) := by decide +kernel
theorem xd_MO_now_23 : decode xc_MO_now 23 = .ok (.iconst 0, 1) := by decide +kernel
theorem xd_MO_now_24 : decode xc_MO_now 24 = .ok (.ireturn, 1) := by decide +kernel
theorem xd_MO_opens_0 : decode xc_MO_opens 0 = .ok (.aload_n 0, 1) := by decide +kernel
theorem xd_MO_opens_1 : decode xc_MO_opens 1 = .ok (.getfield 114, 3) := by decide +kernel
theorem xd_MO_opens_4 : decode xc_MO_opens 4 = .ok (.bipush 10, 2) := by decide +kernel
theorem xd_MO_opens_6 : decode xc_MO_opens 6 = .ok (.if_icmp .ne 8, 3) := by decide +kernel
theorem xd_MO_opens_9 : decode xc_MO_opens 9 = .ok (.aload_n 0, 1) := by decide +kernel
theorem xd_MO_opens_10 : decode xc_MO_opens 10 = .ok (.invokevirtual 89, 3) := by decide +kernel
theorem xd_MO_opens_13 : decode xc_MO_opens 13 = .ok (.return_, 1) := by decide +kernel
theorem xd_MO_opens_14 : decode xc_MO_opens 14 = .ok (.aload_n 0, 1) := by decide +kernel
theorem xd_MO_opens_15 : decode xc_MO_opens 15 = .ok (.dup, 1) := by decide +kernel
theorem xd_MO_opens_16 : decode xc_MO_opens 16 = .ok (.getfield 72, 3) := by decide +kernel
theorem xd_MO_opens_19 : decode xc_MO_opens 19 = .ok (.iconst 1, 1) := by decide +kernel
theorem xd_MO_opens_20 : decode xc_MO_opens 20 = .ok (.iadd, 1) := by decide +kernel
theorem xd_MO_opens_21 : decode xc_MO_opens 21 = .ok (.putfield 72, 3) := by decide +kernel
theorem xd_MO_opens_24 : decode xc_MO_opens 24 = .ok (.aload_n 0, 1) := by decide +kernel
theorem xd_MO_opens_25 : decode xc_MO_opens 25 = .ok (.dup, 1) := by decide +kernel
theorem xd_MO_opens_26 : decode xc_MO_opens 26 = .ok (.getfield 114, 3) := by decide +kernel
theorem xd_MO_opens_29 : decode xc_MO_opens 29 = .ok (.iconst 1, 1) := by decide +kernel
theorem xd_MO_opens_30 : decode xc_MO_opens 30 = .ok (.iadd, 1) := by decide +kernel
theorem xd_MO_opens_31 : decode xc_MO_opens 31 = .ok (.putfield 114, 3) := by decide +kernel
theorem xd_MO_opens_34 : decode xc_MO_opens 34 = .ok (.aload_n 0, 1) := by decide +kernel
theorem xd_MO_opens_35 : decode xc_MO_opens 35 = .ok (.invokevirtual 117, 3) := by decide +kernel
theorem xd_MO_opens_38 : decode xc_MO_opens 38 = .ok (.return_, 1) := by decide +kernel
theorem xd_MO_fail_0 : decode xc_MO_fail 0 = .ok (.aload_n 0, 1) := by decide +kernel
theorem xd_MO_fail_1 : decode xc_MO_fail 1 = .ok (.aload_n 0, 1) := by decide +kernel
theorem xd_MO_fail_2 : decode xc_MO_fail 2 = .ok (.getfield 78, 3) := by decide +kernel
theorem xd_MO_fail_5 : decode xc_MO_fail 5 = .ok (.iconst (-1), 1) := by decide +kernel
theorem xd_MO_fail_6 : decode xc_MO_fail 6 = .ok (.if_icmp .ne 10, 3) := by decide +kernel
theorem xd_MO_fail_9 : decode xc_MO_fail 9 = .ok (.aload_n 0, 1) := by decide +kernel
theorem xd_MO_fail_10 : decode xc_MO_fail 10 = .ok (.getfield 72, 3) := by decide +kernel
theorem xd_MO_fail_13 : decode xc_MO_fail 13 = .ok (.goto 7, 3) := by decide +kernel
theorem xd_MO_fail_16 : decode xc_MO_fail 16 = .ok (.aload_n 0, 1) := by decide +kernel
theorem xd_MO_fail_17 : decode xc_MO_fail 17 = .ok (.getfield 78, 3) := by decide +kernel
theorem xd_MO_fail_20 : decode xc_MO_fail 20 = .ok (.putfield 78, 3) := by decide +kernel
theorem xd_MO_fail_23 : decode xc_MO_fail 23 = .ok (.return_, 1) := by decide +kernel
theorem xd_MO_shuts_0 : decode xc_MO_shuts 0 = .ok (.aload_n 0, 1) := by decide +kernel
theorem xd_MO_shuts_1 : decode xc_MO_shuts 1 = .ok (.dup, 1) := by decide +kernel
theorem xd_MO_shuts_2 : decode xc_MO_shuts 2 = .ok (.getfield 72, 3) := by decide +kernel
theorem xd_MO_shuts_5 : decode xc_MO_shuts 5 = .ok (.iconst 1, 1) := by decide +kernel
theorem xd_MO_shuts_6 : decode xc_MO_shuts 6 = .ok (.iadd, 1) := by decide +kernel
theorem xd_MO_shuts_7 : decode xc_MO_shuts 7 = .ok (.putfield 72, 3) := by decide +kernel
theorem xd_MO_shuts_10 : decode xc_MO_shuts 10 = .ok (.aload_n 0, 1) := by decide +kernel
theorem xd_MO_shuts_11 : decode xc_MO_shuts 11 = .ok (.invokevirtual 126, 3) := by decide +kernel
theorem xd_MO_shuts_14 : decode xc_MO_shuts 14 = .ok (.aload_n 0, 1) := by decide +kernel
theorem xd_MO_shuts_15 : decode xc_MO_shuts 15 = .ok (.iconst 3, 1) := by decide +kernel
theorem xd_MO_shuts_16 : decode xc_MO_shuts 16 = .ok (.aload_n 0, 1) := by decide +kernel
theorem xd_MO_shuts_17 : decode xc_MO_shuts 17 = .ok (.getfield 114, 3) := by decide +kernel
theorem xd_MO_shuts_20 : decode xc_MO_shuts 20 = .ok (.imul, 1) := by decide +kernel
theorem xd_MO_shuts_21 : decode xc_MO_shuts 21 = .ok (.iconst 3, 1) := by decide +kernel
theorem xd_MO_shuts_22 : decode xc_MO_shuts 22 = .ok (.aload_n 0, 1) := by decide +kernel
theorem xd_MO_shuts_23 : decode xc_MO_shuts 23 = .ok (.getfield 114, 3) := by decide +kernel
theorem xd_MO_shuts_26 : decode xc_MO_shuts 26 = .ok (.imul, 1) := by decide +kernel
theorem xd_MO_shuts_27 : decode xc_MO_shuts 27 = .ok (.iconst 1, 1) := by decide +kernel
theorem xd_MO_shuts_28 : decode xc_MO_shuts 28 = .ok (.isub, 1) := by decide +kernel
theorem xd_MO_shuts_29 : decode xc_MO_shuts 29 = .ok (.invokevirtual 105, 3) := by decide +kernel
theorem xd_MO_shuts_32 : decode xc_MO_shuts 32 = .ok (.aload_n 0, 1) := by decide +kernel
theorem xd_MO_shuts_33 : decode xc_MO_shuts 33 = .ok (.getfield 36, 3) := by decide +kernel
theorem xd_MO_shuts_36 : decode xc_MO_shuts 36 = .ok (.iconst 3, 1) := by decide +kernel
theorem xd_MO_shuts_37 : decode xc_MO_shuts 37 = .ok (.aload_n 0, 1) := by decide +kernel
theorem xd_MO_shuts_38 : decode xc_MO_shuts 38 = .ok (.getfield 114, 3) := by decide +kernel
theorem xd_MO_shuts_41 : decode xc_MO_shuts 41 = .ok (.imul, 1) := by decide +kernel
theorem xd_MO_shuts_42 : decode xc_MO_shuts 42 = .ok (.iconst 1, 1) := by decide +kernel
theorem xd_MO_shuts_43 : decode xc_MO_shuts 43 = .ok (.isub, 1) := by decide +kernel
theorem xd_MO_shuts_44 : decode xc_MO_shuts 44 = .ok (.aload_n 0, 1) := by decide +kernel
theorem xd_MO_shuts_45 : decode xc_MO_shuts 45 = .ok (.getfield 36, 3) := by decide +kernel
theorem xd_MO_shuts_48 : decode xc_MO_shuts 48 = .ok (.iconst 3, 1) := by decide +kernel
theorem xd_MO_shuts_49 : decode xc_MO_shuts 49 = .ok (.aload_n 0, 1) := by decide +kernel
theorem xd_MO_shuts_50 : decode xc_MO_shuts 50 = .ok (.getfield 114, 3) := by decide +kernel
theorem xd_MO_shuts_53 : decode xc_MO_shuts 53 = .ok (.imul, 1) := by decide +kernel
theorem xd_MO_shuts_54 : decode xc_MO_shuts 54 = .ok (.iaload, 1) := by decide +kernel
theorem xd_MO_shuts_55 : decode xc_MO_shuts 55 = .ok (.iastore, 1) := by decide +kernel
theorem xd_MO_shuts_56 : decode xc_MO_shuts 56 = .ok (.aload_n 0, 1) := by decide +kernel
theorem xd_MO_shuts_57 : decode xc_MO_shuts 57 = .ok (.dup, 1) := by decide +kernel
theorem xd_MO_shuts_58 : decode xc_MO_shuts 58 = .ok (.getfield 114, 3) := by decide +kernel
theorem xd_MO_shuts_61 : decode xc_MO_shuts 61 = .ok (.iconst 1, 1) := by decide +kernel
theorem xd_MO_shuts_62 : decode xc_MO_shuts 62 = .ok (.isub, 1) := by decide +kernel
theorem xd_MO_shuts_63 : decode xc_MO_shuts 63 = .ok (.putfield 114, 3) := by decide +kernel
theorem xd_MO_shuts_66 : decode xc_MO_shuts 66 = .ok (.aload_n 0, 1) := by decide +kernel
theorem xd_MO_shuts_67 : decode xc_MO_shuts 67 = .ok (.invokevirtual 136, 3) := by decide +kernel
theorem xd_MO_shuts_70 : decode xc_MO_shuts 70 = .ok (.return_, 1) := by decide +kernel
theorem xd_MO_bar_0 : decode xc_MO_bar 0 = .ok (.aload_n 0, 1) := by decide +kernel
theorem xd_MO_bar_1 : decode xc_MO_bar 1 = .ok (.getfield 39, 3) := by decide +kernel
theorem xd_MO_bar_4 : decode xc_MO_bar 4 = .ok (.aload_n 0, 1) := by decide +kernel
theorem xd_MO_bar_5 : decode xc_MO_bar 5 = .ok (.getfield 114, 3) := by decide +kernel
theorem xd_MO_bar_8 : decode xc_MO_bar 8 = .ok (.baload, 1) := by decide +kernel
theorem xd_MO_bar_9 : decode xc_MO_bar 9 = .ok (.ifCond .eq 24, 3) := by decide +kernel
theorem xd_MO_bar_12 : decode xc_MO_bar 12 = .ok (.aload_n 0, 1) := by decide +kernel
theorem xd_MO_bar_13 : decode xc_MO_bar 13 = .ok (.iconst 3, 1) := by decide +kernel
theorem xd_MO_bar_14 : decode xc_MO_bar 14 = .ok (.aload_n 0, 1) := by decide +kernel
theorem xd_MO_bar_15 : decode xc_MO_bar 15 = .ok (.getfield 114, 3) := by decide +kernel
theorem xd_MO_bar_18 : decode xc_MO_bar 18 = .ok (.imul, 1) := by decide +kernel
theorem xd_MO_bar_19 : decode xc_MO_bar 19 = .ok (.iconst 3, 1) := by decide +kernel
theorem xd_MO_bar_20 : decode xc_MO_bar 20 = .ok (.aload_n 0, 1) := by decide +kernel
theorem xd_MO_bar_21 : decode xc_MO_bar 21 = .ok (.getfield 114, 3) := by decide +kernel
theorem xd_MO_bar_24 : decode xc_MO_bar 24 = .ok (.imul, 1) := by decide +kernel
theorem xd_MO_bar_25 : decode xc_MO_bar 25 = .ok (.iconst 1, 1) := by decide +kernel
theorem xd_MO_bar_26 : decode xc_MO_bar 26 = .ok (.iadd, 1) := by decide +kernel
theorem xd_MO_bar_27 : decode xc_MO_bar 27 = .ok (.invokevirtual 110, 3) := by decide +kernel
theorem xd_MO_bar_30 : decode xc_MO_bar 30 = .ok (.goto 21, 3) := by decide +kernel
theorem xd_MO_bar_33 : decode xc_MO_bar 33 = .ok (.aload_n 0, 1) := by decide +kernel
theorem xd_MO_bar_34 : decode xc_MO_bar 34 = .ok (.iconst 3, 1) := by decide +kernel
theorem xd_MO_bar_35 : decode xc_MO_bar 35 = .ok (.aload_n 0, 1) := by decide +kernel
theorem xd_MO_bar_36 : decode xc_MO_bar 36 = .ok (.getfield 114, 3) := by decide +kernel
theorem xd_MO_bar_39 : decode xc_MO_bar 39 = .ok (.imul, 1) := by decide +kernel
theorem xd_MO_bar_40 : decode xc_MO_bar 40 = .ok (.iconst 1, 1) := by decide +kernel
theorem xd_MO_bar_41 : decode xc_MO_bar 41 = .ok (.iadd, 1) := by decide +kernel
theorem xd_MO_bar_42 : decode xc_MO_bar 42 = .ok (.iconst 3, 1) := by decide +kernel
theorem xd_MO_bar_43 : decode xc_MO_bar 43 = .ok (.aload_n 0, 1) := by decide +kernel
theorem xd_MO_bar_44 : decode xc_MO_bar 44 = .ok (.getfield 114, 3) := by decide +kernel
theorem xd_MO_bar_47 : decode xc_MO_bar 47 = .ok (.imul, 1) := by decide +kernel
theorem xd_MO_bar_48 : decode xc_MO_bar 48 = .ok (.invokevirtual 105, 3) := by decide +kernel
theorem xd_MO_bar_51 : decode xc_MO_bar 51 = .ok (.aload_n 0, 1) := by decide +kernel
theorem xd_MO_bar_52 : decode xc_MO_bar 52 = .ok (.getfield 39, 3) := by decide +kernel
theorem xd_MO_bar_55 : decode xc_MO_bar 55 = .ok (.aload_n 0, 1) := by decide +kernel
theorem xd_MO_bar_56 : decode xc_MO_bar 56 = .ok (.getfield 114, 3) := by decide +kernel
theorem xd_MO_bar_59 : decode xc_MO_bar 59 = .ok (.iconst 1, 1) := by decide +kernel
theorem xd_MO_bar_60 : decode xc_MO_bar 60 = .ok (.bastore, 1) := by decide +kernel
theorem xd_MO_bar_61 : decode xc_MO_bar 61 = .ok (.aload_n 0, 1) := by decide +kernel
theorem xd_MO_bar_62 : decode xc_MO_bar 62 = .ok (.getfield 36, 3) := by decide +kernel
theorem xd_MO_bar_65 : decode xc_MO_bar 65 = .ok (.iconst 3, 1) := by decide +kernel
theorem xd_MO_bar_66 : decode xc_MO_bar 66 = .ok (.aload_n 0, 1) := by decide +kernel
theorem xd_MO_bar_67 : decode xc_MO_bar 67 = .ok (.getfield 114, 3) := by decide +kernel
theorem xd_MO_bar_70 : decode xc_MO_bar 70 = .ok (.imul, 1) := by decide +kernel
theorem xd_MO_bar_71 : decode xc_MO_bar 71 = .ok (.dup2, 1) := by decide +kernel
theorem xd_MO_bar_72 : decode xc_MO_bar 72 = .ok (.iaload, 1) := by decide +kernel
theorem xd_MO_bar_73 : decode xc_MO_bar 73 = .ok (.aload_n 0, 1) := by decide +kernel
theorem xd_MO_bar_74 : decode xc_MO_bar 74 = .ok (.getfield 36, 3) := by decide +kernel
theorem xd_MO_bar_77 : decode xc_MO_bar 77 = .ok (.iconst 3, 1) := by decide +kernel
theorem xd_MO_bar_78 : decode xc_MO_bar 78 = .ok (.aload_n 0, 1) := by decide +kernel
theorem xd_MO_bar_79 : decode xc_MO_bar 79 = .ok (.getfield 114, 3) := by decide +kernel
theorem xd_MO_bar_82 : decode xc_MO_bar 82 = .ok (.imul, 1) := by decide +kernel
theorem xd_MO_bar_83 : decode xc_MO_bar 83 = .ok (.iconst 1, 1) := by decide +kernel
theorem xd_MO_bar_84 : decode xc_MO_bar 84 = .ok (.iadd, 1) := by decide +kernel
theorem xd_MO_bar_85 : decode xc_MO_bar 85 = .ok (.iaload, 1) := by decide +kernel
theorem xd_MO_bar_86 : decode xc_MO_bar 86 = .ok (.iadd, 1) := by decide +kernel
theorem xd_MO_bar_87 : decode xc_MO_bar 87 = .ok (.iastore, 1) := by decide +kernel
theorem xd_MO_bar_88 : decode xc_MO_bar 88 = .ok (.return_, 1) := by decide +kernel
theorem xd_MO_either_0 : decode xc_MO_either 0 = .ok (.iconst 0, 1) := by decide +kernel
theorem xd_MO_either_1 : decode xc_MO_either 1 = .ok (.istore_n 3, 1) := by decide +kernel
theorem xd_MO_either_2 : decode xc_MO_either 2 = .ok (.aload_n 0, 1) := by decide +kernel
theorem xd_MO_either_3 : decode xc_MO_either 3 = .ok (.getfield 92, 3) := by decide +kernel
theorem xd_MO_either_6 : decode xc_MO_either 6 = .ok (.ifCond .eq 76, 3) := by decide +kernel
theorem xd_MO_either_9 : decode xc_MO_either 9 = .ok (.iload_n 3, 1) := by decide +kernel
theorem xd_MO_either_10 : decode xc_MO_either 10 = .ok (.sipush 1024, 3) := by decide +kernel
theorem xd_MO_either_13 : decode xc_MO_either 13 = .ok (.if_icmp .ge 69, 3) := by decide +kernel
theorem xd_MO_either_16 : decode xc_MO_either 16 = .ok (.aload_n 0, 1) := by decide +kernel
theorem xd_MO_either_17 : decode xc_MO_either 17 = .ok (.getfield 33, 3) := by decide +kernel
theorem xd_MO_either_20 : decode xc_MO_either 20 = .ok (.sipush 1024, 3) := by decide +kernel
theorem xd_MO_either_23 : decode xc_MO_either 23 = .ok (.iload_n 2, 1) := by decide +kernel
theorem xd_MO_either_24 : decode xc_MO_either 24 = .ok (.imul, 1) := by decide +kernel
theorem xd_MO_either_25 : decode xc_MO_either 25 = .ok (.iload_n 3, 1) := by decide +kernel
theorem xd_MO_either_26 : decode xc_MO_either 26 = .ok (.iadd, 1) := by decide +kernel
theorem xd_MO_either_27 : decode xc_MO_either 27 = .ok (.iaload, 1) := by decide +kernel
theorem xd_MO_either_28 : decode xc_MO_either 28 = .ok (.istore 4, 2) := by decide +kernel
theorem xd_MO_either_30 : decode xc_MO_either 30 = .ok (.aload_n 0, 1) := by decide +kernel
theorem xd_MO_either_31 : decode xc_MO_either 31 = .ok (.getfield 33, 3) := by decide +kernel
theorem xd_MO_either_34 : decode xc_MO_either 34 = .ok (.sipush 1024, 3) := by decide +kernel
theorem xd_MO_either_37 : decode xc_MO_either 37 = .ok (.iload_n 1, 1) := by decide +kernel
theorem xd_MO_either_38 : decode xc_MO_either 38 = .ok (.imul, 1) := by decide +kernel
theorem xd_MO_either_39 : decode xc_MO_either 39 = .ok (.iload_n 3, 1) := by decide +kernel
theorem xd_MO_either_40 : decode xc_MO_either 40 = .ok (.iadd, 1) := by decide +kernel
theorem xd_MO_either_41 : decode xc_MO_either 41 = .ok (.iload 4, 2) := by decide +kernel
theorem xd_MO_either_43 : decode xc_MO_either 43 = .ok (.aload_n 0, 1) := by decide +kernel
theorem xd_MO_either_44 : decode xc_MO_either 44 = .ok (.getfield 33, 3) := by decide +kernel
theorem xd_MO_either_47 : decode xc_MO_either 47 = .ok (.sipush 1024, 3) := by decide +kernel
theorem xd_MO_either_50 : decode xc_MO_either 50 = .ok (.iload_n 1, 1) := by decide +kernel
theorem xd_MO_either_51 : decode xc_MO_either 51 = .ok (.imul, 1) := by decide +kernel
theorem xd_MO_either_52 : decode xc_MO_either 52 = .ok (.iload_n 3, 1) := by decide +kernel
theorem xd_MO_either_53 : decode xc_MO_either 53 = .ok (.iadd, 1) := by decide +kernel
theorem xd_MO_either_54 : decode xc_MO_either 54 = .ok (.iaload, 1) := by decide +kernel
theorem xd_MO_either_55 : decode xc_MO_either 55 = .ok (.if_icmp .ge 8, 3) := by decide +kernel
theorem xd_MO_either_58 : decode xc_MO_either 58 = .ok (.iload 4, 2) := by decide +kernel
theorem xd_MO_either_60 : decode xc_MO_either 60 = .ok (.goto 15, 3) := by decide +kernel
theorem xd_MO_either_63 : decode xc_MO_either 63 = .ok (.aload_n 0, 1) := by decide +kernel
theorem xd_MO_either_64 : decode xc_MO_either 64 = .ok (.getfield 33, 3) := by decide +kernel
theorem xd_MO_either_67 : decode xc_MO_either 67 = .ok (.sipush 1024, 3) := by decide +kernel
theorem xd_MO_either_70 : decode xc_MO_either 70 = .ok (.iload_n 1, 1) := by decide +kernel
theorem xd_MO_either_71 : decode xc_MO_either 71 = .ok (.imul, 1) := by decide +kernel
theorem xd_MO_either_72 : decode xc_MO_either 72 = .ok (.iload_n 3, 1) := by decide +kernel
theorem xd_MO_either_73 : decode xc_MO_either 73 = .ok (.iadd, 1) := by decide +kernel
theorem xd_MO_either_74 : decode xc_MO_either 74 = .ok (.iaload, 1) := by decide +kernel
theorem xd_MO_either_75 : decode xc_MO_either 75 = .ok (.iastore, 1) := by decide +kernel
theorem xd_MO_either_76 : decode xc_MO_either 76 = .ok (.iinc 3 1, 3) := by decide +kernel
theorem xd_MO_either_79 : decode xc_MO_either 79 = .ok (.goto (-77), 3) := by decide +kernel
theorem xd_MO_either_82 : decode xc_MO_either 82 = .ok (.return_, 1) := by decide +kernel
theorem xd_MO_copy_0 : decode xc_MO_copy 0 = .ok (.iconst 0, 1) := by decide +kernel
theorem xd_MO_copy_1 : decode xc_MO_copy 1 = .ok (.istore_n 3, 1) := by decide +kernel
theorem xd_MO_copy_2 : decode xc_MO_copy 2 = .ok (.aload_n 0, 1) := by decide +kernel
theorem xd_MO_copy_3 : decode xc_MO_copy 3 = .ok (.getfield 92, 3) := by decide +kernel
theorem xd_MO_copy_6 : decode xc_MO_copy 6 = .ok (.ifCond .eq 40, 3) := by decide +kernel
theorem xd_MO_copy_9 : decode xc_MO_copy 9 = .ok (.iload_n 3, 1) := by decide +kernel
theorem xd_MO_copy_10 : decode xc_MO_copy 10 = .ok (.sipush 1024, 3) := by decide +kernel
theorem xd_MO_copy_13 : decode xc_MO_copy 13 = .ok (.if_icmp .ge 33, 3) := by decide +kernel
theorem xd_MO_copy_16 : decode xc_MO_copy 16 = .ok (.aload_n 0, 1) := by decide +kernel
theorem xd_MO_copy_17 : decode xc_MO_copy 17 = .ok (.getfield 33, 3) := by decide +kernel
theorem xd_MO_copy_20 : decode xc_MO_copy 20 = .ok (.sipush 1024, 3) := by decide +kernel
theorem xd_MO_copy_23 : decode xc_MO_copy 23 = .ok (.iload_n 2, 1) := by decide +kernel
theorem xd_MO_copy_24 : decode xc_MO_copy 24 = .ok (.imul, 1) := by decide +kernel
theorem xd_MO_copy_25 : decode xc_MO_copy 25 = .ok (.iload_n 3, 1) := by decide +kernel
theorem xd_MO_copy_26 : decode xc_MO_copy 26 = .ok (.iadd, 1) := by decide +kernel
theorem xd_MO_copy_27 : decode xc_MO_copy 27 = .ok (.aload_n 0, 1) := by decide +kernel
theorem xd_MO_copy_28 : decode xc_MO_copy 28 = .ok (.getfield 33, 3) := by decide +kernel
theorem xd_MO_copy_31 : decode xc_MO_copy 31 = .ok (.sipush 1024, 3) := by decide +kernel
theorem xd_MO_copy_34 : decode xc_MO_copy 34 = .ok (.iload_n 1, 1) := by decide +kernel
theorem xd_MO_copy_35 : decode xc_MO_copy 35 = .ok (.imul, 1) := by decide +kernel
theorem xd_MO_copy_36 : decode xc_MO_copy 36 = .ok (.iload_n 3, 1) := by decide +kernel
theorem xd_MO_copy_37 : decode xc_MO_copy 37 = .ok (.iadd, 1) := by decide +kernel
theorem xd_MO_copy_38 : decode xc_MO_copy 38 = .ok (.iaload, 1) := by decide +kernel
theorem xd_MO_copy_39 : decode xc_MO_copy 39 = .ok (.iastore, 1) := by decide +kernel
theorem xd_MO_copy_40 : decode xc_MO_copy 40 = .ok (.iinc 3 1, 3) := by decide +kernel
theorem xd_MO_copy_43 : decode xc_MO_copy 43 = .ok (.goto (-41), 3) := by decide +kernel
theorem xd_MO_copy_46 : decode xc_MO_copy 46 = .ok (.return_, 1) := by decide +kernel
theorem xd_MO_signs_0 : decode xc_MO_signs 0 = .ok (.iconst 3, 1) := by decide +kernel
theorem xd_MO_signs_1 : decode xc_MO_signs 1 = .ok (.aload_n 0, 1) := by decide +kernel
theorem xd_MO_signs_2 : decode xc_MO_signs 2 = .ok (.getfield 114, 3) := by decide +kernel
theorem xd_MO_signs_5 : decode xc_MO_signs 5 = .ok (.imul, 1) := by decide +kernel
theorem xd_MO_signs_6 : decode xc_MO_signs 6 = .ok (.iconst 2, 1) := by decide +kernel
theorem xd_MO_signs_7 : decode xc_MO_signs 7 = .ok (.iadd, 1) := by decide +kernel
theorem xd_MO_signs_8 : decode xc_MO_signs 8 = .ok (.istore_n 1, 1) := by decide +kernel
theorem xd_MO_signs_9 : decode xc_MO_signs 9 = .ok (.aload_n 0, 1) := by decide +kernel
theorem xd_MO_signs_10 : decode xc_MO_signs 10 = .ok (.invokevirtual 81, 3) := by decide +kernel
theorem xd_MO_signs_13 : decode xc_MO_signs 13 = .ok (.ifCond .eq 122, 3) := by decide +kernel
theorem xd_MO_signs_16 : decode xc_MO_signs 16 = .ok (.aload_n 0, 1) := by decide +kernel
theorem xd_MO_signs_17 : decode xc_MO_signs 17 = .ok (.invokevirtual 85, 3) := by decide +kernel
theorem xd_MO_signs_20 : decode xc_MO_signs 20 = .ok (.bipush 42, 2) := by decide +kernel
theorem xd_MO_signs_22 : decode xc_MO_signs 22 = .ok (.if_icmp .eq 30, 3) := by decide +kernel
theorem xd_MO_signs_25 : decode xc_MO_signs 25 = .ok (.aload_n 0, 1) := by decide +kernel
theorem xd_MO_signs_26 : decode xc_MO_signs 26 = .ok (.invokevirtual 85, 3) := by decide +kernel
theorem xd_MO_signs_29 : decode xc_MO_signs 29 = .ok (.bipush 43, 2) := by decide +kernel
theorem xd_MO_signs_31 : decode xc_MO_signs 31 = .ok (.if_icmp .eq 21, 3) := by decide +kernel
theorem xd_MO_signs_34 : decode xc_MO_signs 34 = .ok (.aload_n 0, 1) := by decide +kernel
theorem xd_MO_signs_35 : decode xc_MO_signs 35 = .ok (.invokevirtual 85, 3) := by decide +kernel
theorem xd_MO_signs_38 : decode xc_MO_signs 38 = .ok (.bipush 63, 2) := by decide +kernel
theorem xd_MO_signs_40 : decode xc_MO_signs 40 = .ok (.if_icmp .eq 12, 3) := by decide +kernel
theorem xd_MO_signs_43 : decode xc_MO_signs 43 = .ok (.aload_n 0, 1) := by decide +kernel
theorem xd_MO_signs_44 : decode xc_MO_signs 44 = .ok (.invokevirtual 85, 3) := by decide +kernel
theorem xd_MO_signs_47 : decode xc_MO_signs 47 = .ok (.bipush 123, 2) := by decide +kernel
theorem xd_MO_signs_49 : decode xc_MO_signs 49 = .ok (.if_icmp .ne 86, 3) := by decide +kernel
theorem xd_MO_signs_52 : decode xc_MO_signs 52 = .ok (.aload_n 0, 1) := by decide +kernel
theorem xd_MO_signs_53 : decode xc_MO_signs 53 = .ok (.invokevirtual 85, 3) := by decide +kernel
theorem xd_MO_signs_56 : decode xc_MO_signs 56 = .ok (.istore_n 2, 1) := by decide +kernel
theorem xd_MO_signs_57 : decode xc_MO_signs 57 = .ok (.aload_n 0, 1) := by decide +kernel
theorem xd_MO_signs_58 : decode xc_MO_signs 58 = .ok (.dup, 1) := by decide +kernel
theorem xd_MO_signs_59 : decode xc_MO_signs 59 = .ok (.getfield 72, 3) := by decide +kernel
theorem xd_MO_signs_62 : decode xc_MO_signs 62 = .ok (.iconst 1, 1) := by decide +kernel
theorem xd_MO_signs_63 : decode xc_MO_signs 63 = .ok (.iadd, 1) := by decide +kernel
theorem xd_MO_signs_64 : decode xc_MO_signs 64 = .ok (.putfield 72, 3) := by decide +kernel
theorem xd_MO_signs_67 : decode xc_MO_signs 67 = .ok (.iload_n 2, 1) := by decide +kernel
theorem xd_MO_signs_68 : decode xc_MO_signs 68 = .ok (.bipush 123, 2) := by decide +kernel
theorem xd_MO_signs_70 : decode xc_MO_signs 70 = .ok (.if_icmp .ne 11, 3) := by decide +kernel
theorem xd_MO_signs_73 : decode xc_MO_signs 73 = .ok (.aload_n 0, 1) := by decide +kernel
theorem xd_MO_signs_74 : decode xc_MO_signs 74 = .ok (.iload_n 1, 1) := by decide +kernel
theorem xd_MO_signs_75 : decode xc_MO_signs 75 = .ok (.invokevirtual 146, 3) := by decide +kernel
theorem xd_MO_signs_78 : decode xc_MO_signs 78 = .ok (.goto 54, 3) := by decide +kernel
theorem xd_MO_signs_81 : decode xc_MO_signs 81 = .ok (.iload_n 2, 1) := by decide +kernel
theorem xd_MO_signs_82 : decode xc_MO_signs 82 = .ok (.bipush 63, 2) := by decide +kernel
theorem xd_MO_signs_84 : decode xc_MO_signs 84 = .ok (.if_icmp .ne 20, 3) := by decide +kernel
theorem xd_MO_signs_87 : decode xc_MO_signs 87 = .ok (.aload_n 0, 1) := by decide +kernel
theorem xd_MO_signs_88 : decode xc_MO_signs 88 = .ok (.bipush 36, 2) := by decide +kernel
theorem xd_MO_signs_90 : decode xc_MO_signs 90 = .ok (.iconst 1, 1) := by decide +kernel
theorem xd_MO_signs_91 : decode xc_MO_signs 91 = .ok (.invokevirtual 97, 3) := by decide +kernel
theorem xd_MO_signs_94 : decode xc_MO_signs 94 = .ok (.aload_n 0, 1) := by decide +kernel
theorem xd_MO_signs_95 : decode xc_MO_signs 95 = .ok (.iload_n 1, 1) := by decide +kernel
theorem xd_MO_signs_96 : decode xc_MO_signs 96 = .ok (.bipush 36, 2) := by decide +kernel
theorem xd_MO_signs_98 : decode xc_MO_signs 98 = .ok (.invokevirtual 110, 3) := by decide +kernel
theorem xd_MO_signs_101 : decode xc_MO_signs 101 = .ok (.goto 31, 3) := by decide +kernel
theorem xd_MO_signs_104 : decode xc_MO_signs 104 = .ok (.aload_n 0, 1) := by decide +kernel
theorem xd_MO_signs_105 : decode xc_MO_signs 105 = .ok (.iload_n 1, 1) := by decide +kernel
theorem xd_MO_signs_106 : decode xc_MO_signs 106 = .ok (.invokevirtual 149, 3) := by decide +kernel
theorem xd_MO_signs_109 : decode xc_MO_signs 109 = .ok (.iload_n 2, 1) := by decide +kernel
theorem xd_MO_signs_110 : decode xc_MO_signs 110 = .ok (.bipush 43, 2) := by decide +kernel
theorem xd_MO_signs_112 : decode xc_MO_signs 112 = .ok (.if_icmp .ne 13, 3) := by decide +kernel
theorem xd_MO_signs_115 : decode xc_MO_signs 115 = .ok (.aload_n 0, 1) := by decide +kernel
theorem xd_MO_signs_116 : decode xc_MO_signs 116 = .ok (.iload_n 1, 1) := by decide +kernel
theorem xd_MO_signs_117 : decode xc_MO_signs 117 = .ok (.bipush 36, 2) := by decide +kernel
theorem xd_MO_signs_119 : decode xc_MO_signs 119 = .ok (.invokevirtual 152, 3) := by decide +kernel
theorem xd_MO_signs_122 : decode xc_MO_signs 122 = .ok (.goto 10, 3) := by decide +kernel
theorem xd_MO_signs_125 : decode xc_MO_signs 125 = .ok (.aload_n 0, 1) := by decide +kernel
theorem xd_MO_signs_126 : decode xc_MO_signs 126 = .ok (.bipush 36, 2) := by decide +kernel
theorem xd_MO_signs_128 : decode xc_MO_signs 128 = .ok (.iload_n 1, 1) := by decide +kernel
theorem xd_MO_signs_129 : decode xc_MO_signs 129 = .ok (.invokevirtual 105, 3) := by decide +kernel
theorem xd_MO_signs_132 : decode xc_MO_signs 132 = .ok (.goto (-123), 3) := by decide +kernel
theorem xd_MO_signs_135 : decode xc_MO_signs 135 = .ok (.aload_n 0, 1) := by decide +kernel
theorem xd_MO_signs_136 : decode xc_MO_signs 136 = .ok (.iload_n 1, 1) := by decide +kernel
theorem xd_MO_signs_137 : decode xc_MO_signs 137 = .ok (.iconst 1, 1) := by decide +kernel
theorem xd_MO_signs_138 : decode xc_MO_signs 138 = .ok (.isub, 1) := by decide +kernel
theorem xd_MO_signs_139 : decode xc_MO_signs 139 = .ok (.iload_n 1, 1) := by decide +kernel
theorem xd_MO_signs_140 : decode xc_MO_signs 140 = .ok (.invokevirtual 152, 3) := by decide +kernel
theorem xd_MO_signs_143 : decode xc_MO_signs 143 = .ok (.aload_n 0, 1) := by decide +kernel
theorem xd_MO_signs_144 : decode xc_MO_signs 144 = .ok (.getfield 36, 3) := by decide +kernel
theorem xd_MO_signs_147 : decode xc_MO_signs 147 = .ok (.iload_n 1, 1) := by decide +kernel
theorem xd_MO_signs_148 : decode xc_MO_signs 148 = .ok (.iconst 1, 1) := by decide +kernel
theorem xd_MO_signs_149 : decode xc_MO_signs 149 = .ok (.isub, 1) := by decide +kernel
theorem xd_MO_signs_150 : decode xc_MO_signs 150 = .ok (.dup2, 1) := by decide +kernel
theorem xd_MO_signs_151 : decode xc_MO_signs 151 = .ok (.iaload, 1) := by decide +kernel
theorem xd_MO_signs_152 : decode xc_MO_signs 152 = .ok (.aload_n 0, 1) := by decide +kernel
theorem xd_MO_signs_153 : decode xc_MO_signs 153 = .ok (.getfield 36, 3) := by decide +kernel
theorem xd_MO_signs_156 : decode xc_MO_signs 156 = .ok (.iload_n 1, 1) := by decide +kernel
theorem xd_MO_signs_157 : decode xc_MO_signs 157 = .ok (.iaload, 1) := by decide +kernel
theorem xd_MO_signs_158 : decode xc_MO_signs 158 = .ok (.iadd, 1) := by decide +kernel
theorem xd_MO_signs_159 : decode xc_MO_signs 159 = .ok (.iastore, 1) := by decide +kernel
theorem xd_MO_signs_160 : decode xc_MO_signs 160 = .ok (.return_, 1) := by decide +kernel
theorem xd_MO_counted_0 : decode xc_MO_counted 0 = .ok (.aload_n 0, 1) := by decide +kernel
theorem xd_MO_counted_1 : decode xc_MO_counted 1 = .ok (.iconst 0, 1) := by decide +kernel
theorem xd_MO_counted_2 : decode xc_MO_counted 2 = .ok (.invokevirtual 155, 3) := by decide +kernel
theorem xd_MO_counted_5 : decode xc_MO_counted 5 = .ok (.istore_n 2, 1) := by decide +kernel
theorem xd_MO_counted_6 : decode xc_MO_counted 6 = .ok (.iload_n 2, 1) := by decide +kernel
theorem xd_MO_counted_7 : decode xc_MO_counted 7 = .ok (.istore_n 3, 1) := by decide +kernel
theorem xd_MO_counted_8 : decode xc_MO_counted 8 = .ok (.aload_n 0, 1) := by decide +kernel
theorem xd_MO_counted_9 : decode xc_MO_counted 9 = .ok (.invokevirtual 81, 3) := by decide +kernel
theorem xd_MO_counted_12 : decode xc_MO_counted 12 = .ok (.ifCond .eq 36, 3) := by decide +kernel
theorem xd_MO_counted_15 : decode xc_MO_counted 15 = .ok (.aload_n 0, 1) := by decide +kernel
theorem xd_MO_counted_16 : decode xc_MO_counted 16 = .ok (.invokevirtual 85, 3) := by decide +kernel
theorem xd_MO_counted_19 : decode xc_MO_counted 19 = .ok (.bipush 44, 2) := by decide +kernel
theorem xd_MO_counted_21 : decode xc_MO_counted 21 = .ok (.if_icmp .ne 27, 3) := by decide +kernel
theorem xd_MO_counted_24 : decode xc_MO_counted 24 = .ok (.aload_n 0, 1) := by decide +kernel
theorem xd_MO_counted_25 : decode xc_MO_counted 25 = .ok (.dup, 1) := by decide +kernel
theorem xd_MO_counted_26 : decode xc_MO_counted 26 = .ok (.getfield 72, 3) := by decide +kernel
theorem xd_MO_counted_29 : decode xc_MO_counted 29 = .ok (.iconst 1, 1) := by decide +kernel
theorem xd_MO_counted_30 : decode xc_MO_counted 30 = .ok (.iadd, 1) := by decide +kernel
theorem xd_MO_counted_31 : decode xc_MO_counted 31 = .ok (.putfield 72, 3) := by decide +kernel
theorem xd_MO_counted_34 : decode xc_MO_counted 34 = .ok (.aload_n 0, 1) := by decide +kernel
theorem xd_MO_counted_35 : decode xc_MO_counted 35 = .ok (.iload_n 2, 1) := by decide +kernel
theorem xd_MO_counted_36 : decode xc_MO_counted 36 = .ok (.ifCond .le 7, 3) := by decide +kernel
theorem xd_MO_counted_39 : decode xc_MO_counted 39 = .ok (.iload_n 2, 1) := by decide +kernel
theorem xd_MO_counted_40 : decode xc_MO_counted 40 = .ok (.goto 4, 3) := by decide +kernel
theorem xd_MO_counted_43 : decode xc_MO_counted 43 = .ok (.iconst 1, 1) := by decide +kernel
theorem xd_MO_counted_44 : decode xc_MO_counted 44 = .ok (.invokevirtual 155, 3) := by decide +kernel
theorem xd_MO_counted_47 : decode xc_MO_counted 47 = .ok (.istore_n 3, 1) := by decide +kernel
theorem xd_MO_counted_48 : decode xc_MO_counted 48 = .ok (.aload_n 0, 1) := by decide +kernel
theorem xd_MO_counted_49 : decode xc_MO_counted 49 = .ok (.invokevirtual 81, 3) := by decide +kernel
theorem xd_MO_counted_52 : decode xc_MO_counted 52 = .ok (.ifCond .eq 11, 3) := by decide +kernel
theorem xd_MO_counted_55 : decode xc_MO_counted 55 = .ok (.iload_n 3, 1) := by decide +kernel
theorem xd_MO_counted_56 : decode xc_MO_counted 56 = .ok (.ifCond .ne 7, 3) := by decide +kernel
theorem xd_MO_counted_59 : decode xc_MO_counted 59 = .ok (.aload_n 0, 1) := by decide +kernel
theorem xd_MO_counted_60 : decode xc_MO_counted 60 = .ok (.invokevirtual 89, 3) := by decide +kernel
theorem xd_MO_counted_63 : decode xc_MO_counted 63 = .ok (.aload_n 0, 1) := by decide +kernel
theorem xd_MO_counted_64 : decode xc_MO_counted 64 = .ok (.bipush 125, 2) := by decide +kernel
theorem xd_MO_counted_66 : decode xc_MO_counted 66 = .ok (.invokevirtual 143, 3) := by decide +kernel
theorem xd_MO_counted_69 : decode xc_MO_counted 69 = .ok (.aload_n 0, 1) := by decide +kernel
theorem xd_MO_counted_70 : decode xc_MO_counted 70 = .ok (.getfield 36, 3) := by decide +kernel
theorem xd_MO_counted_73 : decode xc_MO_counted 73 = .ok (.iload_n 1, 1) := by decide +kernel
theorem xd_MO_counted_74 : decode xc_MO_counted 74 = .ok (.aload_n 0, 1) := by decide +kernel
theorem xd_MO_counted_75 : decode xc_MO_counted 75 = .ok (.getfield 36, 3) := by decide +kernel
theorem xd_MO_counted_78 : decode xc_MO_counted 78 = .ok (.iload_n 1, 1) := by decide +kernel
theorem xd_MO_counted_79 : decode xc_MO_counted 79 = .ok (.iaload, 1) := by decide +kernel
theorem xd_MO_counted_80 : decode xc_MO_counted 80 = .ok (.iload_n 3, 1) := by decide +kernel
theorem xd_MO_counted_81 : decode xc_MO_counted 81 = .ok (.imul, 1) := by decide +kernel
theorem xd_MO_counted_82 : decode xc_MO_counted 82 = .ok (.sipush 1000, 3) := by decide +kernel
theorem xd_MO_counted_85 : decode xc_MO_counted 85 = .ok (.if_icmp .le 9, 3) := by decide +kernel
theorem xd_MO_counted_88 : decode xc_MO_counted 88 = .ok (.sipush 1000, 3) := by decide +kernel
theorem xd_MO_counted_91 : decode xc_MO_counted 91 = .ok (.goto 11, 3) := by decide +kernel
theorem xd_MO_counted_94 : decode xc_MO_counted 94 = .ok (.aload_n 0, 1) := by decide +kernel
theorem xd_MO_counted_95 : decode xc_MO_counted 95 = .ok (.getfield 36, 3) := by decide +kernel
theorem xd_MO_counted_98 : decode xc_MO_counted 98 = .ok (.iload_n 1, 1) := by decide +kernel
theorem xd_MO_counted_99 : decode xc_MO_counted 99 = .ok (.iaload, 1) := by decide +kernel
theorem xd_MO_counted_100 : decode xc_MO_counted 100 = .ok (.iload_n 3, 1) := by decide +kernel
theorem xd_MO_counted_101 : decode xc_MO_counted 101 = .ok (.imul, 1) := by decide +kernel
theorem xd_MO_counted_102 : decode xc_MO_counted 102 = .ok (.iastore, 1) := by decide +kernel
theorem xd_MO_counted_103 : decode xc_MO_counted 103 = .ok (.aload_n 0, 1) := by decide +kernel
theorem xd_MO_counted_104 : decode xc_MO_counted 104 = .ok (.iload_n 1, 1) := by decide +kernel
theorem xd_MO_counted_105 : decode xc_MO_counted 105 = .ok (.bipush 38, 2) := by decide +kernel
theorem xd_MO_counted_107 : decode xc_MO_counted 107 = .ok (.invokevirtual 105, 3) := by decide +kernel
theorem xd_MO_counted_110 : decode xc_MO_counted 110 = .ok (.aload_n 0, 1) := by decide +kernel
theorem xd_MO_counted_111 : decode xc_MO_counted 111 = .ok (.bipush 36, 2) := by decide +kernel
theorem xd_MO_counted_113 : decode xc_MO_counted 113 = .ok (.iconst 1, 1) := by decide +kernel
theorem xd_MO_counted_114 : decode xc_MO_counted 114 = .ok (.invokevirtual 97, 3) := by decide +kernel
theorem xd_MO_counted_117 : decode xc_MO_counted 117 = .ok (.aload_n 0, 1) := by decide +kernel
theorem xd_MO_counted_118 : decode xc_MO_counted 118 = .ok (.bipush 38, 2) := by decide +kernel
theorem xd_MO_counted_120 : decode xc_MO_counted 120 = .ok (.bipush 36, 2) := by decide +kernel
theorem xd_MO_counted_122 : decode xc_MO_counted 122 = .ok (.invokevirtual 110, 3) := by decide +kernel
theorem xd_MO_counted_125 : decode xc_MO_counted 125 = .ok (.aload_n 0, 1) := by decide +kernel
theorem xd_MO_counted_126 : decode xc_MO_counted 126 = .ok (.bipush 37, 2) := by decide +kernel
theorem xd_MO_counted_128 : decode xc_MO_counted 128 = .ok (.iconst 1, 1) := by decide +kernel
theorem xd_MO_counted_129 : decode xc_MO_counted 129 = .ok (.invokevirtual 97, 3) := by decide +kernel
theorem xd_MO_counted_132 : decode xc_MO_counted 132 = .ok (.iconst 0, 1) := by decide +kernel
theorem xd_MO_counted_133 : decode xc_MO_counted 133 = .ok (.istore 4, 2) := by decide +kernel
theorem xd_MO_counted_135 : decode xc_MO_counted 135 = .ok (.iload 4, 2) := by decide +kernel
theorem xd_MO_counted_137 : decode xc_MO_counted 137 = .ok (.iload_n 3, 1) := by decide +kernel
theorem xd_MO_counted_138 : decode xc_MO_counted 138 = .ok (.if_icmp .ge 34, 3) := by decide +kernel
theorem xd_MO_counted_141 : decode xc_MO_counted 141 = .ok (.aload_n 0, 1) := by decide +kernel
theorem xd_MO_counted_142 : decode xc_MO_counted 142 = .ok (.getfield 92, 3) := by decide +kernel
theorem xd_MO_counted_145 : decode xc_MO_counted 145 = .ok (.ifCond .eq 27, 3) := by decide +kernel
theorem xd_MO_counted_148 : decode xc_MO_counted 148 = .ok (.aload_n 0, 1) := by decide +kernel
theorem xd_MO_counted_149 : decode xc_MO_counted 149 = .ok (.bipush 37, 2) := by decide +kernel
theorem xd_MO_counted_151 : decode xc_MO_counted 151 = .ok (.iload 4, 2) := by decide +kernel
theorem xd_MO_counted_153 : decode xc_MO_counted 153 = .ok (.iload_n 2, 1) := by decide +kernel
theorem xd_MO_counted_154 : decode xc_MO_counted 154 = .ok (.if_icmp .ge 7, 3) := by decide +kernel
theorem xd_MO_counted_157 : decode xc_MO_counted 157 = .ok (.iload_n 1, 1) := by decide +kernel
theorem xd_MO_counted_158 : decode xc_MO_counted 158 = .ok (.goto 5, 3) := by decide +kernel
theorem xd_MO_counted_161 : decode xc_MO_counted 161 = .ok (.bipush 38, 2) := by decide +kernel
theorem xd_MO_counted_163 : decode xc_MO_counted 163 = .ok (.invokevirtual 152, 3) := by decide +kernel
theorem xd_MO_counted_166 : decode xc_MO_counted 166 = .ok (.iinc 4 1, 3) := by decide +kernel
theorem xd_MO_counted_169 : decode xc_MO_counted 169 = .ok (.goto (-34), 3) := by decide +kernel
theorem xd_MO_counted_172 : decode xc_MO_counted 172 = .ok (.aload_n 0, 1) := by decide +kernel
theorem xd_MO_counted_173 : decode xc_MO_counted 173 = .ok (.bipush 37, 2) := by decide +kernel
theorem xd_MO_counted_175 : decode xc_MO_counted 175 = .ok (.iload_n 1, 1) := by decide +kernel
theorem xd_MO_counted_176 : decode xc_MO_counted 176 = .ok (.invokevirtual 105, 3) := by decide +kernel
theorem xd_MO_counted_179 : decode xc_MO_counted 179 = .ok (.return_, 1) := by decide +kernel
theorem xd_MO_digit_0 : decode xc_MO_digit 0 = .ok (.aload_n 0, 1) := by decide +kernel
theorem xd_MO_digit_1 : decode xc_MO_digit 1 = .ok (.invokevirtual 85, 3) := by decide +kernel
theorem xd_MO_digit_4 : decode xc_MO_digit 4 = .ok (.bipush 48, 2) := by decide +kernel
theorem xd_MO_digit_6 : decode xc_MO_digit 6 = .ok (.isub, 1) := by decide +kernel
theorem xd_MO_digit_7 : decode xc_MO_digit 7 = .ok (.istore_n 2, 1) := by decide +kernel
theorem xd_MO_digit_8 : decode xc_MO_digit 8 = .ok (.aload_n 0, 1) := by decide +kernel
theorem xd_MO_digit_9 : decode xc_MO_digit 9 = .ok (.invokevirtual 81, 3) := by decide +kernel
theorem xd_MO_digit_12 : decode xc_MO_digit 12 = .ok (.ifCond .eq 18, 3) := by decide +kernel
theorem xd_MO_digit_15 : decode xc_MO_digit 15 = .ok (.iload_n 2, 1) := by decide +kernel
theorem xd_MO_digit_16 : decode xc_MO_digit 16 = .ok (.iload_n 1, 1) := by decide +kernel
theorem xd_MO_digit_17 : decode xc_MO_digit 17 = .ok (.if_icmp .lt 9, 3) := by decide +kernel
theorem xd_MO_digit_20 : decode xc_MO_digit 20 = .ok (.iload_n 2, 1) := by decide +kernel
theorem xd_MO_digit_21 : decode xc_MO_digit 21 = .ok (.bipush 9, 2) := by decide +kernel
theorem xd_MO_digit_23 : decode xc_MO_digit 23 = .ok (.if_icmp .le 7, 3) := by decide +kernel
theorem xd_MO_digit_26 : decode xc_MO_digit 26 = .ok (.aload_n 0, 1) := by decide +kernel
theorem xd_MO_digit_27 : decode xc_MO_digit 27 = .ok (.invokevirtual 89, 3) := by decide +kernel
theorem xd_MO_digit_30 : decode xc_MO_digit 30 = .ok (.aload_n 0, 1) := by decide +kernel
theorem xd_MO_digit_31 : decode xc_MO_digit 31 = .ok (.invokevirtual 81, 3) := by decide +kernel
theorem xd_MO_digit_34 : decode xc_MO_digit 34 = .ok (.ifCond .eq 13, 3) := by decide +kernel
theorem xd_MO_digit_37 : decode xc_MO_digit 37 = .ok (.aload_n 0, 1) := by decide +kernel
theorem xd_MO_digit_38 : decode xc_MO_digit 38 = .ok (.dup, 1) := by decide +kernel
theorem xd_MO_digit_39 : decode xc_MO_digit 39 = .ok (.getfield 72, 3) := by decide +kernel
theorem xd_MO_digit_42 : decode xc_MO_digit 42 = .ok (.iconst 1, 1) := by decide +kernel
theorem xd_MO_digit_43 : decode xc_MO_digit 43 = .ok (.iadd, 1) := by decide +kernel
theorem xd_MO_digit_44 : decode xc_MO_digit 44 = .ok (.putfield 72, 3) := by decide +kernel
theorem xd_MO_digit_47 : decode xc_MO_digit 47 = .ok (.aload_n 0, 1) := by decide +kernel
theorem xd_MO_digit_48 : decode xc_MO_digit 48 = .ok (.invokevirtual 81, 3) := by decide +kernel
theorem xd_MO_digit_51 : decode xc_MO_digit 51 = .ok (.ifCond .eq 7, 3) := by decide +kernel
theorem xd_MO_digit_54 : decode xc_MO_digit 54 = .ok (.iload_n 2, 1) := by decide +kernel
theorem xd_MO_digit_55 : decode xc_MO_digit 55 = .ok (.goto 4, 3) := by decide +kernel
theorem xd_MO_digit_58 : decode xc_MO_digit 58 = .ok (.iconst 1, 1) := by decide +kernel
theorem xd_MO_digit_59 : decode xc_MO_digit 59 = .ok (.ireturn, 1) := by decide +kernel
theorem xd_MO_must_0 : decode xc_MO_must 0 = .ok (.aload_n 0, 1) := by decide +kernel
theorem xd_MO_must_1 : decode xc_MO_must 1 = .ok (.invokevirtual 81, 3) := by decide +kernel
theorem xd_MO_must_4 : decode xc_MO_must 4 = .ok (.ifCond .eq 15, 3) := by decide +kernel
theorem xd_MO_must_7 : decode xc_MO_must 7 = .ok (.aload_n 0, 1) := by decide +kernel
theorem xd_MO_must_8 : decode xc_MO_must 8 = .ok (.invokevirtual 85, 3) := by decide +kernel
theorem xd_MO_must_11 : decode xc_MO_must 11 = .ok (.iload_n 1, 1) := by decide +kernel
theorem xd_MO_must_12 : decode xc_MO_must 12 = .ok (.if_icmp .eq 7, 3) := by decide +kernel
theorem xd_MO_must_15 : decode xc_MO_must 15 = .ok (.aload_n 0, 1) := by decide +kernel
theorem xd_MO_must_16 : decode xc_MO_must 16 = .ok (.invokevirtual 89, 3) := by decide +kernel
theorem xd_MO_must_19 : decode xc_MO_must 19 = .ok (.aload_n 0, 1) := by decide +kernel
theorem xd_MO_must_20 : decode xc_MO_must 20 = .ok (.invokevirtual 81, 3) := by decide +kernel
theorem xd_MO_must_23 : decode xc_MO_must 23 = .ok (.ifCond .eq 13, 3) := by decide +kernel
theorem xd_MO_must_26 : decode xc_MO_must 26 = .ok (.aload_n 0, 1) := by decide +kernel
theorem xd_MO_must_27 : decode xc_MO_must 27 = .ok (.dup, 1) := by decide +kernel
theorem xd_MO_must_28 : decode xc_MO_must 28 = .ok (.getfield 72, 3) := by decide +kernel
theorem xd_MO_must_31 : decode xc_MO_must 31 = .ok (.iconst 1, 1) := by decide +kernel
theorem xd_MO_must_32 : decode xc_MO_must 32 = .ok (.iadd, 1) := by decide +kernel
theorem xd_MO_must_33 : decode xc_MO_must 33 = .ok (.putfield 72, 3) := by decide +kernel
theorem xd_MO_must_36 : decode xc_MO_must 36 = .ok (.return_, 1) := by decide +kernel
end
section
theorem xd_MO_behind_0 : decode xc_MO_behind 0 = .ok (.aload_n 0, 1) := by decide +kernel
theorem xd_MO_behind_1 : decode xc_MO_behind 1 = .ok (.getfield 92, 3) := by decide +kernel
theorem xd_MO_behind_4 : decode xc_MO_behind 4 = .ok (.ifCond .ne 4, 3) := by decide +kernel
theorem xd_MO_behind_7 : decode xc_MO_behind 7 = .ok (.return_, 1) := by decide +kernel
theorem xd_MO_behind_8 : decode xc_MO_behind 8 = .ok (.aload_n 0, 1) := by decide +kernel
theorem xd_MO_behind_9 : decode xc_MO_behind 9 = .ok (.bipush 39, 2) := by decide +kernel
theorem xd_MO_behind_11 : decode xc_MO_behind 11 = .ok (.iconst 0, 1) := by decide +kernel
theorem xd_MO_behind_12 : decode xc_MO_behind 12 = .ok (.invokevirtual 97, 3) := by decide +kernel
theorem xd_MO_behind_15 : decode xc_MO_behind 15 = .ok (.iconst 0, 1) := by decide +kernel
theorem xd_MO_behind_16 : decode xc_MO_behind 16 = .ok (.istore_n 3, 1) := by decide +kernel
theorem xd_MO_behind_17 : decode xc_MO_behind 17 = .ok (.iload_n 3, 1) := by decide +kernel
theorem xd_MO_behind_18 : decode xc_MO_behind 18 = .ok (.sipush 1024, 3) := by decide +kernel
theorem xd_MO_behind_21 : decode xc_MO_behind 21 = .ok (.if_icmp .ge 56, 3) := by decide +kernel
theorem xd_MO_behind_24 : decode xc_MO_behind 24 = .ok (.aload_n 0, 1) := by decide +kernel
theorem xd_MO_behind_25 : decode xc_MO_behind 25 = .ok (.getfield 33, 3) := by decide +kernel
theorem xd_MO_behind_28 : decode xc_MO_behind 28 = .ok (.sipush 1024, 3) := by decide +kernel
theorem xd_MO_behind_31 : decode xc_MO_behind 31 = .ok (.iload_n 1, 1) := by decide +kernel
theorem xd_MO_behind_32 : decode xc_MO_behind 32 = .ok (.imul, 1) := by decide +kernel
theorem xd_MO_behind_33 : decode xc_MO_behind 33 = .ok (.iload_n 3, 1) := by decide +kernel
theorem xd_MO_behind_34 : decode xc_MO_behind 34 = .ok (.iadd, 1) := by decide +kernel
theorem xd_MO_behind_35 : decode xc_MO_behind 35 = .ok (.iaload, 1) := by decide +kernel
theorem xd_MO_behind_36 : decode xc_MO_behind 36 = .ok (.istore 4, 2) := by decide +kernel
theorem xd_MO_behind_38 : decode xc_MO_behind 38 = .ok (.iload 4, 2) := by decide +kernel
theorem xd_MO_behind_40 : decode xc_MO_behind 40 = .ok (.ldc 96, 2) := by decide +kernel
theorem xd_MO_behind_42 : decode xc_MO_behind 42 = .ok (.if_icmp .ge 29, 3) := by decide +kernel
theorem xd_MO_behind_45 : decode xc_MO_behind 45 = .ok (.aload_n 0, 1) := by decide +kernel
theorem xd_MO_behind_46 : decode xc_MO_behind 46 = .ok (.iload 4, 2) := by decide +kernel
theorem xd_MO_behind_48 : decode xc_MO_behind 48 = .ok (.bipush 32, 2) := by decide +kernel
theorem xd_MO_behind_50 : decode xc_MO_behind 50 = .ok (.iload_n 3, 1) := by decide +kernel
theorem xd_MO_behind_51 : decode xc_MO_behind 51 = .ok (.bipush 32, 2) := by decide +kernel
theorem xd_MO_behind_53 : decode xc_MO_behind 53 = .ok (.idiv, 1) := by decide +kernel
theorem xd_MO_behind_54 : decode xc_MO_behind 54 = .ok (.imul, 1) := by decide +kernel
theorem xd_MO_behind_55 : decode xc_MO_behind 55 = .ok (.sipush 1024, 3) := by decide +kernel
theorem xd_MO_behind_58 : decode xc_MO_behind 58 = .ok (.iload_n 2, 1) := by decide +kernel
theorem xd_MO_behind_59 : decode xc_MO_behind 59 = .ok (.imul, 1) := by decide +kernel
theorem xd_MO_behind_60 : decode xc_MO_behind 60 = .ok (.bipush 32, 2) := by decide +kernel
theorem xd_MO_behind_62 : decode xc_MO_behind 62 = .ok (.iload_n 3, 1) := by decide +kernel
theorem xd_MO_behind_63 : decode xc_MO_behind 63 = .ok (.bipush 32, 2) := by decide +kernel
theorem xd_MO_behind_65 : decode xc_MO_behind 65 = .ok (.irem, 1) := by decide +kernel
theorem xd_MO_behind_66 : decode xc_MO_behind 66 = .ok (.imul, 1) := by decide +kernel
theorem xd_MO_behind_67 : decode xc_MO_behind 67 = .ok (.iadd, 1) := by decide +kernel
theorem xd_MO_behind_68 : decode xc_MO_behind 68 = .ok (.invokevirtual 101, 3) := by decide +kernel
theorem xd_MO_behind_71 : decode xc_MO_behind 71 = .ok (.iinc 3 1, 3) := by decide +kernel
theorem xd_MO_behind_74 : decode xc_MO_behind 74 = .ok (.goto (-57), 3) := by decide +kernel
theorem xd_MO_behind_77 : decode xc_MO_behind 77 = .ok (.aload_n 0, 1) := by decide +kernel
theorem xd_MO_behind_78 : decode xc_MO_behind 78 = .ok (.bipush 39, 2) := by decide +kernel
theorem xd_MO_behind_80 : decode xc_MO_behind 80 = .ok (.iload_n 1, 1) := by decide +kernel
theorem xd_MO_behind_81 : decode xc_MO_behind 81 = .ok (.invokevirtual 105, 3) := by decide +kernel
theorem xd_MO_behind_84 : decode xc_MO_behind 84 = .ok (.return_, 1) := by decide +kernel
theorem xd_MO_spread_0 : decode xc_MO_spread 0 = .ok (.iconst 0, 1) := by decide +kernel
theorem xd_MO_spread_1 : decode xc_MO_spread 1 = .ok (.istore 4, 2) := by decide +kernel
theorem xd_MO_spread_3 : decode xc_MO_spread 3 = .ok (.iload 4, 2) := by decide +kernel
theorem xd_MO_spread_5 : decode xc_MO_spread 5 = .ok (.bipush 32, 2) := by decide +kernel
theorem xd_MO_spread_7 : decode xc_MO_spread 7 = .ok (.if_icmp .ge 72, 3) := by decide +kernel
theorem xd_MO_spread_10 : decode xc_MO_spread 10 = .ok (.aload_n 0, 1) := by decide +kernel
theorem xd_MO_spread_11 : decode xc_MO_spread 11 = .ok (.getfield 33, 3) := by decide +kernel
theorem xd_MO_spread_14 : decode xc_MO_spread 14 = .ok (.iload_n 3, 1) := by decide +kernel
theorem xd_MO_spread_15 : decode xc_MO_spread 15 = .ok (.iload 4, 2) := by decide +kernel
theorem xd_MO_spread_17 : decode xc_MO_spread 17 = .ok (.iadd, 1) := by decide +kernel
theorem xd_MO_spread_18 : decode xc_MO_spread 18 = .ok (.iaload, 1) := by decide +kernel
theorem xd_MO_spread_19 : decode xc_MO_spread 19 = .ok (.ldc 96, 2) := by decide +kernel
theorem xd_MO_spread_21 : decode xc_MO_spread 21 = .ok (.if_icmp .ge 17, 3) := by decide +kernel
theorem xd_MO_spread_24 : decode xc_MO_spread 24 = .ok (.iload_n 1, 1) := by decide +kernel
theorem xd_MO_spread_25 : decode xc_MO_spread 25 = .ok (.aload_n 0, 1) := by decide +kernel
theorem xd_MO_spread_26 : decode xc_MO_spread 26 = .ok (.getfield 33, 3) := by decide +kernel
theorem xd_MO_spread_29 : decode xc_MO_spread 29 = .ok (.iload_n 3, 1) := by decide +kernel
theorem xd_MO_spread_30 : decode xc_MO_spread 30 = .ok (.iload 4, 2) := by decide +kernel
theorem xd_MO_spread_32 : decode xc_MO_spread 32 = .ok (.iadd, 1) := by decide +kernel
theorem xd_MO_spread_33 : decode xc_MO_spread 33 = .ok (.iaload, 1) := by decide +kernel
theorem xd_MO_spread_34 : decode xc_MO_spread 34 = .ok (.iadd, 1) := by decide +kernel
theorem xd_MO_spread_35 : decode xc_MO_spread 35 = .ok (.goto 5, 3) := by decide +kernel
theorem xd_MO_spread_38 : decode xc_MO_spread 38 = .ok (.ldc 96, 2) := by decide +kernel
theorem xd_MO_spread_40 : decode xc_MO_spread 40 = .ok (.istore 5, 2) := by decide +kernel
theorem xd_MO_spread_42 : decode xc_MO_spread 42 = .ok (.iload 5, 2) := by decide +kernel
theorem xd_MO_spread_44 : decode xc_MO_spread 44 = .ok (.aload_n 0, 1) := by decide +kernel
theorem xd_MO_spread_45 : decode xc_MO_spread 45 = .ok (.getfield 33, 3) := by decide +kernel
theorem xd_MO_spread_48 : decode xc_MO_spread 48 = .ok (.ldc 109, 2) := by decide +kernel
theorem xd_MO_spread_50 : decode xc_MO_spread 50 = .ok (.iload_n 2, 1) := by decide +kernel
theorem xd_MO_spread_51 : decode xc_MO_spread 51 = .ok (.iadd, 1) := by decide +kernel
theorem xd_MO_spread_52 : decode xc_MO_spread 52 = .ok (.iload 4, 2) := by decide +kernel
theorem xd_MO_spread_54 : decode xc_MO_spread 54 = .ok (.iadd, 1) := by decide +kernel
theorem xd_MO_spread_55 : decode xc_MO_spread 55 = .ok (.iaload, 1) := by decide +kernel
theorem xd_MO_spread_56 : decode xc_MO_spread 56 = .ok (.if_icmp .ge 17, 3) := by decide +kernel
theorem xd_MO_spread_59 : decode xc_MO_spread 59 = .ok (.aload_n 0, 1) := by decide +kernel
theorem xd_MO_spread_60 : decode xc_MO_spread 60 = .ok (.getfield 33, 3) := by decide +kernel
theorem xd_MO_spread_63 : decode xc_MO_spread 63 = .ok (.ldc 109, 2) := by decide +kernel
theorem xd_MO_spread_65 : decode xc_MO_spread 65 = .ok (.iload_n 2, 1) := by decide +kernel
theorem xd_MO_spread_66 : decode xc_MO_spread 66 = .ok (.iadd, 1) := by decide +kernel
theorem xd_MO_spread_67 : decode xc_MO_spread 67 = .ok (.iload 4, 2) := by decide +kernel
theorem xd_MO_spread_69 : decode xc_MO_spread 69 = .ok (.iadd, 1) := by decide +kernel
theorem xd_MO_spread_70 : decode xc_MO_spread 70 = .ok (.iload 5, 2) := by decide +kernel
theorem xd_MO_spread_72 : decode xc_MO_spread 72 = .ok (.iastore, 1) := by decide +kernel
theorem xd_MO_spread_73 : decode xc_MO_spread 73 = .ok (.iinc 4 1, 3) := by decide +kernel
theorem xd_MO_spread_76 : decode xc_MO_spread 76 = .ok (.goto (-73), 3) := by decide +kernel
theorem xd_MO_spread_79 : decode xc_MO_spread 79 = .ok (.return_, 1) := by decide +kernel
theorem xd_MO_again_0 : decode xc_MO_again 0 = .ok (.aload_n 0, 1) := by decide +kernel
theorem xd_MO_again_1 : decode xc_MO_again 1 = .ok (.bipush 36, 2) := by decide +kernel
theorem xd_MO_again_3 : decode xc_MO_again 3 = .ok (.iconst 1, 1) := by decide +kernel
theorem xd_MO_again_4 : decode xc_MO_again 4 = .ok (.invokevirtual 97, 3) := by decide +kernel
theorem xd_MO_again_7 : decode xc_MO_again 7 = .ok (.aload_n 0, 1) := by decide +kernel
theorem xd_MO_again_8 : decode xc_MO_again 8 = .ok (.bipush 36, 2) := by decide +kernel
theorem xd_MO_again_10 : decode xc_MO_again 10 = .ok (.iload_n 1, 1) := by decide +kernel
theorem xd_MO_again_11 : decode xc_MO_again 11 = .ok (.invokevirtual 110, 3) := by decide +kernel
theorem xd_MO_again_14 : decode xc_MO_again 14 = .ok (.iconst 0, 1) := by decide +kernel
theorem xd_MO_again_15 : decode xc_MO_again 15 = .ok (.istore_n 2, 1) := by decide +kernel
theorem xd_MO_again_16 : decode xc_MO_again 16 = .ok (.aload_n 0, 1) := by decide +kernel
theorem xd_MO_again_17 : decode xc_MO_again 17 = .ok (.getfield 92, 3) := by decide +kernel
theorem xd_MO_again_20 : decode xc_MO_again 20 = .ok (.ifCond .eq 113, 3) := by decide +kernel
theorem xd_MO_again_23 : decode xc_MO_again 23 = .ok (.iload_n 2, 1) := by decide +kernel
theorem xd_MO_again_24 : decode xc_MO_again 24 = .ok (.bipush 32, 2) := by decide +kernel
theorem xd_MO_again_26 : decode xc_MO_again 26 = .ok (.if_icmp .ge 107, 3) := by decide +kernel
theorem xd_MO_again_29 : decode xc_MO_again 29 = .ok (.iconst 0, 1) := by decide +kernel
theorem xd_MO_again_30 : decode xc_MO_again 30 = .ok (.istore_n 3, 1) := by decide +kernel
theorem xd_MO_again_31 : decode xc_MO_again 31 = .ok (.iload_n 3, 1) := by decide +kernel
theorem xd_MO_again_32 : decode xc_MO_again 32 = .ok (.sipush 1024, 3) := by decide +kernel
theorem xd_MO_again_35 : decode xc_MO_again 35 = .ok (.if_icmp .ge 92, 3) := by decide +kernel
theorem xd_MO_again_38 : decode xc_MO_again 38 = .ok (.aload_n 0, 1) := by decide +kernel
theorem xd_MO_again_39 : decode xc_MO_again 39 = .ok (.getfield 33, 3) := by decide +kernel
theorem xd_MO_again_42 : decode xc_MO_again 42 = .ok (.ldc 113, 2) := by decide +kernel
theorem xd_MO_again_44 : decode xc_MO_again 44 = .ok (.iload_n 3, 1) := by decide +kernel
theorem xd_MO_again_45 : decode xc_MO_again 45 = .ok (.bipush 32, 2) := by decide +kernel
theorem xd_MO_again_47 : decode xc_MO_again 47 = .ok (.idiv, 1) := by decide +kernel
theorem xd_MO_again_48 : decode xc_MO_again 48 = .ok (.bipush 32, 2) := by decide +kernel
theorem xd_MO_again_50 : decode xc_MO_again 50 = .ok (.imul, 1) := by decide +kernel
theorem xd_MO_again_51 : decode xc_MO_again 51 = .ok (.iadd, 1) := by decide +kernel
theorem xd_MO_again_52 : decode xc_MO_again 52 = .ok (.iload_n 2, 1) := by decide +kernel
theorem xd_MO_again_53 : decode xc_MO_again 53 = .ok (.iadd, 1) := by decide +kernel
theorem xd_MO_again_54 : decode xc_MO_again 54 = .ok (.iaload, 1) := by decide +kernel
theorem xd_MO_again_55 : decode xc_MO_again 55 = .ok (.istore 4, 2) := by decide +kernel
theorem xd_MO_again_57 : decode xc_MO_again 57 = .ok (.aload_n 0, 1) := by decide +kernel
theorem xd_MO_again_58 : decode xc_MO_again 58 = .ok (.getfield 33, 3) := by decide +kernel
theorem xd_MO_again_61 : decode xc_MO_again 61 = .ok (.ldc 113, 2) := by decide +kernel
theorem xd_MO_again_63 : decode xc_MO_again 63 = .ok (.bipush 32, 2) := by decide +kernel
theorem xd_MO_again_65 : decode xc_MO_again 65 = .ok (.iload_n 2, 1) := by decide +kernel
theorem xd_MO_again_66 : decode xc_MO_again 66 = .ok (.imul, 1) := by decide +kernel
theorem xd_MO_again_67 : decode xc_MO_again 67 = .ok (.iadd, 1) := by decide +kernel
theorem xd_MO_again_68 : decode xc_MO_again 68 = .ok (.iload_n 3, 1) := by decide +kernel
theorem xd_MO_again_69 : decode xc_MO_again 69 = .ok (.bipush 32, 2) := by decide +kernel
theorem xd_MO_again_71 : decode xc_MO_again 71 = .ok (.irem, 1) := by decide +kernel
theorem xd_MO_again_72 : decode xc_MO_again 72 = .ok (.iadd, 1) := by decide +kernel
theorem xd_MO_again_73 : decode xc_MO_again 73 = .ok (.iaload, 1) := by decide +kernel
theorem xd_MO_again_74 : decode xc_MO_again 74 = .ok (.istore 5, 2) := by decide +kernel
theorem xd_MO_again_76 : decode xc_MO_again 76 = .ok (.iload 4, 2) := by decide +kernel
theorem xd_MO_again_78 : decode xc_MO_again 78 = .ok (.ldc 96, 2) := by decide +kernel
theorem xd_MO_again_80 : decode xc_MO_again 80 = .ok (.if_icmp .ge 41, 3) := by decide +kernel
theorem xd_MO_again_83 : decode xc_MO_again 83 = .ok (.iload 5, 2) := by decide +kernel
theorem xd_MO_again_85 : decode xc_MO_again 85 = .ok (.ldc 96, 2) := by decide +kernel
theorem xd_MO_again_87 : decode xc_MO_again 87 = .ok (.if_icmp .ge 34, 3) := by decide +kernel
theorem xd_MO_again_90 : decode xc_MO_again 90 = .ok (.iload 4, 2) := by decide +kernel
theorem xd_MO_again_92 : decode xc_MO_again 92 = .ok (.iload 5, 2) := by decide +kernel
theorem xd_MO_again_94 : decode xc_MO_again 94 = .ok (.iadd, 1) := by decide +kernel
theorem xd_MO_again_95 : decode xc_MO_again 95 = .ok (.aload_n 0, 1) := by decide +kernel
theorem xd_MO_again_96 : decode xc_MO_again 96 = .ok (.getfield 33, 3) := by decide +kernel
theorem xd_MO_again_99 : decode xc_MO_again 99 = .ok (.ldc 113, 2) := by decide +kernel
theorem xd_MO_again_101 : decode xc_MO_again 101 = .ok (.iload_n 3, 1) := by decide +kernel
theorem xd_MO_again_102 : decode xc_MO_again 102 = .ok (.iadd, 1) := by decide +kernel
theorem xd_MO_again_103 : decode xc_MO_again 103 = .ok (.iaload, 1) := by decide +kernel
theorem xd_MO_again_104 : decode xc_MO_again 104 = .ok (.if_icmp .ge 17, 3) := by decide +kernel
theorem xd_MO_again_107 : decode xc_MO_again 107 = .ok (.aload_n 0, 1) := by decide +kernel
theorem xd_MO_again_108 : decode xc_MO_again 108 = .ok (.getfield 33, 3) := by decide +kernel
theorem xd_MO_again_111 : decode xc_MO_again 111 = .ok (.ldc 113, 2) := by decide +kernel
theorem xd_MO_again_113 : decode xc_MO_again 113 = .ok (.iload_n 3, 1) := by decide +kernel
theorem xd_MO_again_114 : decode xc_MO_again 114 = .ok (.iadd, 1) := by decide +kernel
theorem xd_MO_again_115 : decode xc_MO_again 115 = .ok (.iload 4, 2) := by decide +kernel
theorem xd_MO_again_117 : decode xc_MO_again 117 = .ok (.iload 5, 2) := by decide +kernel
theorem xd_MO_again_119 : decode xc_MO_again 119 = .ok (.iadd, 1) := by decide +kernel
theorem xd_MO_again_120 : decode xc_MO_again 120 = .ok (.iastore, 1) := by decide +kernel
theorem xd_MO_again_121 : decode xc_MO_again 121 = .ok (.iinc 3 1, 3) := by decide +kernel
theorem xd_MO_again_124 : decode xc_MO_again 124 = .ok (.goto (-93), 3) := by decide +kernel
theorem xd_MO_again_127 : decode xc_MO_again 127 = .ok (.iinc 2 1, 3) := by decide +kernel
theorem xd_MO_again_130 : decode xc_MO_again 130 = .ok (.goto (-114), 3) := by decide +kernel
theorem xd_MO_again_133 : decode xc_MO_again 133 = .ok (.return_, 1) := by decide +kernel
theorem xd_MO_isLetter_0 : decode xc_MO_isLetter 0 = .ok (.iload_n 0, 1) := by decide +kernel
theorem xd_MO_isLetter_1 : decode xc_MO_isLetter 1 = .ok (.bipush 97, 2) := by decide +kernel
theorem xd_MO_isLetter_3 : decode xc_MO_isLetter 3 = .ok (.if_icmp .lt 13, 3) := by decide +kernel
theorem xd_MO_isLetter_6 : decode xc_MO_isLetter 6 = .ok (.iload_n 0, 1) := by decide +kernel
theorem xd_MO_isLetter_7 : decode xc_MO_isLetter 7 = .ok (.bipush 104, 2) := by decide +kernel
theorem xd_MO_isLetter_9 : decode xc_MO_isLetter 9 = .ok (.if_icmp .gt 7, 3) := by decide +kernel
theorem xd_MO_isLetter_12 : decode xc_MO_isLetter 12 = .ok (.iconst 1, 1) := by decide +kernel
theorem xd_MO_isLetter_13 : decode xc_MO_isLetter 13 = .ok (.goto 4, 3) := by decide +kernel
theorem xd_MO_isLetter_16 : decode xc_MO_isLetter 16 = .ok (.iconst 0, 1) := by decide +kernel
theorem xd_MO_isLetter_17 : decode xc_MO_isLetter 17 = .ok (.ireturn, 1) := by decide +kernel
theorem xd_MO_atom_0 : decode xc_MO_atom 0 = .ok (.iconst 3, 1) := by decide +kernel
theorem xd_MO_atom_1 : decode xc_MO_atom 1 = .ok (.aload_n 0, 1) := by decide +kernel
theorem xd_MO_atom_2 : decode xc_MO_atom 2 = .ok (.getfield 114, 3) := by decide +kernel
theorem xd_MO_atom_5 : decode xc_MO_atom 5 = .ok (.imul, 1) := by decide +kernel
theorem xd_MO_atom_6 : decode xc_MO_atom 6 = .ok (.iconst 2, 1) := by decide +kernel
theorem xd_MO_atom_7 : decode xc_MO_atom 7 = .ok (.iadd, 1) := by decide +kernel
theorem xd_MO_atom_8 : decode xc_MO_atom 8 = .ok (.istore_n 1, 1) := by decide +kernel
theorem xd_MO_atom_9 : decode xc_MO_atom 9 = .ok (.aload_n 0, 1) := by decide +kernel
theorem xd_MO_atom_10 : decode xc_MO_atom 10 = .ok (.getfield 36, 3) := by decide +kernel
theorem xd_MO_atom_13 : decode xc_MO_atom 13 = .ok (.iload_n 1, 1) := by decide +kernel
theorem xd_MO_atom_14 : decode xc_MO_atom 14 = .ok (.iconst 1, 1) := by decide +kernel
theorem xd_MO_atom_15 : decode xc_MO_atom 15 = .ok (.iastore, 1) := by decide +kernel
theorem xd_MO_atom_16 : decode xc_MO_atom 16 = .ok (.aload_n 0, 1) := by decide +kernel
theorem xd_MO_atom_17 : decode xc_MO_atom 17 = .ok (.invokevirtual 85, 3) := by decide +kernel
theorem xd_MO_atom_20 : decode xc_MO_atom 20 = .ok (.bipush 91, 2) := by decide +kernel
theorem xd_MO_atom_22 : decode xc_MO_atom 22 = .ok (.if_icmp .ne 9, 3) := by decide +kernel
theorem xd_MO_atom_25 : decode xc_MO_atom 25 = .ok (.aload_n 0, 1) := by decide +kernel
theorem xd_MO_atom_26 : decode xc_MO_atom 26 = .ok (.iload_n 1, 1) := by decide +kernel
theorem xd_MO_atom_27 : decode xc_MO_atom 27 = .ok (.invokevirtual 139, 3) := by decide +kernel
theorem xd_MO_atom_30 : decode xc_MO_atom 30 = .ok (.return_, 1) := by decide +kernel
theorem xd_MO_atom_31 : decode xc_MO_atom 31 = .ok (.aload_n 0, 1) := by decide +kernel
theorem xd_MO_atom_32 : decode xc_MO_atom 32 = .ok (.invokevirtual 85, 3) := by decide +kernel
theorem xd_MO_atom_35 : decode xc_MO_atom 35 = .ok (.bipush 94, 2) := by decide +kernel
theorem xd_MO_atom_37 : decode xc_MO_atom 37 = .ok (.if_icmp .ne 7, 3) := by decide +kernel
theorem xd_MO_atom_40 : decode xc_MO_atom 40 = .ok (.iconst 1, 1) := by decide +kernel
theorem xd_MO_atom_41 : decode xc_MO_atom 41 = .ok (.goto 4, 3) := by decide +kernel
theorem xd_MO_atom_44 : decode xc_MO_atom 44 = .ok (.iconst 0, 1) := by decide +kernel
theorem xd_MO_atom_45 : decode xc_MO_atom 45 = .ok (.istore_n 2, 1) := by decide +kernel
theorem xd_MO_atom_46 : decode xc_MO_atom 46 = .ok (.iload_n 2, 1) := by decide +kernel
theorem xd_MO_atom_47 : decode xc_MO_atom 47 = .ok (.ifCond .eq 13, 3) := by decide +kernel
theorem xd_MO_atom_50 : decode xc_MO_atom 50 = .ok (.aload_n 0, 1) := by decide +kernel
theorem xd_MO_atom_51 : decode xc_MO_atom 51 = .ok (.dup, 1) := by decide +kernel
theorem xd_MO_atom_52 : decode xc_MO_atom 52 = .ok (.getfield 72, 3) := by decide +kernel
theorem xd_MO_atom_55 : decode xc_MO_atom 55 = .ok (.iconst 1, 1) := by decide +kernel
theorem xd_MO_atom_56 : decode xc_MO_atom 56 = .ok (.iadd, 1) := by decide +kernel
theorem xd_MO_atom_57 : decode xc_MO_atom 57 = .ok (.putfield 72, 3) := by decide +kernel
theorem xd_MO_atom_60 : decode xc_MO_atom 60 = .ok (.aload_n 0, 1) := by decide +kernel
theorem xd_MO_atom_61 : decode xc_MO_atom 61 = .ok (.invokevirtual 85, 3) := by decide +kernel
theorem xd_MO_atom_64 : decode xc_MO_atom 64 = .ok (.istore_n 3, 1) := by decide +kernel
theorem xd_MO_atom_65 : decode xc_MO_atom 65 = .ok (.iload_n 3, 1) := by decide +kernel
theorem xd_MO_atom_66 : decode xc_MO_atom 66 = .ok (.invokestatic 129, 3) := by decide +kernel
theorem xd_MO_atom_69 : decode xc_MO_atom 69 = .ok (.ifCond .ne 13, 3) := by decide +kernel
theorem xd_MO_atom_72 : decode xc_MO_atom 72 = .ok (.iload_n 3, 1) := by decide +kernel
theorem xd_MO_atom_73 : decode xc_MO_atom 73 = .ok (.bipush 46, 2) := by decide +kernel
theorem xd_MO_atom_75 : decode xc_MO_atom 75 = .ok (.if_icmp .eq 7, 3) := by decide +kernel
theorem xd_MO_atom_78 : decode xc_MO_atom 78 = .ok (.aload_n 0, 1) := by decide +kernel
theorem xd_MO_atom_79 : decode xc_MO_atom 79 = .ok (.invokevirtual 89, 3) := by decide +kernel
theorem xd_MO_atom_82 : decode xc_MO_atom 82 = .ok (.aload_n 0, 1) := by decide +kernel
theorem xd_MO_atom_83 : decode xc_MO_atom 83 = .ok (.invokevirtual 81, 3) := by decide +kernel
theorem xd_MO_atom_86 : decode xc_MO_atom 86 = .ok (.ifCond .eq 13, 3) := by decide +kernel
theorem xd_MO_atom_89 : decode xc_MO_atom 89 = .ok (.aload_n 0, 1) := by decide +kernel
theorem xd_MO_atom_90 : decode xc_MO_atom 90 = .ok (.dup, 1) := by decide +kernel
theorem xd_MO_atom_91 : decode xc_MO_atom 91 = .ok (.getfield 72, 3) := by decide +kernel
theorem xd_MO_atom_94 : decode xc_MO_atom 94 = .ok (.iconst 1, 1) := by decide +kernel
theorem xd_MO_atom_95 : decode xc_MO_atom 95 = .ok (.iadd, 1) := by decide +kernel
theorem xd_MO_atom_96 : decode xc_MO_atom 96 = .ok (.putfield 72, 3) := by decide +kernel
theorem xd_MO_atom_99 : decode xc_MO_atom 99 = .ok (.aload_n 0, 1) := by decide +kernel
theorem xd_MO_atom_100 : decode xc_MO_atom 100 = .ok (.iload_n 1, 1) := by decide +kernel
theorem xd_MO_atom_101 : decode xc_MO_atom 101 = .ok (.iconst 0, 1) := by decide +kernel
theorem xd_MO_atom_102 : decode xc_MO_atom 102 = .ok (.invokevirtual 97, 3) := by decide +kernel
theorem xd_MO_atom_105 : decode xc_MO_atom 105 = .ok (.iconst 0, 1) := by decide +kernel
theorem xd_MO_atom_106 : decode xc_MO_atom 106 = .ok (.istore 4, 2) := by decide +kernel
theorem xd_MO_atom_108 : decode xc_MO_atom 108 = .ok (.aload_n 0, 1) := by decide +kernel
theorem xd_MO_atom_109 : decode xc_MO_atom 109 = .ok (.getfield 92, 3) := by decide +kernel
theorem xd_MO_atom_112 : decode xc_MO_atom 112 = .ok (.ifCond .eq 101, 3) := by decide +kernel
theorem xd_MO_atom_115 : decode xc_MO_atom 115 = .ok (.iload 4, 2) := by decide +kernel
theorem xd_MO_atom_117 : decode xc_MO_atom 117 = .ok (.sipush 8192, 3) := by decide +kernel
theorem xd_MO_atom_120 : decode xc_MO_atom 120 = .ok (.if_icmp .ge 93, 3) := by decide +kernel
theorem xd_MO_atom_123 : decode xc_MO_atom 123 = .ok (.aload_n 0, 1) := by decide +kernel
theorem xd_MO_atom_124 : decode xc_MO_atom 124 = .ok (.getfield 7, 3) := by decide +kernel
theorem xd_MO_atom_127 : decode xc_MO_atom 127 = .ok (.iload 4, 2) := by decide +kernel
theorem xd_MO_atom_129 : decode xc_MO_atom 129 = .ok (.baload, 1) := by decide +kernel
theorem xd_MO_atom_130 : decode xc_MO_atom 130 = .ok (.ifCond .eq 77, 3) := by decide +kernel
theorem xd_MO_atom_133 : decode xc_MO_atom 133 = .ok (.iload_n 3, 1) := by decide +kernel
theorem xd_MO_atom_134 : decode xc_MO_atom 134 = .ok (.bipush 46, 2) := by decide +kernel
theorem xd_MO_atom_136 : decode xc_MO_atom 136 = .ok (.if_icmp .eq 19, 3) := by decide +kernel
theorem xd_MO_atom_139 : decode xc_MO_atom 139 = .ok (.iload_n 3, 1) := by decide +kernel
theorem xd_MO_atom_140 : decode xc_MO_atom 140 = .ok (.bipush 97, 2) := by decide +kernel
theorem xd_MO_atom_142 : decode xc_MO_atom 142 = .ok (.isub, 1) := by decide +kernel
theorem xd_MO_atom_143 : decode xc_MO_atom 143 = .ok (.iload 4, 2) := by decide +kernel
theorem xd_MO_atom_145 : decode xc_MO_atom 145 = .ok (.sipush 1024, 3) := by decide +kernel
theorem xd_MO_atom_148 : decode xc_MO_atom 148 = .ok (.idiv, 1) := by decide +kernel
theorem xd_MO_atom_149 : decode xc_MO_atom 149 = .ok (.if_icmp .eq 6, 3) := by decide +kernel
theorem xd_MO_atom_152 : decode xc_MO_atom 152 = .ok (.goto 55, 3) := by decide +kernel
theorem xd_MO_atom_155 : decode xc_MO_atom 155 = .ok (.iload 4, 2) := by decide +kernel
theorem xd_MO_atom_157 : decode xc_MO_atom 157 = .ok (.bipush 32, 2) := by decide +kernel
theorem xd_MO_atom_159 : decode xc_MO_atom 159 = .ok (.idiv, 1) := by decide +kernel
theorem xd_MO_atom_160 : decode xc_MO_atom 160 = .ok (.bipush 32, 2) := by decide +kernel
theorem xd_MO_atom_162 : decode xc_MO_atom 162 = .ok (.irem, 1) := by decide +kernel
theorem xd_MO_atom_163 : decode xc_MO_atom 163 = .ok (.istore 5, 2) := by decide +kernel
theorem xd_MO_atom_165 : decode xc_MO_atom 165 = .ok (.iload 4, 2) := by decide +kernel
theorem xd_MO_atom_167 : decode xc_MO_atom 167 = .ok (.bipush 32, 2) := by decide +kernel
theorem xd_MO_atom_169 : decode xc_MO_atom 169 = .ok (.irem, 1) := by decide +kernel
theorem xd_MO_atom_170 : decode xc_MO_atom 170 = .ok (.istore 6, 2) := by decide +kernel
theorem xd_MO_atom_172 : decode xc_MO_atom 172 = .ok (.aload_n 0, 1) := by decide +kernel
theorem xd_MO_atom_173 : decode xc_MO_atom 173 = .ok (.getfield 33, 3) := by decide +kernel
theorem xd_MO_atom_176 : decode xc_MO_atom 176 = .ok (.sipush 1024, 3) := by decide +kernel
theorem xd_MO_atom_179 : decode xc_MO_atom 179 = .ok (.iload_n 1, 1) := by decide +kernel
theorem xd_MO_atom_180 : decode xc_MO_atom 180 = .ok (.imul, 1) := by decide +kernel
theorem xd_MO_atom_181 : decode xc_MO_atom 181 = .ok (.iload_n 2, 1) := by decide +kernel
theorem xd_MO_atom_182 : decode xc_MO_atom 182 = .ok (.ifCond .eq 14, 3) := by decide +kernel
theorem xd_MO_atom_185 : decode xc_MO_atom 185 = .ok (.bipush 32, 2) := by decide +kernel
theorem xd_MO_atom_187 : decode xc_MO_atom 187 = .ok (.iload 6, 2) := by decide +kernel
theorem xd_MO_atom_189 : decode xc_MO_atom 189 = .ok (.imul, 1) := by decide +kernel
theorem xd_MO_atom_190 : decode xc_MO_atom 190 = .ok (.iload 5, 2) := by decide +kernel
theorem xd_MO_atom_192 : decode xc_MO_atom 192 = .ok (.iadd, 1) := by decide +kernel
theorem xd_MO_atom_193 : decode xc_MO_atom 193 = .ok (.goto 11, 3) := by decide +kernel
theorem xd_MO_atom_196 : decode xc_MO_atom 196 = .ok (.bipush 32, 2) := by decide +kernel
theorem xd_MO_atom_198 : decode xc_MO_atom 198 = .ok (.iload 5, 2) := by decide +kernel
theorem xd_MO_atom_200 : decode xc_MO_atom 200 = .ok (.imul, 1) := by decide +kernel
theorem xd_MO_atom_201 : decode xc_MO_atom 201 = .ok (.iload 6, 2) := by decide +kernel
theorem xd_MO_atom_203 : decode xc_MO_atom 203 = .ok (.iadd, 1) := by decide +kernel
theorem xd_MO_atom_204 : decode xc_MO_atom 204 = .ok (.iadd, 1) := by decide +kernel
theorem xd_MO_atom_205 : decode xc_MO_atom 205 = .ok (.iconst 1, 1) := by decide +kernel
theorem xd_MO_atom_206 : decode xc_MO_atom 206 = .ok (.iastore, 1) := by decide +kernel
theorem xd_MO_atom_207 : decode xc_MO_atom 207 = .ok (.iinc 4 1, 3) := by decide +kernel
theorem xd_MO_atom_210 : decode xc_MO_atom 210 = .ok (.goto (-102), 3) := by decide +kernel
theorem xd_MO_atom_213 : decode xc_MO_atom 213 = .ok (.return_, 1) := by decide +kernel
theorem xd_MO_test_0 : decode xc_MO_test 0 = .ok (.aload_n 0, 1) := by decide +kernel
theorem xd_MO_test_1 : decode xc_MO_test 1 = .ok (.dup, 1) := by decide +kernel
theorem xd_MO_test_2 : decode xc_MO_test 2 = .ok (.getfield 72, 3) := by decide +kernel
theorem xd_MO_test_5 : decode xc_MO_test 5 = .ok (.iconst 1, 1) := by decide +kernel
theorem xd_MO_test_6 : decode xc_MO_test 6 = .ok (.iadd, 1) := by decide +kernel
theorem xd_MO_test_7 : decode xc_MO_test 7 = .ok (.putfield 72, 3) := by decide +kernel
theorem xd_MO_test_10 : decode xc_MO_test 10 = .ok (.aload_n 0, 1) := by decide +kernel
theorem xd_MO_test_11 : decode xc_MO_test 11 = .ok (.invokevirtual 85, 3) := by decide +kernel
theorem xd_MO_test_14 : decode xc_MO_test 14 = .ok (.bipush 33, 2) := by decide +kernel
theorem xd_MO_test_16 : decode xc_MO_test 16 = .ok (.if_icmp .ne 7, 3) := by decide +kernel
theorem xd_MO_test_19 : decode xc_MO_test 19 = .ok (.iconst 1, 1) := by decide +kernel
theorem xd_MO_test_20 : decode xc_MO_test 20 = .ok (.goto 4, 3) := by decide +kernel
theorem xd_MO_test_23 : decode xc_MO_test 23 = .ok (.iconst 0, 1) := by decide +kernel
theorem xd_MO_test_24 : decode xc_MO_test 24 = .ok (.istore_n 2, 1) := by decide +kernel
theorem xd_MO_test_25 : decode xc_MO_test 25 = .ok (.iload_n 2, 1) := by decide +kernel
theorem xd_MO_test_26 : decode xc_MO_test 26 = .ok (.ifCond .eq 13, 3) := by decide +kernel
theorem xd_MO_test_29 : decode xc_MO_test 29 = .ok (.aload_n 0, 1) := by decide +kernel
theorem xd_MO_test_30 : decode xc_MO_test 30 = .ok (.dup, 1) := by decide +kernel
theorem xd_MO_test_31 : decode xc_MO_test 31 = .ok (.getfield 72, 3) := by decide +kernel
theorem xd_MO_test_34 : decode xc_MO_test 34 = .ok (.iconst 1, 1) := by decide +kernel
theorem xd_MO_test_35 : decode xc_MO_test 35 = .ok (.iadd, 1) := by decide +kernel
theorem xd_MO_test_36 : decode xc_MO_test 36 = .ok (.putfield 72, 3) := by decide +kernel
theorem xd_MO_test_39 : decode xc_MO_test 39 = .ok (.aload_n 0, 1) := by decide +kernel
theorem xd_MO_test_40 : decode xc_MO_test 40 = .ok (.invokevirtual 85, 3) := by decide +kernel
theorem xd_MO_test_43 : decode xc_MO_test 43 = .ok (.bipush 48, 2) := by decide +kernel
theorem xd_MO_test_45 : decode xc_MO_test 45 = .ok (.isub, 1) := by decide +kernel
theorem xd_MO_test_46 : decode xc_MO_test 46 = .ok (.istore_n 3, 1) := by decide +kernel
theorem xd_MO_test_47 : decode xc_MO_test 47 = .ok (.iload_n 3, 1) := by decide +kernel
theorem xd_MO_test_48 : decode xc_MO_test 48 = .ok (.iconst 4, 1) := by decide +kernel
theorem xd_MO_test_49 : decode xc_MO_test 49 = .ok (.invokestatic 52, 3) := by decide +kernel
theorem xd_MO_test_52 : decode xc_MO_test 52 = .ok (.ifCond .ne 7, 3) := by decide +kernel
theorem xd_MO_test_55 : decode xc_MO_test 55 = .ok (.aload_n 0, 1) := by decide +kernel
theorem xd_MO_test_56 : decode xc_MO_test 56 = .ok (.invokevirtual 89, 3) := by decide +kernel
theorem xd_MO_test_59 : decode xc_MO_test 59 = .ok (.aload_n 0, 1) := by decide +kernel
theorem xd_MO_test_60 : decode xc_MO_test 60 = .ok (.invokevirtual 81, 3) := by decide +kernel
theorem xd_MO_test_63 : decode xc_MO_test 63 = .ok (.ifCond .eq 13, 3) := by decide +kernel
theorem xd_MO_test_66 : decode xc_MO_test 66 = .ok (.aload_n 0, 1) := by decide +kernel
theorem xd_MO_test_67 : decode xc_MO_test 67 = .ok (.dup, 1) := by decide +kernel
theorem xd_MO_test_68 : decode xc_MO_test 68 = .ok (.getfield 72, 3) := by decide +kernel
theorem xd_MO_test_71 : decode xc_MO_test 71 = .ok (.iconst 1, 1) := by decide +kernel
theorem xd_MO_test_72 : decode xc_MO_test 72 = .ok (.iadd, 1) := by decide +kernel
theorem xd_MO_test_73 : decode xc_MO_test 73 = .ok (.putfield 72, 3) := by decide +kernel
theorem xd_MO_test_76 : decode xc_MO_test 76 = .ok (.aload_n 0, 1) := by decide +kernel
theorem xd_MO_test_77 : decode xc_MO_test 77 = .ok (.bipush 93, 2) := by decide +kernel
theorem xd_MO_test_79 : decode xc_MO_test 79 = .ok (.invokevirtual 143, 3) := by decide +kernel
theorem xd_MO_test_82 : decode xc_MO_test 82 = .ok (.aload_n 0, 1) := by decide +kernel
theorem xd_MO_test_83 : decode xc_MO_test 83 = .ok (.iload_n 1, 1) := by decide +kernel
theorem xd_MO_test_84 : decode xc_MO_test 84 = .ok (.iconst 0, 1) := by decide +kernel
theorem xd_MO_test_85 : decode xc_MO_test 85 = .ok (.invokevirtual 97, 3) := by decide +kernel
theorem xd_MO_test_88 : decode xc_MO_test 88 = .ok (.iconst 0, 1) := by decide +kernel
theorem xd_MO_test_89 : decode xc_MO_test 89 = .ok (.istore 4, 2) := by decide +kernel
theorem xd_MO_test_91 : decode xc_MO_test 91 = .ok (.aload_n 0, 1) := by decide +kernel
theorem xd_MO_test_92 : decode xc_MO_test 92 = .ok (.getfield 92, 3) := by decide +kernel
theorem xd_MO_test_95 : decode xc_MO_test 95 = .ok (.ifCond .eq 53, 3) := by decide +kernel
theorem xd_MO_test_98 : decode xc_MO_test 98 = .ok (.iload 4, 2) := by decide +kernel
theorem xd_MO_test_100 : decode xc_MO_test 100 = .ok (.bipush 32, 2) := by decide +kernel
theorem xd_MO_test_102 : decode xc_MO_test 102 = .ok (.if_icmp .ge 46, 3) := by decide +kernel
theorem xd_MO_test_105 : decode xc_MO_test 105 = .ok (.aload_n 0, 1) := by decide +kernel
theorem xd_MO_test_106 : decode xc_MO_test 106 = .ok (.getfield 33, 3) := by decide +kernel
theorem xd_MO_test_109 : decode xc_MO_test 109 = .ok (.sipush 1024, 3) := by decide +kernel
theorem xd_MO_test_112 : decode xc_MO_test 112 = .ok (.iload_n 1, 1) := by decide +kernel
theorem xd_MO_test_113 : decode xc_MO_test 113 = .ok (.imul, 1) := by decide +kernel
theorem xd_MO_test_114 : decode xc_MO_test 114 = .ok (.iload 4, 2) := by decide +kernel
theorem xd_MO_test_116 : decode xc_MO_test 116 = .ok (.bipush 33, 2) := by decide +kernel
theorem xd_MO_test_118 : decode xc_MO_test 118 = .ok (.imul, 1) := by decide +kernel
theorem xd_MO_test_119 : decode xc_MO_test 119 = .ok (.iadd, 1) := by decide +kernel
theorem xd_MO_test_120 : decode xc_MO_test 120 = .ok (.aload_n 0, 1) := by decide +kernel
theorem xd_MO_test_121 : decode xc_MO_test 121 = .ok (.getfield 13, 3) := by decide +kernel
theorem xd_MO_test_124 : decode xc_MO_test 124 = .ok (.iconst 4, 1) := by decide +kernel
theorem xd_MO_test_125 : decode xc_MO_test 125 = .ok (.iload 4, 2) := by decide +kernel
theorem xd_MO_test_127 : decode xc_MO_test 127 = .ok (.imul, 1) := by decide +kernel
theorem xd_MO_test_128 : decode xc_MO_test 128 = .ok (.iload_n 3, 1) := by decide +kernel
theorem xd_MO_test_129 : decode xc_MO_test 129 = .ok (.iadd, 1) := by decide +kernel
theorem xd_MO_test_130 : decode xc_MO_test 130 = .ok (.baload, 1) := by decide +kernel
theorem xd_MO_test_131 : decode xc_MO_test 131 = .ok (.iload_n 2, 1) := by decide +kernel
theorem xd_MO_test_132 : decode xc_MO_test 132 = .ok (.if_icmp .eq 7, 3) := by decide +kernel
theorem xd_MO_test_135 : decode xc_MO_test 135 = .ok (.iconst 0, 1) := by decide +kernel
theorem xd_MO_test_136 : decode xc_MO_test 136 = .ok (.goto 5, 3) := by decide +kernel
theorem xd_MO_test_139 : decode xc_MO_test 139 = .ok (.ldc 96, 2) := by decide +kernel
theorem xd_MO_test_141 : decode xc_MO_test 141 = .ok (.iastore, 1) := by decide +kernel
theorem xd_MO_test_142 : decode xc_MO_test 142 = .ok (.iinc 4 1, 3) := by decide +kernel
theorem xd_MO_test_145 : decode xc_MO_test 145 = .ok (.goto (-54), 3) := by decide +kernel
theorem xd_MO_test_148 : decode xc_MO_test 148 = .ok (.return_, 1) := by decide +kernel
theorem xd_MO_reach_0 : decode xc_MO_reach 0 = .ok (.iload_n 1, 1) := by decide +kernel
theorem xd_MO_reach_1 : decode xc_MO_reach 1 = .ok (.iconst 4, 1) := by decide +kernel
theorem xd_MO_reach_2 : decode xc_MO_reach 2 = .ok (.invokestatic 52, 3) := by decide +kernel
theorem xd_MO_reach_5 : decode xc_MO_reach 5 = .ok (.istore 4, 2) := by decide +kernel
theorem xd_MO_reach_7 : decode xc_MO_reach 7 = .ok (.aload_n 0, 1) := by decide +kernel
theorem xd_MO_reach_8 : decode xc_MO_reach 8 = .ok (.iload 4, 2) := by decide +kernel
theorem xd_MO_reach_10 : decode xc_MO_reach 10 = .ok (.ifCond .ne 7, 3) := by decide +kernel
theorem xd_MO_reach_13 : decode xc_MO_reach 13 = .ok (.iconst 1, 1) := by decide +kernel
theorem xd_MO_reach_14 : decode xc_MO_reach 14 = .ok (.goto 4, 3) := by decide +kernel
theorem xd_MO_reach_17 : decode xc_MO_reach 17 = .ok (.iconst 0, 1) := by decide +kernel
theorem xd_MO_reach_18 : decode xc_MO_reach 18 = .ok (.iload 4, 2) := by decide +kernel
theorem xd_MO_reach_20 : decode xc_MO_reach 20 = .ok (.ifCond .eq 16, 3) := by decide +kernel
theorem xd_MO_reach_23 : decode xc_MO_reach 23 = .ok (.iload_n 2, 1) := by decide +kernel
theorem xd_MO_reach_24 : decode xc_MO_reach 24 = .ok (.bipush 32, 2) := by decide +kernel
theorem xd_MO_reach_26 : decode xc_MO_reach 26 = .ok (.invokestatic 52, 3) := by decide +kernel
theorem xd_MO_reach_29 : decode xc_MO_reach 29 = .ok (.ifCond .ne 7, 3) := by decide +kernel
theorem xd_MO_reach_32 : decode xc_MO_reach 32 = .ok (.iconst 1, 1) := by decide +kernel
theorem xd_MO_reach_33 : decode xc_MO_reach 33 = .ok (.goto 4, 3) := by decide +kernel
theorem xd_MO_reach_36 : decode xc_MO_reach 36 = .ok (.iconst 0, 1) := by decide +kernel
theorem xd_MO_reach_37 : decode xc_MO_reach 37 = .ok (.invokevirtual 56, 3) := by decide +kernel
theorem xd_MO_reach_40 : decode xc_MO_reach 40 = .ok (.ifCond .eq 5, 3) := by decide +kernel
theorem xd_MO_reach_43 : decode xc_MO_reach 43 = .ok (.iconst 0, 1) := by decide +kernel
theorem xd_MO_reach_44 : decode xc_MO_reach 44 = .ok (.ireturn, 1) := by decide +kernel
theorem xd_MO_reach_45 : decode xc_MO_reach 45 = .ok (.aload_n 0, 1) := by decide +kernel
theorem xd_MO_reach_46 : decode xc_MO_reach 46 = .ok (.iload_n 1, 1) := by decide +kernel
theorem xd_MO_reach_47 : decode xc_MO_reach 47 = .ok (.aload_n 0, 1) := by decide +kernel
theorem xd_MO_reach_48 : decode xc_MO_reach 48 = .ok (.getfield 42, 3) := by decide +kernel
theorem xd_MO_reach_51 : decode xc_MO_reach 51 = .ok (.invokevirtual 166, 3) := by decide +kernel
theorem xd_MO_reach_54 : decode xc_MO_reach 54 = .ok (.iconst 0, 1) := by decide +kernel
theorem xd_MO_reach_55 : decode xc_MO_reach 55 = .ok (.istore 5, 2) := by decide +kernel
theorem xd_MO_reach_57 : decode xc_MO_reach 57 = .ok (.iconst 0, 1) := by decide +kernel
theorem xd_MO_reach_58 : decode xc_MO_reach 58 = .ok (.istore 6, 2) := by decide +kernel
theorem xd_MO_reach_60 : decode xc_MO_reach 60 = .ok (.iload 6, 2) := by decide +kernel
theorem xd_MO_reach_62 : decode xc_MO_reach 62 = .ok (.bipush 32, 2) := by decide +kernel
theorem xd_MO_reach_64 : decode xc_MO_reach 64 = .ok (.if_icmp .ge 53, 3) := by decide +kernel
theorem xd_MO_reach_67 : decode xc_MO_reach 67 = .ok (.iload 5, 2) := by decide +kernel
theorem xd_MO_reach_69 : decode xc_MO_reach 69 = .ok (.aload_n 0, 1) := by decide +kernel
theorem xd_MO_reach_70 : decode xc_MO_reach 70 = .ok (.getfield 42, 3) := by decide +kernel
theorem xd_MO_reach_73 : decode xc_MO_reach 73 = .ok (.iload_n 3, 1) := by decide +kernel
theorem xd_MO_reach_74 : decode xc_MO_reach 74 = .ok (.ifCond .eq 13, 3) := by decide +kernel
theorem xd_MO_reach_77 : decode xc_MO_reach 77 = .ok (.bipush 32, 2) := by decide +kernel
theorem xd_MO_reach_79 : decode xc_MO_reach 79 = .ok (.iload 6, 2) := by decide +kernel
theorem xd_MO_reach_81 : decode xc_MO_reach 81 = .ok (.imul, 1) := by decide +kernel
theorem xd_MO_reach_82 : decode xc_MO_reach 82 = .ok (.iload_n 2, 1) := by decide +kernel
theorem xd_MO_reach_83 : decode xc_MO_reach 83 = .ok (.iadd, 1) := by decide +kernel
theorem xd_MO_reach_84 : decode xc_MO_reach 84 = .ok (.goto 10, 3) := by decide +kernel
theorem xd_MO_reach_87 : decode xc_MO_reach 87 = .ok (.bipush 32, 2) := by decide +kernel
theorem xd_MO_reach_89 : decode xc_MO_reach 89 = .ok (.iload_n 2, 1) := by decide +kernel
theorem xd_MO_reach_90 : decode xc_MO_reach 90 = .ok (.imul, 1) := by decide +kernel
theorem xd_MO_reach_91 : decode xc_MO_reach 91 = .ok (.iload 6, 2) := by decide +kernel
theorem xd_MO_reach_93 : decode xc_MO_reach 93 = .ok (.iadd, 1) := by decide +kernel
theorem xd_MO_reach_94 : decode xc_MO_reach 94 = .ok (.iaload, 1) := by decide +kernel
theorem xd_MO_reach_95 : decode xc_MO_reach 95 = .ok (.ldc 96, 2) := by decide +kernel
theorem xd_MO_reach_97 : decode xc_MO_reach 97 = .ok (.if_icmp .ge 10, 3) := by decide +kernel
theorem xd_MO_reach_100 : decode xc_MO_reach 100 = .ok (.iconst 1, 1) := by decide +kernel
theorem xd_MO_reach_101 : decode xc_MO_reach 101 = .ok (.iload 6, 2) := by decide +kernel
theorem xd_MO_reach_103 : decode xc_MO_reach 103 = .ok (.ishl, 1) := by decide +kernel
theorem xd_MO_reach_104 : decode xc_MO_reach 104 = .ok (.goto 4, 3) := by decide +kernel
theorem xd_MO_reach_107 : decode xc_MO_reach 107 = .ok (.iconst 0, 1) := by decide +kernel
theorem xd_MO_reach_108 : decode xc_MO_reach 108 = .ok (.ior, 1) := by decide +kernel
theorem xd_MO_reach_109 : decode xc_MO_reach 109 = .ok (.istore 5, 2) := by decide +kernel
theorem xd_MO_reach_111 : decode xc_MO_reach 111 = .ok (.iinc 6 1, 3) := by decide +kernel
theorem xd_MO_reach_114 : decode xc_MO_reach 114 = .ok (.goto (-54), 3) := by decide +kernel
theorem xd_MO_reach_117 : decode xc_MO_reach 117 = .ok (.iload 5, 2) := by decide +kernel
theorem xd_MO_reach_119 : decode xc_MO_reach 119 = .ok (.ireturn, 1) := by decide +kernel
theorem xd_MO_lengths_0 : decode xc_MO_lengths 0 = .ok (.iconst 0, 1) := by decide +kernel
theorem xd_MO_lengths_1 : decode xc_MO_lengths 1 = .ok (.istore_n 3, 1) := by decide +kernel
theorem xd_MO_lengths_2 : decode xc_MO_lengths 2 = .ok (.iload_n 3, 1) := by decide +kernel
theorem xd_MO_lengths_3 : decode xc_MO_lengths 3 = .ok (.aload_n 0, 1) := by decide +kernel
theorem xd_MO_lengths_4 : decode xc_MO_lengths 4 = .ok (.getfield 23, 3) := by decide +kernel
theorem xd_MO_lengths_7 : decode xc_MO_lengths 7 = .ok (.iload_n 1, 1) := by decide +kernel
theorem xd_MO_lengths_8 : decode xc_MO_lengths 8 = .ok (.iaload, 1) := by decide +kernel
theorem xd_MO_lengths_9 : decode xc_MO_lengths 9 = .ok (.if_icmp .ge 26, 3) := by decide +kernel
theorem xd_MO_lengths_12 : decode xc_MO_lengths 12 = .ok (.aload_n 0, 1) := by decide +kernel
theorem xd_MO_lengths_13 : decode xc_MO_lengths 13 = .ok (.getfield 29, 3) := by decide +kernel
theorem xd_MO_lengths_16 : decode xc_MO_lengths 16 = .ok (.iload_n 3, 1) := by decide +kernel
theorem xd_MO_lengths_17 : decode xc_MO_lengths 17 = .ok (.aload_n 0, 1) := by decide +kernel
theorem xd_MO_lengths_18 : decode xc_MO_lengths 18 = .ok (.getfield 20, 3) := by decide +kernel
theorem xd_MO_lengths_21 : decode xc_MO_lengths 21 = .ok (.bipush 100, 2) := by decide +kernel
theorem xd_MO_lengths_23 : decode xc_MO_lengths 23 = .ok (.iload_n 1, 1) := by decide +kernel
theorem xd_MO_lengths_24 : decode xc_MO_lengths 24 = .ok (.imul, 1) := by decide +kernel
theorem xd_MO_lengths_25 : decode xc_MO_lengths 25 = .ok (.iload_n 3, 1) := by decide +kernel
theorem xd_MO_lengths_26 : decode xc_MO_lengths 26 = .ok (.iadd, 1) := by decide +kernel
theorem xd_MO_lengths_27 : decode xc_MO_lengths 27 = .ok (.iaload, 1) := by decide +kernel
theorem xd_MO_lengths_28 : decode xc_MO_lengths 28 = .ok (.iastore, 1) := by decide +kernel
theorem xd_MO_lengths_29 : decode xc_MO_lengths 29 = .ok (.iinc 3 1, 3) := by decide +kernel
theorem xd_MO_lengths_32 : decode xc_MO_lengths 32 = .ok (.goto (-30), 3) := by decide +kernel
theorem xd_MO_lengths_35 : decode xc_MO_lengths 35 = .ok (.aload_n 0, 1) := by decide +kernel
theorem xd_MO_lengths_36 : decode xc_MO_lengths 36 = .ok (.aload_n 0, 1) := by decide +kernel
theorem xd_MO_lengths_37 : decode xc_MO_lengths 37 = .ok (.getfield 23, 3) := by decide +kernel
theorem xd_MO_lengths_40 : decode xc_MO_lengths 40 = .ok (.iload_n 1, 1) := by decide +kernel
theorem xd_MO_lengths_41 : decode xc_MO_lengths 41 = .ok (.iaload, 1) := by decide +kernel
theorem xd_MO_lengths_42 : decode xc_MO_lengths 42 = .ok (.putfield 75, 3) := by decide +kernel
theorem xd_MO_lengths_45 : decode xc_MO_lengths 45 = .ok (.aload_n 0, 1) := by decide +kernel
theorem xd_MO_lengths_46 : decode xc_MO_lengths 46 = .ok (.iconst 1, 1) := by decide +kernel
theorem xd_MO_lengths_47 : decode xc_MO_lengths 47 = .ok (.invokevirtual 159, 3) := by decide +kernel
theorem xd_MO_lengths_50 : decode xc_MO_lengths 50 = .ok (.aload_n 0, 1) := by decide +kernel
theorem xd_MO_lengths_51 : decode xc_MO_lengths 51 = .ok (.invokevirtual 163, 3) := by decide +kernel
theorem xd_MO_lengths_54 : decode xc_MO_lengths 54 = .ok (.iconst 0, 1) := by decide +kernel
theorem xd_MO_lengths_55 : decode xc_MO_lengths 55 = .ok (.istore_n 3, 1) := by decide +kernel
theorem xd_MO_lengths_56 : decode xc_MO_lengths 56 = .ok (.iload_n 3, 1) := by decide +kernel
theorem xd_MO_lengths_57 : decode xc_MO_lengths 57 = .ok (.sipush 1024, 3) := by decide +kernel
theorem xd_MO_lengths_60 : decode xc_MO_lengths 60 = .ok (.if_icmp .ge 18, 3) := by decide +kernel
theorem xd_MO_lengths_63 : decode xc_MO_lengths 63 = .ok (.aload_n 2, 1) := by decide +kernel
theorem xd_MO_lengths_64 : decode xc_MO_lengths 64 = .ok (.iload_n 3, 1) := by decide +kernel
theorem xd_MO_lengths_65 : decode xc_MO_lengths 65 = .ok (.aload_n 0, 1) := by decide +kernel
theorem xd_MO_lengths_66 : decode xc_MO_lengths 66 = .ok (.getfield 33, 3) := by decide +kernel
theorem xd_MO_lengths_69 : decode xc_MO_lengths 69 = .ok (.iload_n 3, 1) := by decide +kernel
theorem xd_MO_lengths_70 : decode xc_MO_lengths 70 = .ok (.iaload, 1) := by decide +kernel
theorem xd_MO_lengths_71 : decode xc_MO_lengths 71 = .ok (.iastore, 1) := by decide +kernel
theorem xd_MO_lengths_72 : decode xc_MO_lengths 72 = .ok (.iinc 3 1, 3) := by decide +kernel
theorem xd_MO_lengths_75 : decode xc_MO_lengths 75 = .ok (.goto (-19), 3) := by decide +kernel
theorem xd_MO_lengths_78 : decode xc_MO_lengths 78 = .ok (.return_, 1) := by decide +kernel
theorem xd_MO_distance_0 : decode xc_MO_distance 0 = .ok (.iload_n 1, 1) := by decide +kernel
theorem xd_MO_distance_1 : decode xc_MO_distance 1 = .ok (.iconst 4, 1) := by decide +kernel
theorem xd_MO_distance_2 : decode xc_MO_distance 2 = .ok (.invokestatic 52, 3) := by decide +kernel
theorem xd_MO_distance_5 : decode xc_MO_distance 5 = .ok (.istore 4, 2) := by decide +kernel
theorem xd_MO_distance_7 : decode xc_MO_distance 7 = .ok (.aload_n 0, 1) := by decide +kernel
theorem xd_MO_distance_8 : decode xc_MO_distance 8 = .ok (.iload 4, 2) := by decide +kernel
theorem xd_MO_distance_10 : decode xc_MO_distance 10 = .ok (.ifCond .ne 7, 3) := by decide +kernel
theorem xd_MO_distance_13 : decode xc_MO_distance 13 = .ok (.iconst 1, 1) := by decide +kernel
theorem xd_MO_distance_14 : decode xc_MO_distance 14 = .ok (.goto 4, 3) := by decide +kernel
theorem xd_MO_distance_17 : decode xc_MO_distance 17 = .ok (.iconst 0, 1) := by decide +kernel
theorem xd_MO_distance_18 : decode xc_MO_distance 18 = .ok (.iload 4, 2) := by decide +kernel
theorem xd_MO_distance_20 : decode xc_MO_distance 20 = .ok (.ifCond .eq 25, 3) := by decide +kernel
theorem xd_MO_distance_23 : decode xc_MO_distance 23 = .ok (.iload_n 2, 1) := by decide +kernel
theorem xd_MO_distance_24 : decode xc_MO_distance 24 = .ok (.bipush 32, 2) := by decide +kernel
theorem xd_MO_distance_26 : decode xc_MO_distance 26 = .ok (.invokestatic 52, 3) := by decide +kernel
theorem xd_MO_distance_29 : decode xc_MO_distance 29 = .ok (.ifCond .eq 12, 3) := by decide +kernel
theorem xd_MO_distance_32 : decode xc_MO_distance 32 = .ok (.iload_n 3, 1) := by decide +kernel
theorem xd_MO_distance_33 : decode xc_MO_distance 33 = .ok (.bipush 32, 2) := by decide +kernel
theorem xd_MO_distance_35 : decode xc_MO_distance 35 = .ok (.invokestatic 52, 3) := by decide +kernel
theorem xd_MO_distance_38 : decode xc_MO_distance 38 = .ok (.ifCond .ne 7, 3) := by decide +kernel
theorem xd_MO_distance_41 : decode xc_MO_distance 41 = .ok (.iconst 1, 1) := by decide +kernel
theorem xd_MO_distance_42 : decode xc_MO_distance 42 = .ok (.goto 4, 3) := by decide +kernel
theorem xd_MO_distance_45 : decode xc_MO_distance 45 = .ok (.iconst 0, 1) := by decide +kernel
theorem xd_MO_distance_46 : decode xc_MO_distance 46 = .ok (.invokevirtual 56, 3) := by decide +kernel
theorem xd_MO_distance_49 : decode xc_MO_distance 49 = .ok (.ifCond .eq 5, 3) := by decide +kernel
theorem xd_MO_distance_52 : decode xc_MO_distance 52 = .ok (.iconst 0, 1) := by decide +kernel
theorem xd_MO_distance_53 : decode xc_MO_distance 53 = .ok (.ireturn, 1) := by decide +kernel
theorem xd_MO_distance_54 : decode xc_MO_distance 54 = .ok (.aload_n 0, 1) := by decide +kernel
theorem xd_MO_distance_55 : decode xc_MO_distance 55 = .ok (.iload_n 1, 1) := by decide +kernel
theorem xd_MO_distance_56 : decode xc_MO_distance 56 = .ok (.aload_n 0, 1) := by decide +kernel
theorem xd_MO_distance_57 : decode xc_MO_distance 57 = .ok (.getfield 42, 3) := by decide +kernel
theorem xd_MO_distance_60 : decode xc_MO_distance 60 = .ok (.invokevirtual 166, 3) := by decide +kernel
theorem xd_MO_distance_63 : decode xc_MO_distance 63 = .ok (.aload_n 0, 1) := by decide +kernel
theorem xd_MO_distance_64 : decode xc_MO_distance 64 = .ok (.getfield 42, 3) := by decide +kernel
theorem xd_MO_distance_67 : decode xc_MO_distance 67 = .ok (.bipush 32, 2) := by decide +kernel
theorem xd_MO_distance_69 : decode xc_MO_distance 69 = .ok (.iload_n 2, 1) := by decide +kernel
theorem xd_MO_distance_70 : decode xc_MO_distance 70 = .ok (.imul, 1) := by decide +kernel
theorem xd_MO_distance_71 : decode xc_MO_distance 71 = .ok (.iload_n 3, 1) := by decide +kernel
theorem xd_MO_distance_72 : decode xc_MO_distance 72 = .ok (.iadd, 1) := by decide +kernel
theorem xd_MO_distance_73 : decode xc_MO_distance 73 = .ok (.iaload, 1) := by decide +kernel
theorem xd_MO_distance_74 : decode xc_MO_distance 74 = .ok (.istore 5, 2) := by decide +kernel
theorem xd_MO_distance_76 : decode xc_MO_distance 76 = .ok (.iload 5, 2) := by decide +kernel
theorem xd_MO_distance_78 : decode xc_MO_distance 78 = .ok (.ldc 96, 2) := by decide +kernel
theorem xd_MO_distance_80 : decode xc_MO_distance 80 = .ok (.if_icmp .ne 7, 3) := by decide +kernel
theorem xd_MO_distance_83 : decode xc_MO_distance 83 = .ok (.iconst (-1), 1) := by decide +kernel
theorem xd_MO_distance_84 : decode xc_MO_distance 84 = .ok (.goto 5, 3) := by decide +kernel
theorem xd_MO_distance_87 : decode xc_MO_distance 87 = .ok (.iload 5, 2) := by decide +kernel
theorem xd_MO_distance_89 : decode xc_MO_distance 89 = .ok (.ireturn, 1) := by decide +kernel
theorem xd_MO_span_0 : decode xc_MO_span 0 = .ok (.aload_n 0, 1) := by decide +kernel
theorem xd_MO_span_1 : decode xc_MO_span 1 = .ok (.iload_n 1, 1) := by decide +kernel
theorem xd_MO_span_2 : decode xc_MO_span 2 = .ok (.iconst 4, 1) := by decide +kernel
theorem xd_MO_span_3 : decode xc_MO_span 3 = .ok (.invokestatic 52, 3) := by decide +kernel
theorem xd_MO_span_6 : decode xc_MO_span 6 = .ok (.ifCond .ne 7, 3) := by decide +kernel
theorem xd_MO_span_9 : decode xc_MO_span 9 = .ok (.iconst 1, 1) := by decide +kernel
theorem xd_MO_span_10 : decode xc_MO_span 10 = .ok (.goto 4, 3) := by decide +kernel
theorem xd_MO_span_13 : decode xc_MO_span 13 = .ok (.iconst 0, 1) := by decide +kernel
theorem xd_MO_span_14 : decode xc_MO_span 14 = .ok (.iconst 0, 1) := by decide +kernel
theorem xd_MO_span_15 : decode xc_MO_span 15 = .ok (.invokevirtual 56, 3) := by decide +kernel
theorem xd_MO_span_18 : decode xc_MO_span 18 = .ok (.ifCond .eq 5, 3) := by decide +kernel
theorem xd_MO_span_21 : decode xc_MO_span 21 = .ok (.iconst 0, 1) := by decide +kernel
theorem xd_MO_span_22 : decode xc_MO_span 22 = .ok (.ireturn, 1) := by decide +kernel
theorem xd_MO_span_23 : decode xc_MO_span 23 = .ok (.aload_n 0, 1) := by decide +kernel
theorem xd_MO_span_24 : decode xc_MO_span 24 = .ok (.iload_n 1, 1) := by decide +kernel
theorem xd_MO_span_25 : decode xc_MO_span 25 = .ok (.aload_n 0, 1) := by decide +kernel
theorem xd_MO_span_26 : decode xc_MO_span 26 = .ok (.getfield 42, 3) := by decide +kernel
theorem xd_MO_span_29 : decode xc_MO_span 29 = .ok (.invokevirtual 166, 3) := by decide +kernel
theorem xd_MO_span_32 : decode xc_MO_span 32 = .ok (.iconst (-1), 1) := by decide +kernel
theorem xd_MO_span_33 : decode xc_MO_span 33 = .ok (.istore_n 2, 1) := by decide +kernel
theorem xd_MO_span_34 : decode xc_MO_span 34 = .ok (.iconst 0, 1) := by decide +kernel
theorem xd_MO_span_35 : decode xc_MO_span 35 = .ok (.istore_n 3, 1) := by decide +kernel
theorem xd_MO_span_36 : decode xc_MO_span 36 = .ok (.iload_n 3, 1) := by decide +kernel
theorem xd_MO_span_37 : decode xc_MO_span 37 = .ok (.sipush 1024, 3) := by decide +kernel
theorem xd_MO_span_40 : decode xc_MO_span 40 = .ok (.if_icmp .ge 41, 3) := by decide +kernel
theorem xd_MO_span_43 : decode xc_MO_span 43 = .ok (.aload_n 0, 1) := by decide +kernel
theorem xd_MO_span_44 : decode xc_MO_span 44 = .ok (.getfield 42, 3) := by decide +kernel
theorem xd_MO_span_47 : decode xc_MO_span 47 = .ok (.iload_n 3, 1) := by decide +kernel
theorem xd_MO_span_48 : decode xc_MO_span 48 = .ok (.iaload, 1) := by decide +kernel
theorem xd_MO_span_49 : decode xc_MO_span 49 = .ok (.ldc 96, 2) := by decide +kernel
theorem xd_MO_span_51 : decode xc_MO_span 51 = .ok (.if_icmp .ge 22, 3) := by decide +kernel
theorem xd_MO_span_54 : decode xc_MO_span 54 = .ok (.aload_n 0, 1) := by decide +kernel
theorem xd_MO_span_55 : decode xc_MO_span 55 = .ok (.getfield 42, 3) := by decide +kernel
theorem xd_MO_span_58 : decode xc_MO_span 58 = .ok (.iload_n 3, 1) := by decide +kernel
theorem xd_MO_span_59 : decode xc_MO_span 59 = .ok (.iaload, 1) := by decide +kernel
theorem xd_MO_span_60 : decode xc_MO_span 60 = .ok (.iload_n 2, 1) := by decide +kernel
theorem xd_MO_span_61 : decode xc_MO_span 61 = .ok (.if_icmp .le 12, 3) := by decide +kernel
theorem xd_MO_span_64 : decode xc_MO_span 64 = .ok (.aload_n 0, 1) := by decide +kernel
theorem xd_MO_span_65 : decode xc_MO_span 65 = .ok (.getfield 42, 3) := by decide +kernel
theorem xd_MO_span_68 : decode xc_MO_span 68 = .ok (.iload_n 3, 1) := by decide +kernel
theorem xd_MO_span_69 : decode xc_MO_span 69 = .ok (.iaload, 1) := by decide +kernel
theorem xd_MO_span_70 : decode xc_MO_span 70 = .ok (.goto 4, 3) := by decide +kernel
theorem xd_MO_span_73 : decode xc_MO_span 73 = .ok (.iload_n 2, 1) := by decide +kernel
theorem xd_MO_span_74 : decode xc_MO_span 74 = .ok (.istore_n 2, 1) := by decide +kernel
theorem xd_MO_span_75 : decode xc_MO_span 75 = .ok (.iinc 3 1, 3) := by decide +kernel
theorem xd_MO_span_78 : decode xc_MO_span 78 = .ok (.goto (-42), 3) := by decide +kernel
theorem xd_MO_span_81 : decode xc_MO_span 81 = .ok (.iload_n 2, 1) := by decide +kernel
theorem xd_MO_span_82 : decode xc_MO_span 82 = .ok (.ireturn, 1) := by decide +kernel
theorem xd_MO_pairs_0 : decode xc_MO_pairs 0 = .ok (.iload_n 1, 1) := by decide +kernel
theorem xd_MO_pairs_1 : decode xc_MO_pairs 1 = .ok (.iconst 4, 1) := by decide +kernel
theorem xd_MO_pairs_2 : decode xc_MO_pairs 2 = .ok (.invokestatic 52, 3) := by decide +kernel
theorem xd_MO_pairs_5 : decode xc_MO_pairs 5 = .ok (.ifCond .eq 15, 3) := by decide +kernel
theorem xd_MO_pairs_8 : decode xc_MO_pairs 8 = .ok (.iload_n 2, 1) := by decide +kernel
theorem xd_MO_pairs_9 : decode xc_MO_pairs 9 = .ok (.iconst 4, 1) := by decide +kernel
theorem xd_MO_pairs_10 : decode xc_MO_pairs 10 = .ok (.invokestatic 52, 3) := by decide +kernel
theorem xd_MO_pairs_13 : decode xc_MO_pairs 13 = .ok (.ifCond .eq 7, 3) := by decide +kernel
theorem xd_MO_pairs_16 : decode xc_MO_pairs 16 = .ok (.iconst 1, 1) := by decide +kernel
theorem xd_MO_pairs_17 : decode xc_MO_pairs 17 = .ok (.goto 4, 3) := by decide +kernel
theorem xd_MO_pairs_20 : decode xc_MO_pairs 20 = .ok (.iconst 0, 1) := by decide +kernel
theorem xd_MO_pairs_21 : decode xc_MO_pairs 21 = .ok (.istore 4, 2) := by decide +kernel
theorem xd_MO_pairs_23 : decode xc_MO_pairs 23 = .ok (.aload_n 0, 1) := by decide +kernel
theorem xd_MO_pairs_24 : decode xc_MO_pairs 24 = .ok (.iload 4, 2) := by decide +kernel
theorem xd_MO_pairs_26 : decode xc_MO_pairs 26 = .ok (.ifCond .ne 7, 3) := by decide +kernel
theorem xd_MO_pairs_29 : decode xc_MO_pairs 29 = .ok (.iconst 1, 1) := by decide +kernel
theorem xd_MO_pairs_30 : decode xc_MO_pairs 30 = .ok (.goto 4, 3) := by decide +kernel
theorem xd_MO_pairs_33 : decode xc_MO_pairs 33 = .ok (.iconst 0, 1) := by decide +kernel
theorem xd_MO_pairs_34 : decode xc_MO_pairs 34 = .ok (.iload 4, 2) := by decide +kernel
theorem xd_MO_pairs_36 : decode xc_MO_pairs 36 = .ok (.ifCond .eq 15, 3) := by decide +kernel
theorem xd_MO_pairs_39 : decode xc_MO_pairs 39 = .ok (.iload_n 3, 1) := by decide +kernel
theorem xd_MO_pairs_40 : decode xc_MO_pairs 40 = .ok (.iconst 5, 1) := by decide +kernel
theorem xd_MO_pairs_41 : decode xc_MO_pairs 41 = .ok (.invokestatic 52, 3) := by decide +kernel
theorem xd_MO_pairs_44 : decode xc_MO_pairs 44 = .ok (.ifCond .ne 7, 3) := by decide +kernel
theorem xd_MO_pairs_47 : decode xc_MO_pairs 47 = .ok (.iconst 1, 1) := by decide +kernel
theorem xd_MO_pairs_48 : decode xc_MO_pairs 48 = .ok (.goto 4, 3) := by decide +kernel
theorem xd_MO_pairs_51 : decode xc_MO_pairs 51 = .ok (.iconst 0, 1) := by decide +kernel
theorem xd_MO_pairs_52 : decode xc_MO_pairs 52 = .ok (.invokevirtual 56, 3) := by decide +kernel
theorem xd_MO_pairs_55 : decode xc_MO_pairs 55 = .ok (.ifCond .eq 5, 3) := by decide +kernel
theorem xd_MO_pairs_58 : decode xc_MO_pairs 58 = .ok (.iconst 0, 1) := by decide +kernel
theorem xd_MO_pairs_59 : decode xc_MO_pairs 59 = .ok (.ireturn, 1) := by decide +kernel
theorem xd_MO_pairs_60 : decode xc_MO_pairs 60 = .ok (.aload_n 0, 1) := by decide +kernel
theorem xd_MO_pairs_61 : decode xc_MO_pairs 61 = .ok (.iload_n 1, 1) := by decide +kernel
theorem xd_MO_pairs_62 : decode xc_MO_pairs 62 = .ok (.aload_n 0, 1) := by decide +kernel
theorem xd_MO_pairs_63 : decode xc_MO_pairs 63 = .ok (.getfield 42, 3) := by decide +kernel
theorem xd_MO_pairs_66 : decode xc_MO_pairs 66 = .ok (.invokevirtual 166, 3) := by decide +kernel
theorem xd_MO_pairs_69 : decode xc_MO_pairs 69 = .ok (.aload_n 0, 1) := by decide +kernel
theorem xd_MO_pairs_70 : decode xc_MO_pairs 70 = .ok (.iload_n 2, 1) := by decide +kernel
theorem xd_MO_pairs_71 : decode xc_MO_pairs 71 = .ok (.aload_n 0, 1) := by decide +kernel
theorem xd_MO_pairs_72 : decode xc_MO_pairs 72 = .ok (.getfield 45, 3) := by decide +kernel
theorem xd_MO_pairs_75 : decode xc_MO_pairs 75 = .ok (.invokevirtual 166, 3) := by decide +kernel
theorem xd_MO_pairs_78 : decode xc_MO_pairs 78 = .ok (.aload_n 0, 1) := by decide +kernel
theorem xd_MO_pairs_79 : decode xc_MO_pairs 79 = .ok (.iconst 1, 1) := by decide +kernel
theorem xd_MO_pairs_80 : decode xc_MO_pairs 80 = .ok (.putfield 92, 3) := by decide +kernel
theorem xd_MO_pairs_83 : decode xc_MO_pairs 83 = .ok (.iconst 0, 1) := by decide +kernel
theorem xd_MO_pairs_84 : decode xc_MO_pairs 84 = .ok (.istore 5, 2) := by decide +kernel
theorem xd_MO_pairs_86 : decode xc_MO_pairs 86 = .ok (.iload 5, 2) := by decide +kernel
theorem xd_MO_pairs_88 : decode xc_MO_pairs 88 = .ok (.sipush 1024, 3) := by decide +kernel
theorem xd_MO_pairs_91 : decode xc_MO_pairs 91 = .ok (.if_icmp .ge 41, 3) := by decide +kernel
theorem xd_MO_pairs_94 : decode xc_MO_pairs 94 = .ok (.aload_n 0, 1) := by decide +kernel
theorem xd_MO_pairs_95 : decode xc_MO_pairs 95 = .ok (.getfield 33, 3) := by decide +kernel
theorem xd_MO_pairs_98 : decode xc_MO_pairs 98 = .ok (.iload 5, 2) := by decide +kernel
theorem xd_MO_pairs_100 : decode xc_MO_pairs 100 = .ok (.aload_n 0, 1) := by decide +kernel
theorem xd_MO_pairs_101 : decode xc_MO_pairs 101 = .ok (.getfield 42, 3) := by decide +kernel
theorem xd_MO_pairs_104 : decode xc_MO_pairs 104 = .ok (.iload 5, 2) := by decide +kernel
theorem xd_MO_pairs_106 : decode xc_MO_pairs 106 = .ok (.iaload, 1) := by decide +kernel
theorem xd_MO_pairs_107 : decode xc_MO_pairs 107 = .ok (.iastore, 1) := by decide +kernel
theorem xd_MO_pairs_108 : decode xc_MO_pairs 108 = .ok (.aload_n 0, 1) := by decide +kernel
theorem xd_MO_pairs_109 : decode xc_MO_pairs 109 = .ok (.getfield 33, 3) := by decide +kernel
theorem xd_MO_pairs_112 : decode xc_MO_pairs 112 = .ok (.sipush 1024, 3) := by decide +kernel
theorem xd_MO_pairs_115 : decode xc_MO_pairs 115 = .ok (.iload 5, 2) := by decide +kernel
theorem xd_MO_pairs_117 : decode xc_MO_pairs 117 = .ok (.iadd, 1) := by decide +kernel
theorem xd_MO_pairs_118 : decode xc_MO_pairs 118 = .ok (.aload_n 0, 1) := by decide +kernel
theorem xd_MO_pairs_119 : decode xc_MO_pairs 119 = .ok (.getfield 45, 3) := by decide +kernel
theorem xd_MO_pairs_122 : decode xc_MO_pairs 122 = .ok (.iload 5, 2) := by decide +kernel
theorem xd_MO_pairs_124 : decode xc_MO_pairs 124 = .ok (.iaload, 1) := by decide +kernel
theorem xd_MO_pairs_125 : decode xc_MO_pairs 125 = .ok (.iastore, 1) := by decide +kernel
theorem xd_MO_pairs_126 : decode xc_MO_pairs 126 = .ok (.iinc 5 1, 3) := by decide +kernel
theorem xd_MO_pairs_129 : decode xc_MO_pairs 129 = .ok (.goto (-43), 3) := by decide +kernel
theorem xd_MO_pairs_132 : decode xc_MO_pairs 132 = .ok (.aload_n 0, 1) := by decide +kernel
theorem xd_MO_pairs_133 : decode xc_MO_pairs 133 = .ok (.iconst 0, 1) := by decide +kernel
theorem xd_MO_pairs_134 : decode xc_MO_pairs 134 = .ok (.iconst 1, 1) := by decide +kernel
theorem xd_MO_pairs_135 : decode xc_MO_pairs 135 = .ok (.invokevirtual 152, 3) := by decide +kernel
theorem xd_MO_pairs_138 : decode xc_MO_pairs 138 = .ok (.iconst 0, 1) := by decide +kernel
theorem xd_MO_pairs_139 : decode xc_MO_pairs 139 = .ok (.istore 5, 2) := by decide +kernel
theorem xd_MO_pairs_141 : decode xc_MO_pairs 141 = .ok (.iconst 0, 1) := by decide +kernel
theorem xd_MO_pairs_142 : decode xc_MO_pairs 142 = .ok (.istore 6, 2) := by decide +kernel
theorem xd_MO_pairs_144 : decode xc_MO_pairs 144 = .ok (.iload 6, 2) := by decide +kernel
theorem xd_MO_pairs_146 : decode xc_MO_pairs 146 = .ok (.sipush 1024, 3) := by decide +kernel
theorem xd_MO_pairs_149 : decode xc_MO_pairs 149 = .ok (.if_icmp .ge 123, 3) := by decide +kernel
theorem xd_MO_pairs_152 : decode xc_MO_pairs 152 = .ok (.aload_n 0, 1) := by decide +kernel
theorem xd_MO_pairs_153 : decode xc_MO_pairs 153 = .ok (.getfield 42, 3) := by decide +kernel
theorem xd_MO_pairs_156 : decode xc_MO_pairs 156 = .ok (.iload 6, 2) := by decide +kernel
theorem xd_MO_pairs_158 : decode xc_MO_pairs 158 = .ok (.iaload, 1) := by decide +kernel
theorem xd_MO_pairs_159 : decode xc_MO_pairs 159 = .ok (.ldc 96, 2) := by decide +kernel
theorem xd_MO_pairs_161 : decode xc_MO_pairs 161 = .ok (.if_icmp .ge 7, 3) := by decide +kernel
theorem xd_MO_pairs_164 : decode xc_MO_pairs 164 = .ok (.iconst 1, 1) := by decide +kernel
theorem xd_MO_pairs_165 : decode xc_MO_pairs 165 = .ok (.goto 4, 3) := by decide +kernel
theorem xd_MO_pairs_168 : decode xc_MO_pairs 168 = .ok (.iconst 0, 1) := by decide +kernel
theorem xd_MO_pairs_169 : decode xc_MO_pairs 169 = .ok (.istore 7, 2) := by decide +kernel
theorem xd_MO_pairs_171 : decode xc_MO_pairs 171 = .ok (.aload_n 0, 1) := by decide +kernel
theorem xd_MO_pairs_172 : decode xc_MO_pairs 172 = .ok (.getfield 45, 3) := by decide +kernel
theorem xd_MO_pairs_175 : decode xc_MO_pairs 175 = .ok (.iload_n 3, 1) := by decide +kernel
theorem xd_MO_pairs_176 : decode xc_MO_pairs 176 = .ok (.iconst 3, 1) := by decide +kernel
theorem xd_MO_pairs_177 : decode xc_MO_pairs 177 = .ok (.if_icmp .ne 20, 3) := by decide +kernel
theorem xd_MO_pairs_180 : decode xc_MO_pairs 180 = .ok (.bipush 32, 2) := by decide +kernel
theorem xd_MO_pairs_182 : decode xc_MO_pairs 182 = .ok (.iload 6, 2) := by decide +kernel
theorem xd_MO_pairs_184 : decode xc_MO_pairs 184 = .ok (.bipush 32, 2) := by decide +kernel
theorem xd_MO_pairs_186 : decode xc_MO_pairs 186 = .ok (.irem, 1) := by decide +kernel
theorem xd_MO_pairs_187 : decode xc_MO_pairs 187 = .ok (.imul, 1) := by decide +kernel
theorem xd_MO_pairs_188 : decode xc_MO_pairs 188 = .ok (.iload 6, 2) := by decide +kernel
theorem xd_MO_pairs_190 : decode xc_MO_pairs 190 = .ok (.bipush 32, 2) := by decide +kernel
theorem xd_MO_pairs_192 : decode xc_MO_pairs 192 = .ok (.idiv, 1) := by decide +kernel
theorem xd_MO_pairs_193 : decode xc_MO_pairs 193 = .ok (.iadd, 1) := by decide +kernel
theorem xd_MO_pairs_194 : decode xc_MO_pairs 194 = .ok (.goto 5, 3) := by decide +kernel
theorem xd_MO_pairs_197 : decode xc_MO_pairs 197 = .ok (.iload 6, 2) := by decide +kernel
theorem xd_MO_pairs_199 : decode xc_MO_pairs 199 = .ok (.iaload, 1) := by decide +kernel
theorem xd_MO_pairs_200 : decode xc_MO_pairs 200 = .ok (.ldc 96, 2) := by decide +kernel
theorem xd_MO_pairs_202 : decode xc_MO_pairs 202 = .ok (.if_icmp .ge 7, 3) := by decide +kernel
theorem xd_MO_pairs_205 : decode xc_MO_pairs 205 = .ok (.iconst 1, 1) := by decide +kernel
theorem xd_MO_pairs_206 : decode xc_MO_pairs 206 = .ok (.goto 4, 3) := by decide +kernel
theorem xd_MO_pairs_209 : decode xc_MO_pairs 209 = .ok (.iconst 0, 1) := by decide +kernel
theorem xd_MO_pairs_210 : decode xc_MO_pairs 210 = .ok (.istore 8, 2) := by decide +kernel
theorem xd_MO_pairs_212 : decode xc_MO_pairs 212 = .ok (.iload 5, 2) := by decide +kernel
theorem xd_MO_pairs_214 : decode xc_MO_pairs 214 = .ok (.iload_n 3, 1) := by decide +kernel
theorem xd_MO_pairs_215 : decode xc_MO_pairs 215 = .ok (.iconst 4, 1) := by decide +kernel
theorem xd_MO_pairs_216 : decode xc_MO_pairs 216 = .ok (.if_icmp .ne 18, 3) := by decide +kernel
theorem xd_MO_pairs_219 : decode xc_MO_pairs 219 = .ok (.aload_n 0, 1) := by decide +kernel
theorem xd_MO_pairs_220 : decode xc_MO_pairs 220 = .ok (.getfield 33, 3) := by decide +kernel
theorem xd_MO_pairs_223 : decode xc_MO_pairs 223 = .ok (.iload 6, 2) := by decide +kernel
theorem xd_MO_pairs_225 : decode xc_MO_pairs 225 = .ok (.iaload, 1) := by decide +kernel
theorem xd_MO_pairs_226 : decode xc_MO_pairs 226 = .ok (.ldc 96, 2) := by decide +kernel
theorem xd_MO_pairs_228 : decode xc_MO_pairs 228 = .ok (.if_icmp .ge 34, 3) := by decide +kernel
theorem xd_MO_pairs_231 : decode xc_MO_pairs 231 = .ok (.goto 27, 3) := by decide +kernel
theorem xd_MO_pairs_234 : decode xc_MO_pairs 234 = .ok (.iload 7, 2) := by decide +kernel
theorem xd_MO_pairs_236 : decode xc_MO_pairs 236 = .ok (.ifCond .eq 26, 3) := by decide +kernel
theorem xd_MO_pairs_239 : decode xc_MO_pairs 239 = .ok (.iload_n 3, 1) := by decide +kernel
theorem xd_MO_pairs_240 : decode xc_MO_pairs 240 = .ok (.ifCond .eq 18, 3) := by decide +kernel
theorem xd_MO_pairs_243 : decode xc_MO_pairs 243 = .ok (.iload 8, 2) := by decide +kernel
theorem xd_MO_pairs_245 : decode xc_MO_pairs 245 = .ok (.iload_n 3, 1) := by decide +kernel
theorem xd_MO_pairs_246 : decode xc_MO_pairs 246 = .ok (.iconst 2, 1) := by decide +kernel
theorem xd_MO_pairs_247 : decode xc_MO_pairs 247 = .ok (.if_icmp .eq 7, 3) := by decide +kernel
theorem xd_MO_pairs_250 : decode xc_MO_pairs 250 = .ok (.iconst 1, 1) := by decide +kernel
theorem xd_MO_pairs_251 : decode xc_MO_pairs 251 = .ok (.goto 4, 3) := by decide +kernel
theorem xd_MO_pairs_254 : decode xc_MO_pairs 254 = .ok (.iconst 0, 1) := by decide +kernel
theorem xd_MO_pairs_255 : decode xc_MO_pairs 255 = .ok (.if_icmp .ne 7, 3) := by decide +kernel
theorem xd_MO_pairs_258 : decode xc_MO_pairs 258 = .ok (.iconst 1, 1) := by decide +kernel
theorem xd_MO_pairs_259 : decode xc_MO_pairs 259 = .ok (.goto 4, 3) := by decide +kernel
theorem xd_MO_pairs_262 : decode xc_MO_pairs 262 = .ok (.iconst 0, 1) := by decide +kernel
theorem xd_MO_pairs_263 : decode xc_MO_pairs 263 = .ok (.iadd, 1) := by decide +kernel
theorem xd_MO_pairs_264 : decode xc_MO_pairs 264 = .ok (.istore 5, 2) := by decide +kernel
theorem xd_MO_pairs_266 : decode xc_MO_pairs 266 = .ok (.iinc 6 1, 3) := by decide +kernel
theorem xd_MO_pairs_269 : decode xc_MO_pairs 269 = .ok (.goto (-125), 3) := by decide +kernel
theorem xd_MO_pairs_272 : decode xc_MO_pairs 272 = .ok (.iload 5, 2) := by decide +kernel
theorem xd_MO_pairs_274 : decode xc_MO_pairs 274 = .ok (.ireturn, 1) := by decide +kernel
theorem xd_MO_circle_0 : decode xc_MO_circle 0 = .ok (.aload_n 0, 1) := by decide +kernel
theorem xd_MO_circle_1 : decode xc_MO_circle 1 = .ok (.iload_n 1, 1) := by decide +kernel
theorem xd_MO_circle_2 : decode xc_MO_circle 2 = .ok (.iconst 4, 1) := by decide +kernel
theorem xd_MO_circle_3 : decode xc_MO_circle 3 = .ok (.invokestatic 52, 3) := by decide +kernel
theorem xd_MO_circle_6 : decode xc_MO_circle 6 = .ok (.ifCond .ne 7, 3) := by decide +kernel
theorem xd_MO_circle_9 : decode xc_MO_circle 9 = .ok (.iconst 1, 1) := by decide +kernel
theorem xd_MO_circle_10 : decode xc_MO_circle 10 = .ok (.goto 4, 3) := by decide +kernel
theorem xd_MO_circle_13 : decode xc_MO_circle 13 = .ok (.iconst 0, 1) := by decide +kernel
theorem xd_MO_circle_14 : decode xc_MO_circle 14 = .ok (.iconst 0, 1) := by decide +kernel
theorem xd_MO_circle_15 : decode xc_MO_circle 15 = .ok (.invokevirtual 56, 3) := by decide +kernel
theorem xd_MO_circle_18 : decode xc_MO_circle 18 = .ok (.ifCond .eq 5, 3) := by decide +kernel
theorem xd_MO_circle_21 : decode xc_MO_circle 21 = .ok (.iconst 0, 1) := by decide +kernel
theorem xd_MO_circle_22 : decode xc_MO_circle 22 = .ok (.ireturn, 1) := by decide +kernel
theorem xd_MO_circle_23 : decode xc_MO_circle 23 = .ok (.aload_n 0, 1) := by decide +kernel
theorem xd_MO_circle_24 : decode xc_MO_circle 24 = .ok (.iload_n 1, 1) := by decide +kernel
theorem xd_MO_circle_25 : decode xc_MO_circle 25 = .ok (.aload_n 0, 1) := by decide +kernel
theorem xd_MO_circle_26 : decode xc_MO_circle 26 = .ok (.getfield 42, 3) := by decide +kernel
theorem xd_MO_circle_29 : decode xc_MO_circle 29 = .ok (.invokevirtual 166, 3) := by decide +kernel
theorem xd_MO_circle_32 : decode xc_MO_circle 32 = .ok (.iconst 0, 1) := by decide +kernel
theorem xd_MO_circle_33 : decode xc_MO_circle 33 = .ok (.istore_n 2, 1) := by decide +kernel
theorem xd_MO_circle_34 : decode xc_MO_circle 34 = .ok (.iload_n 2, 1) := by decide +kernel
theorem xd_MO_circle_35 : decode xc_MO_circle 35 = .ok (.bipush 32, 2) := by decide +kernel
theorem xd_MO_circle_37 : decode xc_MO_circle 37 = .ok (.if_icmp .ge 25, 3) := by decide +kernel
theorem xd_MO_circle_40 : decode xc_MO_circle 40 = .ok (.aload_n 0, 1) := by decide +kernel
theorem xd_MO_circle_41 : decode xc_MO_circle 41 = .ok (.getfield 42, 3) := by decide +kernel
theorem xd_MO_circle_44 : decode xc_MO_circle 44 = .ok (.iload_n 2, 1) := by decide +kernel
theorem xd_MO_circle_45 : decode xc_MO_circle 45 = .ok (.bipush 33, 2) := by decide +kernel
theorem xd_MO_circle_47 : decode xc_MO_circle 47 = .ok (.imul, 1) := by decide +kernel
theorem xd_MO_circle_48 : decode xc_MO_circle 48 = .ok (.iaload, 1) := by decide +kernel
theorem xd_MO_circle_49 : decode xc_MO_circle 49 = .ok (.ldc 96, 2) := by decide +kernel
theorem xd_MO_circle_51 : decode xc_MO_circle 51 = .ok (.if_icmp .ge 5, 3) := by decide +kernel
theorem xd_MO_circle_54 : decode xc_MO_circle 54 = .ok (.iload_n 2, 1) := by decide +kernel
theorem xd_MO_circle_55 : decode xc_MO_circle 55 = .ok (.ireturn, 1) := by decide +kernel
theorem xd_MO_circle_56 : decode xc_MO_circle 56 = .ok (.iinc 2 1, 3) := by decide +kernel
theorem xd_MO_circle_59 : decode xc_MO_circle 59 = .ok (.goto (-25), 3) := by decide +kernel
theorem xd_MO_circle_62 : decode xc_MO_circle 62 = .ok (.iconst (-1), 1) := by decide +kernel
theorem xd_MO_circle_63 : decode xc_MO_circle 63 = .ok (.ireturn, 1) := by decide +kernel
theorem xd_MO_best_0 : decode xc_MO_best 0 = .ok (.aload_n 0, 1) := by decide +kernel
theorem xd_MO_best_1 : decode xc_MO_best 1 = .ok (.iload_n 1, 1) := by decide +kernel
theorem xd_MO_best_2 : decode xc_MO_best 2 = .ok (.iconst 4, 1) := by decide +kernel
theorem xd_MO_best_3 : decode xc_MO_best 3 = .ok (.invokestatic 52, 3) := by decide +kernel
theorem xd_MO_best_6 : decode xc_MO_best 6 = .ok (.ifCond .ne 7, 3) := by decide +kernel
theorem xd_MO_best_9 : decode xc_MO_best 9 = .ok (.iconst 1, 1) := by decide +kernel
theorem xd_MO_best_10 : decode xc_MO_best 10 = .ok (.goto 4, 3) := by decide +kernel
theorem xd_MO_best_13 : decode xc_MO_best 13 = .ok (.iconst 0, 1) := by decide +kernel
theorem xd_MO_best_14 : decode xc_MO_best 14 = .ok (.iconst 0, 1) := by decide +kernel
theorem xd_MO_best_15 : decode xc_MO_best 15 = .ok (.invokevirtual 56, 3) := by decide +kernel
theorem xd_MO_best_18 : decode xc_MO_best 18 = .ok (.ifCond .eq 5, 3) := by decide +kernel
theorem xd_MO_best_21 : decode xc_MO_best 21 = .ok (.iconst 0, 1) := by decide +kernel
theorem xd_MO_best_22 : decode xc_MO_best 22 = .ok (.ireturn, 1) := by decide +kernel
theorem xd_MO_best_23 : decode xc_MO_best 23 = .ok (.aload_n 0, 1) := by decide +kernel
theorem xd_MO_best_24 : decode xc_MO_best 24 = .ok (.iload_n 1, 1) := by decide +kernel
theorem xd_MO_best_25 : decode xc_MO_best 25 = .ok (.aload_n 0, 1) := by decide +kernel
theorem xd_MO_best_26 : decode xc_MO_best 26 = .ok (.getfield 42, 3) := by decide +kernel
theorem xd_MO_best_29 : decode xc_MO_best 29 = .ok (.invokevirtual 166, 3) := by decide +kernel
theorem xd_MO_best_32 : decode xc_MO_best 32 = .ok (.iconst (-1), 1) := by decide +kernel
theorem xd_MO_best_33 : decode xc_MO_best 33 = .ok (.istore_n 2, 1) := by decide +kernel
theorem xd_MO_best_34 : decode xc_MO_best 34 = .ok (.iconst 0, 1) := by decide +kernel
theorem xd_MO_best_35 : decode xc_MO_best 35 = .ok (.istore_n 3, 1) := by decide +kernel
theorem xd_MO_best_36 : decode xc_MO_best 36 = .ok (.iconst 0, 1) := by decide +kernel
theorem xd_MO_best_37 : decode xc_MO_best 37 = .ok (.istore 4, 2) := by decide +kernel
theorem xd_MO_best_39 : decode xc_MO_best 39 = .ok (.iload 4, 2) := by decide +kernel
theorem xd_MO_best_41 : decode xc_MO_best 41 = .ok (.bipush 32, 2) := by decide +kernel
theorem xd_MO_best_43 : decode xc_MO_best 43 = .ok (.if_icmp .ge 71, 3) := by decide +kernel
theorem xd_MO_best_46 : decode xc_MO_best 46 = .ok (.iconst 0, 1) := by decide +kernel
theorem xd_MO_best_47 : decode xc_MO_best 47 = .ok (.istore 5, 2) := by decide +kernel
theorem xd_MO_best_49 : decode xc_MO_best 49 = .ok (.iconst 0, 1) := by decide +kernel
theorem xd_MO_best_50 : decode xc_MO_best 50 = .ok (.istore 6, 2) := by decide +kernel
theorem xd_MO_best_52 : decode xc_MO_best 52 = .ok (.iload 6, 2) := by decide +kernel
theorem xd_MO_best_54 : decode xc_MO_best 54 = .ok (.bipush 32, 2) := by decide +kernel
theorem xd_MO_best_56 : decode xc_MO_best 56 = .ok (.if_icmp .ge 37, 3) := by decide +kernel
theorem xd_MO_best_59 : decode xc_MO_best 59 = .ok (.iload 5, 2) := by decide +kernel
theorem xd_MO_best_61 : decode xc_MO_best 61 = .ok (.aload_n 0, 1) := by decide +kernel
theorem xd_MO_best_62 : decode xc_MO_best 62 = .ok (.getfield 42, 3) := by decide +kernel
theorem xd_MO_best_65 : decode xc_MO_best 65 = .ok (.bipush 32, 2) := by decide +kernel
theorem xd_MO_best_67 : decode xc_MO_best 67 = .ok (.iload 4, 2) := by decide +kernel
theorem xd_MO_best_69 : decode xc_MO_best 69 = .ok (.imul, 1) := by decide +kernel
theorem xd_MO_best_70 : decode xc_MO_best 70 = .ok (.iload 6, 2) := by decide +kernel
theorem xd_MO_best_72 : decode xc_MO_best 72 = .ok (.iadd, 1) := by decide +kernel
theorem xd_MO_best_73 : decode xc_MO_best 73 = .ok (.iaload, 1) := by decide +kernel
theorem xd_MO_best_74 : decode xc_MO_best 74 = .ok (.ldc 96, 2) := by decide +kernel
theorem xd_MO_best_76 : decode xc_MO_best 76 = .ok (.if_icmp .ge 7, 3) := by decide +kernel
theorem xd_MO_best_79 : decode xc_MO_best 79 = .ok (.iconst 1, 1) := by decide +kernel
theorem xd_MO_best_80 : decode xc_MO_best 80 = .ok (.goto 4, 3) := by decide +kernel
theorem xd_MO_best_83 : decode xc_MO_best 83 = .ok (.iconst 0, 1) := by decide +kernel
theorem xd_MO_best_84 : decode xc_MO_best 84 = .ok (.iadd, 1) := by decide +kernel
theorem xd_MO_best_85 : decode xc_MO_best 85 = .ok (.istore 5, 2) := by decide +kernel
theorem xd_MO_best_87 : decode xc_MO_best 87 = .ok (.iinc 6 1, 3) := by decide +kernel
theorem xd_MO_best_90 : decode xc_MO_best 90 = .ok (.goto (-38), 3) := by decide +kernel
theorem xd_MO_best_93 : decode xc_MO_best 93 = .ok (.iload 5, 2) := by decide +kernel
theorem xd_MO_best_95 : decode xc_MO_best 95 = .ok (.iload_n 3, 1) := by decide +kernel
theorem xd_MO_best_96 : decode xc_MO_best 96 = .ok (.if_icmp .gt 6, 3) := by decide +kernel
theorem xd_MO_best_99 : decode xc_MO_best 99 = .ok (.goto 9, 3) := by decide +kernel
theorem xd_MO_best_102 : decode xc_MO_best 102 = .ok (.iload 5, 2) := by decide +kernel
theorem xd_MO_best_104 : decode xc_MO_best 104 = .ok (.istore_n 3, 1) := by decide +kernel
theorem xd_MO_best_105 : decode xc_MO_best 105 = .ok (.iload 4, 2) := by decide +kernel
theorem xd_MO_best_107 : decode xc_MO_best 107 = .ok (.istore_n 2, 1) := by decide +kernel
theorem xd_MO_best_108 : decode xc_MO_best 108 = .ok (.iinc 4 1, 3) := by decide +kernel
theorem xd_MO_best_111 : decode xc_MO_best 111 = .ok (.goto (-72), 3) := by decide +kernel
theorem xd_MO_best_114 : decode xc_MO_best 114 = .ok (.iload_n 2, 1) := by decide +kernel
theorem xd_MO_best_115 : decode xc_MO_best 115 = .ok (.ireturn, 1) := by decide +kernel
theorem xd_MO_count_0 : decode xc_MO_count 0 = .ok (.aload_n 0, 1) := by decide +kernel
theorem xd_MO_count_1 : decode xc_MO_count 1 = .ok (.iconst 0, 1) := by decide +kernel
theorem xd_MO_count_2 : decode xc_MO_count 2 = .ok (.putfield 48, 3) := by decide +kernel
theorem xd_MO_count_5 : decode xc_MO_count 5 = .ok (.iconst 0, 1) := by decide +kernel
theorem xd_MO_count_6 : decode xc_MO_count 6 = .ok (.istore_n 2, 1) := by decide +kernel
theorem xd_MO_count_7 : decode xc_MO_count 7 = .ok (.iload_n 1, 1) := by decide +kernel
theorem xd_MO_count_8 : decode xc_MO_count 8 = .ok (.ifCond .ne 8, 3) := by decide +kernel
theorem xd_MO_count_11 : decode xc_MO_count 11 = .ok (.aload_n 0, 1) := by decide +kernel
theorem xd_MO_count_12 : decode xc_MO_count 12 = .ok (.getfield 64, 3) := by decide +kernel
theorem xd_MO_count_15 : decode xc_MO_count 15 = .ok (.ireturn, 1) := by decide +kernel
theorem xd_MO_count_16 : decode xc_MO_count 16 = .ok (.iload_n 1, 1) := by decide +kernel
theorem xd_MO_count_17 : decode xc_MO_count 17 = .ok (.iconst 1, 1) := by decide +kernel
theorem xd_MO_count_18 : decode xc_MO_count 18 = .ok (.if_icmp .ne 8, 3) := by decide +kernel
theorem xd_MO_count_21 : decode xc_MO_count 21 = .ok (.aload_n 0, 1) := by decide +kernel
theorem xd_MO_count_22 : decode xc_MO_count 22 = .ok (.getfield 67, 3) := by decide +kernel
theorem xd_MO_count_25 : decode xc_MO_count 25 = .ok (.ireturn, 1) := by decide +kernel
theorem xd_MO_count_26 : decode xc_MO_count 26 = .ok (.iload_n 1, 1) := by decide +kernel
theorem xd_MO_count_27 : decode xc_MO_count 27 = .ok (.iconst 2, 1) := by decide +kernel
theorem xd_MO_count_28 : decode xc_MO_count 28 = .ok (.isub, 1) := by decide +kernel
theorem xd_MO_count_29 : decode xc_MO_count 29 = .ok (.iconst 4, 1) := by decide +kernel
theorem xd_MO_count_30 : decode xc_MO_count 30 = .ok (.invokestatic 52, 3) := by decide +kernel
theorem xd_MO_count_33 : decode xc_MO_count 33 = .ok (.ifCond .eq 12, 3) := by decide +kernel
theorem xd_MO_count_36 : decode xc_MO_count 36 = .ok (.aload_n 0, 1) := by decide +kernel
theorem xd_MO_count_37 : decode xc_MO_count 37 = .ok (.getfield 26, 3) := by decide +kernel
theorem xd_MO_count_40 : decode xc_MO_count 40 = .ok (.iload_n 1, 1) := by decide +kernel
theorem xd_MO_count_41 : decode xc_MO_count 41 = .ok (.iconst 2, 1) := by decide +kernel
theorem xd_MO_count_42 : decode xc_MO_count 42 = .ok (.isub, 1) := by decide +kernel
theorem xd_MO_count_43 : decode xc_MO_count 43 = .ok (.iaload, 1) := by decide +kernel
theorem xd_MO_count_44 : decode xc_MO_count 44 = .ok (.ireturn, 1) := by decide +kernel
theorem xd_MO_count_45 : decode xc_MO_count 45 = .ok (.iconst 0, 1) := by decide +kernel
theorem xd_MO_count_46 : decode xc_MO_count 46 = .ok (.istore_n 3, 1) := by decide +kernel
theorem xd_MO_count_47 : decode xc_MO_count 47 = .ok (.iload_n 3, 1) := by decide +kernel
theorem xd_MO_count_48 : decode xc_MO_count 48 = .ok (.sipush 1024, 3) := by decide +kernel
theorem xd_MO_count_51 : decode xc_MO_count 51 = .ok (.if_icmp .ge 47, 3) := by decide +kernel
theorem xd_MO_count_54 : decode xc_MO_count 54 = .ok (.iload_n 1, 1) := by decide +kernel
theorem xd_MO_count_55 : decode xc_MO_count 55 = .ok (.bipush 6, 2) := by decide +kernel
theorem xd_MO_count_57 : decode xc_MO_count 57 = .ok (.isub, 1) := by decide +kernel
theorem xd_MO_count_58 : decode xc_MO_count 58 = .ok (.bipush 8, 2) := by decide +kernel
theorem xd_MO_count_60 : decode xc_MO_count 60 = .ok (.invokestatic 52, 3) := by decide +kernel
theorem xd_MO_count_63 : decode xc_MO_count 63 = .ok (.ifCond .eq 35, 3) := by decide +kernel
theorem xd_MO_count_66 : decode xc_MO_count 66 = .ok (.iload_n 2, 1) := by decide +kernel
theorem xd_MO_count_67 : decode xc_MO_count 67 = .ok (.aload_n 0, 1) := by decide +kernel
theorem xd_MO_count_68 : decode xc_MO_count 68 = .ok (.getfield 7, 3) := by decide +kernel
theorem xd_MO_count_71 : decode xc_MO_count 71 = .ok (.sipush 1024, 3) := by decide +kernel
theorem xd_MO_count_74 : decode xc_MO_count 74 = .ok (.iload_n 1, 1) := by decide +kernel
theorem xd_MO_count_75 : decode xc_MO_count 75 = .ok (.bipush 6, 2) := by decide +kernel
theorem xd_MO_count_77 : decode xc_MO_count 77 = .ok (.isub, 1) := by decide +kernel
theorem xd_MO_count_78 : decode xc_MO_count 78 = .ok (.imul, 1) := by decide +kernel
theorem xd_MO_count_79 : decode xc_MO_count 79 = .ok (.iload_n 3, 1) := by decide +kernel
theorem xd_MO_count_80 : decode xc_MO_count 80 = .ok (.iadd, 1) := by decide +kernel
theorem xd_MO_count_81 : decode xc_MO_count 81 = .ok (.baload, 1) := by decide +kernel
theorem xd_MO_count_82 : decode xc_MO_count 82 = .ok (.ifCond .eq 7, 3) := by decide +kernel
theorem xd_MO_count_85 : decode xc_MO_count 85 = .ok (.iconst 1, 1) := by decide +kernel
theorem xd_MO_count_86 : decode xc_MO_count 86 = .ok (.goto 4, 3) := by decide +kernel
theorem xd_MO_count_89 : decode xc_MO_count 89 = .ok (.iconst 0, 1) := by decide +kernel
theorem xd_MO_count_90 : decode xc_MO_count 90 = .ok (.iadd, 1) := by decide +kernel
theorem xd_MO_count_91 : decode xc_MO_count 91 = .ok (.istore_n 2, 1) := by decide +kernel
theorem xd_MO_count_92 : decode xc_MO_count 92 = .ok (.iinc 3 1, 3) := by decide +kernel
theorem xd_MO_count_95 : decode xc_MO_count 95 = .ok (.goto (-48), 3) := by decide +kernel
theorem xd_MO_count_98 : decode xc_MO_count 98 = .ok (.iconst 0, 1) := by decide +kernel
theorem xd_MO_count_99 : decode xc_MO_count 99 = .ok (.istore_n 3, 1) := by decide +kernel
theorem xd_MO_count_100 : decode xc_MO_count 100 = .ok (.iload_n 3, 1) := by decide +kernel
theorem xd_MO_count_101 : decode xc_MO_count 101 = .ok (.bipush 32, 2) := by decide +kernel
theorem xd_MO_count_103 : decode xc_MO_count 103 = .ok (.if_icmp .ge 44, 3) := by decide +kernel
theorem xd_MO_count_106 : decode xc_MO_count 106 = .ok (.iload_n 1, 1) := by decide +kernel
theorem xd_MO_count_107 : decode xc_MO_count 107 = .ok (.bipush 14, 2) := by decide +kernel
theorem xd_MO_count_109 : decode xc_MO_count 109 = .ok (.isub, 1) := by decide +kernel
theorem xd_MO_count_110 : decode xc_MO_count 110 = .ok (.iconst 4, 1) := by decide +kernel
theorem xd_MO_count_111 : decode xc_MO_count 111 = .ok (.invokestatic 52, 3) := by decide +kernel
theorem xd_MO_count_114 : decode xc_MO_count 114 = .ok (.ifCond .eq 33, 3) := by decide +kernel
theorem xd_MO_count_117 : decode xc_MO_count 117 = .ok (.iload_n 2, 1) := by decide +kernel
theorem xd_MO_count_118 : decode xc_MO_count 118 = .ok (.aload_n 0, 1) := by decide +kernel
theorem xd_MO_count_119 : decode xc_MO_count 119 = .ok (.getfield 13, 3) := by decide +kernel
theorem xd_MO_count_122 : decode xc_MO_count 122 = .ok (.iconst 4, 1) := by decide +kernel
theorem xd_MO_count_123 : decode xc_MO_count 123 = .ok (.iload_n 3, 1) := by decide +kernel
theorem xd_MO_count_124 : decode xc_MO_count 124 = .ok (.imul, 1) := by decide +kernel
theorem xd_MO_count_125 : decode xc_MO_count 125 = .ok (.iload_n 1, 1) := by decide +kernel
theorem xd_MO_count_126 : decode xc_MO_count 126 = .ok (.iadd, 1) := by decide +kernel
theorem xd_MO_count_127 : decode xc_MO_count 127 = .ok (.bipush 14, 2) := by decide +kernel
theorem xd_MO_count_129 : decode xc_MO_count 129 = .ok (.isub, 1) := by decide +kernel
theorem xd_MO_count_130 : decode xc_MO_count 130 = .ok (.baload, 1) := by decide +kernel
theorem xd_MO_count_131 : decode xc_MO_count 131 = .ok (.ifCond .eq 7, 3) := by decide +kernel
theorem xd_MO_count_134 : decode xc_MO_count 134 = .ok (.iconst 1, 1) := by decide +kernel
theorem xd_MO_count_135 : decode xc_MO_count 135 = .ok (.goto 4, 3) := by decide +kernel
theorem xd_MO_count_138 : decode xc_MO_count 138 = .ok (.iconst 0, 1) := by decide +kernel
theorem xd_MO_count_139 : decode xc_MO_count 139 = .ok (.iadd, 1) := by decide +kernel
theorem xd_MO_count_140 : decode xc_MO_count 140 = .ok (.istore_n 2, 1) := by decide +kernel
theorem xd_MO_count_141 : decode xc_MO_count 141 = .ok (.iinc 3 1, 3) := by decide +kernel
theorem xd_MO_count_144 : decode xc_MO_count 144 = .ok (.goto (-44), 3) := by decide +kernel
theorem xd_MO_count_147 : decode xc_MO_count 147 = .ok (.iload_n 1, 1) := by decide +kernel
theorem xd_MO_count_148 : decode xc_MO_count 148 = .ok (.bipush 6, 2) := by decide +kernel
theorem xd_MO_count_150 : decode xc_MO_count 150 = .ok (.isub, 1) := by decide +kernel
theorem xd_MO_count_151 : decode xc_MO_count 151 = .ok (.bipush 12, 2) := by decide +kernel
theorem xd_MO_count_153 : decode xc_MO_count 153 = .ok (.invokestatic 52, 3) := by decide +kernel
theorem xd_MO_count_156 : decode xc_MO_count 156 = .ok (.ifCond .eq 7, 3) := by decide +kernel
theorem xd_MO_count_159 : decode xc_MO_count 159 = .ok (.iload_n 2, 1) := by decide +kernel
theorem xd_MO_count_160 : decode xc_MO_count 160 = .ok (.goto 4, 3) := by decide +kernel
theorem xd_MO_count_163 : decode xc_MO_count 163 = .ok (.iconst (-1), 1) := by decide +kernel
theorem xd_MO_count_164 : decode xc_MO_count 164 = .ok (.ireturn, 1) := by decide +kernel
end
section
theorem xd_LW_edge_0 : decode xc_LW_edge 0 = .ok (.aload 4, 2) := by decide +kernel
theorem xd_LW_edge_2 : decode xc_LW_edge 2 = .ok (.iconst 0, 1) := by decide +kernel
theorem xd_LW_edge_3 : decode xc_LW_edge 3 = .ok (.aload_n 0, 1) := by decide +kernel
theorem xd_LW_edge_4 : decode xc_LW_edge 4 = .ok (.iload_n 1, 1) := by decide +kernel
theorem xd_LW_edge_5 : decode xc_LW_edge 5 = .ok (.iload_n 2, 1) := by decide +kernel
theorem xd_LW_edge_6 : decode xc_LW_edge 6 = .ok (.iload_n 3, 1) := by decide +kernel
theorem xd_LW_edge_7 : decode xc_LW_edge 7 = .ok (.invokevirtual 7, 3) := by decide +kernel
theorem xd_LW_edge_10 : decode xc_LW_edge 10 = .ok (.ifCond .eq 7, 3) := by decide +kernel
theorem xd_LW_edge_13 : decode xc_LW_edge 13 = .ok (.lconst 1, 1) := by decide +kernel
theorem xd_LW_edge_14 : decode xc_LW_edge 14 = .ok (.goto 4, 3) := by decide +kernel
theorem xd_LW_edge_17 : decode xc_LW_edge 17 = .ok (.lconst 0, 1) := by decide +kernel
theorem xd_LW_edge_18 : decode xc_LW_edge 18 = .ok (.lastore, 1) := by decide +kernel
theorem xd_LW_edge_19 : decode xc_LW_edge 19 = .ok (.goto 7, 3) := by decide +kernel
theorem xd_LW_edge_22 : decode xc_LW_edge 22 = .ok (.astore 5, 2) := by decide +kernel
theorem xd_LW_edge_24 : decode xc_LW_edge 24 = .ok (.iconst 1, 1) := by decide +kernel
theorem xd_LW_edge_25 : decode xc_LW_edge 25 = .ok (.ireturn, 1) := by decide +kernel
theorem xd_LW_edge_26 : decode xc_LW_edge 26 = .ok (.iconst 0, 1) := by decide +kernel
theorem xd_LW_edge_27 : decode xc_LW_edge 27 = .ok (.ireturn, 1) := by decide +kernel
theorem xd_LW_cut_0 : decode xc_LW_cut 0 = .ok (.aload 4, 2) := by decide +kernel
theorem xd_LW_cut_2 : decode xc_LW_cut 2 = .ok (.iconst 0, 1) := by decide +kernel
theorem xd_LW_cut_3 : decode xc_LW_cut 3 = .ok (.aload_n 0, 1) := by decide +kernel
theorem xd_LW_cut_4 : decode xc_LW_cut 4 = .ok (.iload_n 1, 1) := by decide +kernel
theorem xd_LW_cut_5 : decode xc_LW_cut 5 = .ok (.iload_n 2, 1) := by decide +kernel
theorem xd_LW_cut_6 : decode xc_LW_cut 6 = .ok (.iload_n 3, 1) := by decide +kernel
theorem xd_LW_cut_7 : decode xc_LW_cut 7 = .ok (.invokevirtual 15, 3) := by decide +kernel
theorem xd_LW_cut_10 : decode xc_LW_cut 10 = .ok (.ifCond .eq 7, 3) := by decide +kernel
theorem xd_LW_cut_13 : decode xc_LW_cut 13 = .ok (.lconst 1, 1) := by decide +kernel
theorem xd_LW_cut_14 : decode xc_LW_cut 14 = .ok (.goto 4, 3) := by decide +kernel
theorem xd_LW_cut_17 : decode xc_LW_cut 17 = .ok (.lconst 0, 1) := by decide +kernel
theorem xd_LW_cut_18 : decode xc_LW_cut 18 = .ok (.lastore, 1) := by decide +kernel
theorem xd_LW_cut_19 : decode xc_LW_cut 19 = .ok (.goto 7, 3) := by decide +kernel
theorem xd_LW_cut_22 : decode xc_LW_cut 22 = .ok (.astore 5, 2) := by decide +kernel
theorem xd_LW_cut_24 : decode xc_LW_cut 24 = .ok (.iconst 1, 1) := by decide +kernel
theorem xd_LW_cut_25 : decode xc_LW_cut 25 = .ok (.ireturn, 1) := by decide +kernel
theorem xd_LW_cut_26 : decode xc_LW_cut 26 = .ok (.iconst 0, 1) := by decide +kernel
theorem xd_LW_cut_27 : decode xc_LW_cut 27 = .ok (.ireturn, 1) := by decide +kernel
theorem xd_LW_tag_0 : decode xc_LW_tag 0 = .ok (.aload_n 0, 1) := by decide +kernel
theorem xd_LW_tag_1 : decode xc_LW_tag 1 = .ok (.iload_n 1, 1) := by decide +kernel
theorem xd_LW_tag_2 : decode xc_LW_tag 2 = .ok (.iload_n 2, 1) := by decide +kernel
theorem xd_LW_tag_3 : decode xc_LW_tag 3 = .ok (.iload_n 3, 1) := by decide +kernel
theorem xd_LW_tag_4 : decode xc_LW_tag 4 = .ok (.invokevirtual 18, 3) := by decide +kernel
theorem xd_LW_tag_7 : decode xc_LW_tag 7 = .ok (.goto 7, 3) := by decide +kernel
theorem xd_LW_tag_10 : decode xc_LW_tag 10 = .ok (.astore 4, 2) := by decide +kernel
theorem xd_LW_tag_12 : decode xc_LW_tag 12 = .ok (.iconst 1, 1) := by decide +kernel
theorem xd_LW_tag_13 : decode xc_LW_tag 13 = .ok (.ireturn, 1) := by decide +kernel
theorem xd_LW_tag_14 : decode xc_LW_tag 14 = .ok (.iconst 0, 1) := by decide +kernel
theorem xd_LW_tag_15 : decode xc_LW_tag 15 = .ok (.ireturn, 1) := by decide +kernel
theorem xd_LW_feed_0 : decode xc_LW_feed 0 = .ok (.aload 4, 2) := by decide +kernel
theorem xd_LW_feed_2 : decode xc_LW_feed 2 = .ok (.iconst 0, 1) := by decide +kernel
theorem xd_LW_feed_3 : decode xc_LW_feed 3 = .ok (.aload_n 0, 1) := by decide +kernel
theorem xd_LW_feed_4 : decode xc_LW_feed 4 = .ok (.lload_n 1, 1) := by decide +kernel
theorem xd_LW_feed_5 : decode xc_LW_feed 5 = .ok (.iload_n 3, 1) := by decide +kernel
theorem xd_LW_feed_6 : decode xc_LW_feed 6 = .ok (.invokevirtual 22, 3) := by decide +kernel
theorem xd_LW_feed_9 : decode xc_LW_feed 9 = .ok (.i2l, 1) := by decide +kernel
theorem xd_LW_feed_10 : decode xc_LW_feed 10 = .ok (.lastore, 1) := by decide +kernel
theorem xd_LW_feed_11 : decode xc_LW_feed 11 = .ok (.goto 7, 3) := by decide +kernel
theorem xd_LW_feed_14 : decode xc_LW_feed 14 = .ok (.astore 5, 2) := by decide +kernel
theorem xd_LW_feed_16 : decode xc_LW_feed 16 = .ok (.iconst 1, 1) := by decide +kernel
theorem xd_LW_feed_17 : decode xc_LW_feed 17 = .ok (.ireturn, 1) := by decide +kernel
theorem xd_LW_feed_18 : decode xc_LW_feed 18 = .ok (.iconst 0, 1) := by decide +kernel
theorem xd_LW_feed_19 : decode xc_LW_feed 19 = .ok (.ireturn, 1) := by decide +kernel
theorem xd_LW_load_0 : decode xc_LW_load 0 = .ok (.aload_n 2, 1) := by decide +kernel
theorem xd_LW_load_1 : decode xc_LW_load 1 = .ok (.iconst 0, 1) := by decide +kernel
theorem xd_LW_load_2 : decode xc_LW_load 2 = .ok (.aload_n 0, 1) := by decide +kernel
theorem xd_LW_load_3 : decode xc_LW_load 3 = .ok (.iload_n 1, 1) := by decide +kernel
theorem xd_LW_load_4 : decode xc_LW_load 4 = .ok (.invokevirtual 26, 3) := by decide +kernel
theorem xd_LW_load_7 : decode xc_LW_load 7 = .ok (.i2l, 1) := by decide +kernel
theorem xd_LW_load_8 : decode xc_LW_load 8 = .ok (.lastore, 1) := by decide +kernel
theorem xd_LW_load_9 : decode xc_LW_load 9 = .ok (.goto 6, 3) := by decide +kernel
theorem xd_LW_load_12 : decode xc_LW_load 12 = .ok (.astore_n 3, 1) := by decide +kernel
theorem xd_LW_load_13 : decode xc_LW_load 13 = .ok (.iconst 1, 1) := by decide +kernel
theorem xd_LW_load_14 : decode xc_LW_load 14 = .ok (.ireturn, 1) := by decide +kernel
theorem xd_LW_load_15 : decode xc_LW_load 15 = .ok (.iconst 0, 1) := by decide +kernel
theorem xd_LW_load_16 : decode xc_LW_load 16 = .ok (.ireturn, 1) := by decide +kernel
theorem xd_LW_reach_0 : decode xc_LW_reach 0 = .ok (.aload 4, 2) := by decide +kernel
theorem xd_LW_reach_2 : decode xc_LW_reach 2 = .ok (.iconst 0, 1) := by decide +kernel
theorem xd_LW_reach_3 : decode xc_LW_reach 3 = .ok (.aload_n 0, 1) := by decide +kernel
theorem xd_LW_reach_4 : decode xc_LW_reach 4 = .ok (.iload_n 1, 1) := by decide +kernel
theorem xd_LW_reach_5 : decode xc_LW_reach 5 = .ok (.iload_n 2, 1) := by decide +kernel
theorem xd_LW_reach_6 : decode xc_LW_reach 6 = .ok (.iload_n 3, 1) := by decide +kernel
theorem xd_LW_reach_7 : decode xc_LW_reach 7 = .ok (.invokevirtual 32, 3) := by decide +kernel
theorem xd_LW_reach_10 : decode xc_LW_reach 10 = .ok (.i2l, 1) := by decide +kernel
theorem xd_LW_reach_11 : decode xc_LW_reach 11 = .ok (.lastore, 1) := by decide +kernel
theorem xd_LW_reach_12 : decode xc_LW_reach 12 = .ok (.goto 11, 3) := by decide +kernel
theorem xd_LW_reach_15 : decode xc_LW_reach 15 = .ok (.astore 5, 2) := by decide +kernel
theorem xd_LW_reach_17 : decode xc_LW_reach 17 = .ok (.iconst 1, 1) := by decide +kernel
theorem xd_LW_reach_18 : decode xc_LW_reach 18 = .ok (.ireturn, 1) := by decide +kernel
theorem xd_LW_reach_19 : decode xc_LW_reach 19 = .ok (.astore 5, 2) := by decide +kernel
theorem xd_LW_reach_21 : decode xc_LW_reach 21 = .ok (.iconst 2, 1) := by decide +kernel
theorem xd_LW_reach_22 : decode xc_LW_reach 22 = .ok (.ireturn, 1) := by decide +kernel
theorem xd_LW_reach_23 : decode xc_LW_reach 23 = .ok (.iconst 0, 1) := by decide +kernel
theorem xd_LW_reach_24 : decode xc_LW_reach 24 = .ok (.ireturn, 1) := by decide +kernel
theorem xd_LW_distance_0 : decode xc_LW_distance 0 = .ok (.aload 4, 2) := by decide +kernel
theorem xd_LW_distance_2 : decode xc_LW_distance 2 = .ok (.iconst 0, 1) := by decide +kernel
theorem xd_LW_distance_3 : decode xc_LW_distance 3 = .ok (.aload_n 0, 1) := by decide +kernel
theorem xd_LW_distance_4 : decode xc_LW_distance 4 = .ok (.iload_n 1, 1) := by decide +kernel
theorem xd_LW_distance_5 : decode xc_LW_distance 5 = .ok (.iload_n 2, 1) := by decide +kernel
theorem xd_LW_distance_6 : decode xc_LW_distance 6 = .ok (.iload_n 3, 1) := by decide +kernel
theorem xd_LW_distance_7 : decode xc_LW_distance 7 = .ok (.invokevirtual 36, 3) := by decide +kernel
theorem xd_LW_distance_10 : decode xc_LW_distance 10 = .ok (.i2l, 1) := by decide +kernel
theorem xd_LW_distance_11 : decode xc_LW_distance 11 = .ok (.lastore, 1) := by decide +kernel
theorem xd_LW_distance_12 : decode xc_LW_distance 12 = .ok (.goto 11, 3) := by decide +kernel
theorem xd_LW_distance_15 : decode xc_LW_distance 15 = .ok (.astore 5, 2) := by decide +kernel
theorem xd_LW_distance_17 : decode xc_LW_distance 17 = .ok (.iconst 1, 1) := by decide +kernel
theorem xd_LW_distance_18 : decode xc_LW_distance 18 = .ok (.ireturn, 1) := by decide +kernel
theorem xd_LW_distance_19 : decode xc_LW_distance 19 = .ok (.astore 5, 2) := by decide +kernel
theorem xd_LW_distance_21 : decode xc_LW_distance 21 = .ok (.iconst 2, 1) := by decide +kernel
theorem xd_LW_distance_22 : decode xc_LW_distance 22 = .ok (.ireturn, 1) := by decide +kernel
theorem xd_LW_distance_23 : decode xc_LW_distance 23 = .ok (.iconst 0, 1) := by decide +kernel
theorem xd_LW_distance_24 : decode xc_LW_distance 24 = .ok (.ireturn, 1) := by decide +kernel
theorem xd_LW_span_0 : decode xc_LW_span 0 = .ok (.aload_n 2, 1) := by decide +kernel
theorem xd_LW_span_1 : decode xc_LW_span 1 = .ok (.iconst 0, 1) := by decide +kernel
theorem xd_LW_span_2 : decode xc_LW_span 2 = .ok (.aload_n 0, 1) := by decide +kernel
theorem xd_LW_span_3 : decode xc_LW_span 3 = .ok (.iload_n 1, 1) := by decide +kernel
theorem xd_LW_span_4 : decode xc_LW_span 4 = .ok (.invokevirtual 40, 3) := by decide +kernel
theorem xd_LW_span_7 : decode xc_LW_span 7 = .ok (.i2l, 1) := by decide +kernel
theorem xd_LW_span_8 : decode xc_LW_span 8 = .ok (.lastore, 1) := by decide +kernel
theorem xd_LW_span_9 : decode xc_LW_span 9 = .ok (.goto 6, 3) := by decide +kernel
theorem xd_LW_span_12 : decode xc_LW_span 12 = .ok (.astore_n 3, 1) := by decide +kernel
theorem xd_LW_span_13 : decode xc_LW_span 13 = .ok (.iconst 1, 1) := by decide +kernel
theorem xd_LW_span_14 : decode xc_LW_span 14 = .ok (.ireturn, 1) := by decide +kernel
theorem xd_LW_span_15 : decode xc_LW_span 15 = .ok (.iconst 0, 1) := by decide +kernel
theorem xd_LW_span_16 : decode xc_LW_span 16 = .ok (.ireturn, 1) := by decide +kernel
theorem xd_LW_pairs_0 : decode xc_LW_pairs 0 = .ok (.aload 4, 2) := by decide +kernel
theorem xd_LW_pairs_2 : decode xc_LW_pairs 2 = .ok (.iconst 0, 1) := by decide +kernel
theorem xd_LW_pairs_3 : decode xc_LW_pairs 3 = .ok (.aload_n 0, 1) := by decide +kernel
theorem xd_LW_pairs_4 : decode xc_LW_pairs 4 = .ok (.iload_n 1, 1) := by decide +kernel
theorem xd_LW_pairs_5 : decode xc_LW_pairs 5 = .ok (.iload_n 2, 1) := by decide +kernel
theorem xd_LW_pairs_6 : decode xc_LW_pairs 6 = .ok (.iload_n 3, 1) := by decide +kernel
theorem xd_LW_pairs_7 : decode xc_LW_pairs 7 = .ok (.invokevirtual 43, 3) := by decide +kernel
theorem xd_LW_pairs_10 : decode xc_LW_pairs 10 = .ok (.i2l, 1) := by decide +kernel
theorem xd_LW_pairs_11 : decode xc_LW_pairs 11 = .ok (.lastore, 1) := by decide +kernel
theorem xd_LW_pairs_12 : decode xc_LW_pairs 12 = .ok (.goto 11, 3) := by decide +kernel
theorem xd_LW_pairs_15 : decode xc_LW_pairs 15 = .ok (.astore 5, 2) := by decide +kernel
theorem xd_LW_pairs_17 : decode xc_LW_pairs 17 = .ok (.iconst 1, 1) := by decide +kernel
theorem xd_LW_pairs_18 : decode xc_LW_pairs 18 = .ok (.ireturn, 1) := by decide +kernel
theorem xd_LW_pairs_19 : decode xc_LW_pairs 19 = .ok (.astore 5, 2) := by decide +kernel
theorem xd_LW_pairs_21 : decode xc_LW_pairs 21 = .ok (.iconst 2, 1) := by decide +kernel
theorem xd_LW_pairs_22 : decode xc_LW_pairs 22 = .ok (.ireturn, 1) := by decide +kernel
theorem xd_LW_pairs_23 : decode xc_LW_pairs 23 = .ok (.iconst 0, 1) := by decide +kernel
theorem xd_LW_pairs_24 : decode xc_LW_pairs 24 = .ok (.ireturn, 1) := by decide +kernel
theorem xd_LW_circle_0 : decode xc_LW_circle 0 = .ok (.aload_n 2, 1) := by decide +kernel
theorem xd_LW_circle_1 : decode xc_LW_circle 1 = .ok (.iconst 0, 1) := by decide +kernel
theorem xd_LW_circle_2 : decode xc_LW_circle 2 = .ok (.aload_n 0, 1) := by decide +kernel
theorem xd_LW_circle_3 : decode xc_LW_circle 3 = .ok (.iload_n 1, 1) := by decide +kernel
theorem xd_LW_circle_4 : decode xc_LW_circle 4 = .ok (.invokevirtual 46, 3) := by decide +kernel
theorem xd_LW_circle_7 : decode xc_LW_circle 7 = .ok (.i2l, 1) := by decide +kernel
theorem xd_LW_circle_8 : decode xc_LW_circle 8 = .ok (.lastore, 1) := by decide +kernel
theorem xd_LW_circle_9 : decode xc_LW_circle 9 = .ok (.goto 6, 3) := by decide +kernel
theorem xd_LW_circle_12 : decode xc_LW_circle 12 = .ok (.astore_n 3, 1) := by decide +kernel
theorem xd_LW_circle_13 : decode xc_LW_circle 13 = .ok (.iconst 1, 1) := by decide +kernel
theorem xd_LW_circle_14 : decode xc_LW_circle 14 = .ok (.ireturn, 1) := by decide +kernel
theorem xd_LW_circle_15 : decode xc_LW_circle 15 = .ok (.iconst 0, 1) := by decide +kernel
theorem xd_LW_circle_16 : decode xc_LW_circle 16 = .ok (.ireturn, 1) := by decide +kernel
theorem xd_LW_best_0 : decode xc_LW_best 0 = .ok (.aload_n 2, 1) := by decide +kernel
theorem xd_LW_best_1 : decode xc_LW_best 1 = .ok (.iconst 0, 1) := by decide +kernel
theorem xd_LW_best_2 : decode xc_LW_best 2 = .ok (.aload_n 0, 1) := by decide +kernel
theorem xd_LW_best_3 : decode xc_LW_best 3 = .ok (.iload_n 1, 1) := by decide +kernel
theorem xd_LW_best_4 : decode xc_LW_best 4 = .ok (.invokevirtual 49, 3) := by decide +kernel
theorem xd_LW_best_7 : decode xc_LW_best 7 = .ok (.i2l, 1) := by decide +kernel
theorem xd_LW_best_8 : decode xc_LW_best 8 = .ok (.lastore, 1) := by decide +kernel
theorem xd_LW_best_9 : decode xc_LW_best 9 = .ok (.goto 6, 3) := by decide +kernel
theorem xd_LW_best_12 : decode xc_LW_best 12 = .ok (.astore_n 3, 1) := by decide +kernel
theorem xd_LW_best_13 : decode xc_LW_best 13 = .ok (.iconst 1, 1) := by decide +kernel
theorem xd_LW_best_14 : decode xc_LW_best 14 = .ok (.ireturn, 1) := by decide +kernel
theorem xd_LW_best_15 : decode xc_LW_best 15 = .ok (.iconst 0, 1) := by decide +kernel
theorem xd_LW_best_16 : decode xc_LW_best 16 = .ok (.ireturn, 1) := by decide +kernel
end
section
theorem xd_JI_bitCount_0 : decode xc_JI_bitCount 0 = .ok (.iload_n 0, 1) := by decide +kernel
theorem xd_JI_bitCount_1 : decode xc_JI_bitCount 1 = .ok (.iload_n 0, 1) := by decide +kernel
theorem xd_JI_bitCount_2 : decode xc_JI_bitCount 2 = .ok (.iconst 1, 1) := by decide +kernel
theorem xd_JI_bitCount_3 : decode xc_JI_bitCount 3 = .ok (.iushr, 1) := by decide +kernel
theorem xd_JI_bitCount_4 : decode xc_JI_bitCount 4 = .ok (.ldc_w 265, 3) := by decide +kernel
theorem xd_JI_bitCount_7 : decode xc_JI_bitCount 7 = .ok (.iand, 1) := by decide +kernel
theorem xd_JI_bitCount_8 : decode xc_JI_bitCount 8 = .ok (.isub, 1) := by decide +kernel
theorem xd_JI_bitCount_9 : decode xc_JI_bitCount 9 = .ok (.istore_n 0, 1) := by decide +kernel
theorem xd_JI_bitCount_10 : decode xc_JI_bitCount 10 = .ok (.iload_n 0, 1) := by decide +kernel
theorem xd_JI_bitCount_11 : decode xc_JI_bitCount 11 = .ok (.ldc_w 266, 3) := by decide +kernel
theorem xd_JI_bitCount_14 : decode xc_JI_bitCount 14 = .ok (.iand, 1) := by decide +kernel
theorem xd_JI_bitCount_15 : decode xc_JI_bitCount 15 = .ok (.iload_n 0, 1) := by decide +kernel
theorem xd_JI_bitCount_16 : decode xc_JI_bitCount 16 = .ok (.iconst 2, 1) := by decide +kernel
theorem xd_JI_bitCount_17 : decode xc_JI_bitCount 17 = .ok (.iushr, 1) := by decide +kernel
theorem xd_JI_bitCount_18 : decode xc_JI_bitCount 18 = .ok (.ldc_w 266, 3) := by decide +kernel
theorem xd_JI_bitCount_21 : decode xc_JI_bitCount 21 = .ok (.iand, 1) := by decide +kernel
theorem xd_JI_bitCount_22 : decode xc_JI_bitCount 22 = .ok (.iadd, 1) := by decide +kernel
theorem xd_JI_bitCount_23 : decode xc_JI_bitCount 23 = .ok (.istore_n 0, 1) := by decide +kernel
theorem xd_JI_bitCount_24 : decode xc_JI_bitCount 24 = .ok (.iload_n 0, 1) := by decide +kernel
theorem xd_JI_bitCount_25 : decode xc_JI_bitCount 25 = .ok (.iload_n 0, 1) := by decide +kernel
theorem xd_JI_bitCount_26 : decode xc_JI_bitCount 26 = .ok (.iconst 4, 1) := by decide +kernel
theorem xd_JI_bitCount_27 : decode xc_JI_bitCount 27 = .ok (.iushr, 1) := by decide +kernel
theorem xd_JI_bitCount_28 : decode xc_JI_bitCount 28 = .ok (.iadd, 1) := by decide +kernel
theorem xd_JI_bitCount_29 : decode xc_JI_bitCount 29 = .ok (.ldc_w 267, 3) := by decide +kernel
theorem xd_JI_bitCount_32 : decode xc_JI_bitCount 32 = .ok (.iand, 1) := by decide +kernel
theorem xd_JI_bitCount_33 : decode xc_JI_bitCount 33 = .ok (.istore_n 0, 1) := by decide +kernel
theorem xd_JI_bitCount_34 : decode xc_JI_bitCount 34 = .ok (.iload_n 0, 1) := by decide +kernel
theorem xd_JI_bitCount_35 : decode xc_JI_bitCount 35 = .ok (.iload_n 0, 1) := by decide +kernel
theorem xd_JI_bitCount_36 : decode xc_JI_bitCount 36 = .ok (.bipush 8, 2) := by decide +kernel
theorem xd_JI_bitCount_38 : decode xc_JI_bitCount 38 = .ok (.iushr, 1) := by decide +kernel
theorem xd_JI_bitCount_39 : decode xc_JI_bitCount 39 = .ok (.iadd, 1) := by decide +kernel
theorem xd_JI_bitCount_40 : decode xc_JI_bitCount 40 = .ok (.istore_n 0, 1) := by decide +kernel
theorem xd_JI_bitCount_41 : decode xc_JI_bitCount 41 = .ok (.iload_n 0, 1) := by decide +kernel
theorem xd_JI_bitCount_42 : decode xc_JI_bitCount 42 = .ok (.iload_n 0, 1) := by decide +kernel
theorem xd_JI_bitCount_43 : decode xc_JI_bitCount 43 = .ok (.bipush 16, 2) := by decide +kernel
theorem xd_JI_bitCount_45 : decode xc_JI_bitCount 45 = .ok (.iushr, 1) := by decide +kernel
theorem xd_JI_bitCount_46 : decode xc_JI_bitCount 46 = .ok (.iadd, 1) := by decide +kernel
theorem xd_JI_bitCount_47 : decode xc_JI_bitCount 47 = .ok (.istore_n 0, 1) := by decide +kernel
theorem xd_JI_bitCount_48 : decode xc_JI_bitCount 48 = .ok (.iload_n 0, 1) := by decide +kernel
theorem xd_JI_bitCount_49 : decode xc_JI_bitCount 49 = .ok (.bipush 63, 2) := by decide +kernel
theorem xd_JI_bitCount_51 : decode xc_JI_bitCount 51 = .ok (.iand, 1) := by decide +kernel
theorem xd_JI_bitCount_52 : decode xc_JI_bitCount 52 = .ok (.ireturn, 1) := by decide +kernel
theorem xd_JA_fill_0 : decode xc_JA_fill 0 = .ok (.iconst 0, 1) := by decide +kernel
theorem xd_JA_fill_1 : decode xc_JA_fill 1 = .ok (.istore_n 2, 1) := by decide +kernel
theorem xd_JA_fill_2 : decode xc_JA_fill 2 = .ok (.aload_n 0, 1) := by decide +kernel
theorem xd_JA_fill_3 : decode xc_JA_fill 3 = .ok (.arraylength, 1) := by decide +kernel
theorem xd_JA_fill_4 : decode xc_JA_fill 4 = .ok (.istore_n 3, 1) := by decide +kernel
theorem xd_JA_fill_5 : decode xc_JA_fill 5 = .ok (.iload_n 2, 1) := by decide +kernel
theorem xd_JA_fill_6 : decode xc_JA_fill 6 = .ok (.iload_n 3, 1) := by decide +kernel
theorem xd_JA_fill_7 : decode xc_JA_fill 7 = .ok (.if_icmp .ge 13, 3) := by decide +kernel
theorem xd_JA_fill_10 : decode xc_JA_fill 10 = .ok (.aload_n 0, 1) := by decide +kernel
theorem xd_JA_fill_11 : decode xc_JA_fill 11 = .ok (.iload_n 2, 1) := by decide +kernel
theorem xd_JA_fill_12 : decode xc_JA_fill 12 = .ok (.iload_n 1, 1) := by decide +kernel
theorem xd_JA_fill_13 : decode xc_JA_fill 13 = .ok (.iastore, 1) := by decide +kernel
theorem xd_JA_fill_14 : decode xc_JA_fill 14 = .ok (.iinc 2 1, 3) := by decide +kernel
theorem xd_JA_fill_17 : decode xc_JA_fill 17 = .ok (.goto (-12), 3) := by decide +kernel
theorem xd_JA_fill_20 : decode xc_JA_fill 20 = .ok (.return_, 1) := by decide +kernel
end
section
/-! bits (bt .. b_sshr8: the kit's BITS.to-paste, first family; the rest is own) -/
def bt (x : Int32) (i : Nat) : Bool := x.toBitVec.getLsbD i
theorem b_ext {x y : Int32} (h : ∀ i, i < 32 → bt x i = bt y i) : x = y := Int32.toBitVec_inj.mp (BitVec.eq_of_getLsbD_eq (fun i hi => h i hi))
theorem b_or (x y : Int32) (i : Nat) : bt (x ||| y) i = (bt x i || bt y i) := by unfold bt; rw [Int32.toBitVec_or, BitVec.getLsbD_or]
theorem b_and (x y : Int32) (i : Nat) : bt (x &&& y) i = (bt x i && bt y i) := by unfold bt; rw [Int32.toBitVec_and, BitVec.getLsbD_and]
theorem b_xor (x y : Int32) (i : Nat) : bt (x ^^^ y) i = (bt x i ^^ bt y i) := by unfold bt; rw [Int32.toBitVec_xor, BitVec.getLsbD_xor]
theorem b_big {x : Int32} {i : Nat} (h : 32 ≤ i) : bt x i = false := BitVec.getLsbD_of_ge _ _ h
theorem b_255 (i : Nat) : bt 255 i = decide (i < 8) := by
  rcases Nat.lt_or_ge i 32 with h | h
  · exact (by decide +kernel : ∀ i, i < 32 → bt 255 i = decide (i < 8)) i h
  · rw [b_big h, decide_eq_false (by omega)]
theorem b_65535 (i : Nat) : bt 65535 i = decide (i < 16) := by
  rcases Nat.lt_or_ge i 32 with h | h
  · exact (by decide +kernel : ∀ i, i < 32 → bt 65535 i = decide (i < 16)) i h
  · rw [b_big h, decide_eq_false (by omega)]
theorem b_m1 : ∀ i, i < 32 → bt (-1) i = true := by decide +kernel
theorem b_0 (i : Nat) : bt 0 i = false := BitVec.getLsbD_zero
theorem s_l : ∀ n, n < 32 → ((nI n &&& 31).toBitVec.smod 32).toNat = n := by decide +kernel
theorem s_u : ∀ n, n < 32 → (((nI n).toUInt32 &&& Int32.toUInt32 31).toBitVec % 32).toNat = n := by decide +kernel
theorem b_shl (n : Nat) (hn : n < 32) (x : Int32) {i : Nat} (hi : i < 32) : bt (x <<< (nI n &&& 31)) i = (decide (n ≤ i) && bt x (i - n)) := by
  unfold bt
  rw [Int32.toBitVec_shiftLeft]
  show (x.toBitVec <<< ((nI n &&& 31).toBitVec.smod 32).toNat).getLsbD i = _
  rw [s_l n hn, BitVec.getLsbD_shiftLeft]
  rcases Nat.lt_or_ge i n with h | h
  · simp [h, Nat.not_le.mpr h]
  · simp [hi, h, Nat.not_lt.mpr h]
theorem b_ushr (n : Nat) (hn : n < 32) (x : Int32) (i : Nat) : bt ((x.toUInt32 >>> ((nI n).toUInt32 &&& Int32.toUInt32 31)).toInt32) i = bt x (n + i) := by
  show (x.toUInt32 >>> ((nI n).toUInt32 &&& Int32.toUInt32 31)).toBitVec.getLsbD i = x.toUInt32.toBitVec.getLsbD (n + i)
  rw [UInt32.toBitVec_shiftRight]
  show (x.toUInt32.toBitVec >>> (((nI n).toUInt32 &&& Int32.toUInt32 31).toBitVec % 32).toNat).getLsbD i = _
  rw [s_u n hn, BitVec.getLsbD_ushiftRight]
theorem b_sshr (n : Nat) (hn : n < 32) (x : Int32) {i : Nat} (hi : i < 32) : bt (x >>> (nI n &&& 31)) i = if n + i < 32 then bt x (n + i) else bt x 31 := by
  unfold bt
  rw [Int32.toBitVec_shiftRight]
  show (x.toBitVec.sshiftRight ((nI n &&& 31).toBitVec.smod 32).toNat).getLsbD i = _
  rw [s_l n hn, BitVec.getLsbD_sshiftRight, BitVec.msb_eq_getLsbD_last]
  simp [hi]
theorem b_shl8 (x : Int32) {i : Nat} (hi : i < 32) : bt (x <<< ((8 : Int32) &&& 31)) i = (decide (8 ≤ i) && bt x (i - 8)) := b_shl 8 (by omega) x hi
theorem b_shl16 (x : Int32) {i : Nat} (hi : i < 32) : bt (x <<< ((16 : Int32) &&& 31)) i = (decide (16 ≤ i) && bt x (i - 16)) := b_shl 16 (by omega) x hi
theorem b_shl24 (x : Int32) {i : Nat} (hi : i < 32) : bt (x <<< ((24 : Int32) &&& 31)) i = (decide (24 ≤ i) && bt x (i - 24)) := b_shl 24 (by omega) x hi
theorem b_sshr8 (x : Int32) {i : Nat} (hi : i < 32) : bt (x >>> ((8 : Int32) &&& 31)) i = if 8 + i < 32 then bt x (8 + i) else bt x 31 := b_sshr 8 (by omega) x hi

/-! bits as sets of nodes -/
theorem bt_nI {x i : Nat} (hx : x < 2 ^ 32) : bt (nI x) i = x.testBit i := by
  show (BitVec.ofNat 32 x).getLsbD i = _
  rw [BitVec.getLsbD_ofNat]
  by_cases hi : i < 32
  · simp [hi]
  · have : x.testBit i = false := Nat.testBit_lt_two_pow (Nat.lt_of_lt_of_le hx (Nat.pow_le_pow_right (by omega) (by omega)))
    simp [hi, this]
theorem bt_one (t : Nat) (ht : t < 32) (i : Nat) (hi : i < 32) : bt ((1 : Int32) <<< (nI t &&& 31)) i = decide (i = t) := by
  rw [b_shl t ht 1 hi]
  by_cases h : t ≤ i
  · by_cases e : i = t
    · subst e
      simp
      decide +kernel
    · have : bt (1 : Int32) (i - t) = false := (by decide +kernel : ∀ j, j < 32 → j ≠ 0 → bt (1 : Int32) j = false) (i - t) (by omega) (by omega)
      simp [e, this]
  · have e : ¬ i = t := by omega
    simp [h, e]
theorem bt_and1 (x : Int32) : (x &&& 1) = 0 ↔ bt x 0 = false := by
  constructor
  · intro h
    have := congrArg (fun z => bt z 0) h
    simp only [b_and, b_0] at this
    rw [show bt (1 : Int32) 0 = true by decide +kernel, Bool.and_true] at this
    exact this
  · intro h
    refine b_ext fun i hi => ?_
    rw [b_and, b_0]
    by_cases e : i = 0
    · subst e
      rw [h]; rfl
    · rw [(by decide +kernel : ∀ j, j < 32 → j ≠ 0 → bt (1 : Int32) j = false) i hi e, Bool.and_false]
/-- isIn -/
theorem bt_in (x : Int32) {t : Nat} (ht : t < 32) : ((x.toUInt32 >>> ((nI t).toUInt32 &&& Int32.toUInt32 31)).toInt32 &&& 1) = 0 ↔ bt x t = false := by
  rw [bt_and1, b_ushr t ht x 0, Nat.add_zero]
/-- nothing stands from t on -/
theorem bt_ush (x : Int32) {t : Nat} (ht : t < 32) : (x.toUInt32 >>> ((nI t).toUInt32 &&& Int32.toUInt32 31)).toInt32 = 0 ↔ ∀ i, t ≤ i → i < 32 → bt x i = false := by
  constructor
  · intro h i h1 h2
    have := congrArg (fun z => bt z (i - t)) h
    simp only [b_0] at this
    rw [b_ushr t ht x, show t + (i - t) = i by omega] at this
    exact this
  · intro h
    refine b_ext fun i hi => ?_
    rw [b_ushr t ht x, b_0]
    by_cases e : t + i < 32
    · exact h _ (by omega) e
    · exact b_big (by omega)
theorem bt_zero {x : Int32} : x = 0 ↔ ∀ i, i < 32 → bt x i = false := by
  constructor
  · rintro rfl i _
    exact b_0 i
  · intro h
    exact b_ext fun i hi => by rw [h i hi, b_0]
theorem bt_not (x : Int32) {i : Nat} (hi : i < 32) : bt (x ^^^ (-1)) i = !bt x i := by
  rw [b_xor, b_m1 i hi]
  cases bt x i <;> rfl
theorem bt_mask (x : Int32) {t : Nat} (ht : t < 32) : (x &&& ((1 : Int32) <<< (nI t &&& 31))) = 0 ↔ bt x t = false := by
  rw [bt_zero]
  constructor
  · intro h
    have := h t ht
    rw [b_and, bt_one t ht t ht, decide_eq_true rfl, Bool.and_true] at this
    exact this
  · intro h i hi
    rw [b_and, bt_one t ht i hi]
    by_cases e : i = t
    · subst e
      rw [h]; rfl
    · rw [decide_eq_false e, Bool.and_false]
/-! how many -/
def bc_n (f : Nat → Bool) : Nat → Nat
  | 0 => 0
  | n + 1 => bc_n f n + if f n then 1 else 0
theorem bc_le (f : Nat → Bool) : ∀ n, bc_n f n ≤ n
  | 0 => Nat.le_refl _
  | n + 1 => by
    have := bc_le f n
    unfold bc_n
    split <;> omega
theorem bc_congr {f g : Nat → Bool} : ∀ {n : Nat}, (∀ i, i < n → f i = g i) → bc_n f n = bc_n g n
  | 0, _ => rfl
  | n + 1, h => by
    unfold bc_n
    rw [bc_congr (fun i hi => h i (by omega)), h n (by omega)]
theorem bc_add (f : Nat → Bool) (m : Nat) : ∀ n, bc_n f (m + n) = bc_n f m + bc_n (fun i => f (m + i)) n
  | 0 => rfl
  | n + 1 => by
    show bc_n f (m + n) + (if f (m + n) then 1 else 0) = bc_n f m + (bc_n (fun i => f (m + i)) n + (if f (m + n) then 1 else 0))
    rw [bc_add f m n]
    exact Nat.add_assoc _ _ _
theorem bc_land {a b c d : Nat} (ha : a < 2 ^ 8) (hc : c < 2 ^ 8) : (2 ^ 8 * b + a) &&& (2 ^ 8 * d + c) = 2 ^ 8 * (b &&& d) + (a &&& c) := by
  apply Nat.eq_of_testBit_eq
  intro i
  have hac : a &&& c < 2 ^ 8 := Nat.lt_of_le_of_lt Nat.and_le_left ha
  rw [Nat.testBit_and, Nat.testBit_two_pow_mul_add _ ha, Nat.testBit_two_pow_mul_add _ hc, Nat.testBit_two_pow_mul_add _ hac]
  split
  · rw [Nat.testBit_and]
  · rw [Nat.testBit_and]
def bc_8 (a : Nat) : Nat := bc_n (fun i => a.testBit i) 8
def bc_t1 (a : Nat) : Nat := a - (a / 2 &&& 0x55)
def bc_t2 (u : Nat) : Nat := (u &&& 0x33) + (u / 4 &&& 0x33)
theorem bc_b1 : ∀ a, a < 256 → ∀ z, z < 2 → ((128 * z + a / 2) &&& 0x55) = (a / 2 &&& 0x55) ∧ (a / 2 &&& 0x55) ≤ a ∧ bc_t1 a < 256 := by decide +kernel
theorem bc_b2 : ∀ a, a < 256 → ∀ z, z < 4 → ((64 * z + a / 4) &&& 0x33) = (a / 4 &&& 0x33) := by decide +kernel
theorem bc_b3 : ∀ a, a < 256 → bc_t2 (bc_t1 a) % 16 ≤ 4 ∧ bc_t2 (bc_t1 a) / 16 ≤ 4 ∧ bc_t2 (bc_t1 a) < 256 ∧ bc_t2 (bc_t1 a) % 16 + bc_t2 (bc_t1 a) / 16 = bc_8 a ∧ bc_8 a ≤ 8 := by decide +kernel
theorem bc_b4 : ∀ a, a < 256 → (a &&& 0x0f) = a % 16 := by decide +kernel
theorem bc_s1 {x a b c d : Nat} (ha : a < 256) (hb : b < 256) (hc : c < 256) (hd : d < 256) (hx : x = 2 ^ 8 * (2 ^ 8 * (2 ^ 8 * d + c) + b) + a) : x - (x / 2 &&& 0x55555555) = 2 ^ 8 * (2 ^ 8 * (2 ^ 8 * bc_t1 d + bc_t1 c) + bc_t1 b) + bc_t1 a ∧ (x / 2 &&& 0x55555555) ≤ x := by
  have e1 : x / 2 = 2 ^ 8 * (2 ^ 8 * (2 ^ 8 * (d / 2) + (128 * (d % 2) + c / 2)) + (128 * (c % 2) + b / 2)) + (128 * (b % 2) + a / 2) := by omega
  have e2 : (0x55555555 : Nat) = 2 ^ 8 * (2 ^ 8 * (2 ^ 8 * 0x55 + 0x55) + 0x55) + 0x55 := by decide
  obtain ⟨a1, a2, a3⟩ := bc_b1 a ha (b % 2) (by omega)
  obtain ⟨b1, b2, b3⟩ := bc_b1 b hb (c % 2) (by omega)
  obtain ⟨c1, c2, c3⟩ := bc_b1 c hc (d % 2) (by omega)
  obtain ⟨d1, d2, d3⟩ := bc_b1 d hd 0 (by omega)
  have e3 : x / 2 &&& 0x55555555 = 2 ^ 8 * (2 ^ 8 * (2 ^ 8 * (d / 2 &&& 0x55) + (c / 2 &&& 0x55)) + (b / 2 &&& 0x55)) + (a / 2 &&& 0x55) := by
    rw [e1, e2, bc_land (by omega) (by decide), bc_land (by omega) (by decide), bc_land (by omega) (by decide), a1, b1, c1]
  rw [e3]
  unfold bc_t1
  generalize (a / 2 &&& 0x55) = A at *
  generalize (b / 2 &&& 0x55) = B at *
  generalize (c / 2 &&& 0x55) = C at *
  generalize (d / 2 &&& 0x55) = E at *
  omega
theorem bc_s2 {x a b c d : Nat} (ha : a < 256) (hb : b < 256) (hc : c < 256) (hd : d < 256) (hx : x = 2 ^ 8 * (2 ^ 8 * (2 ^ 8 * d + c) + b) + a) : (x &&& 0x33333333) + (x / 4 &&& 0x33333333) = 2 ^ 8 * (2 ^ 8 * (2 ^ 8 * bc_t2 d + bc_t2 c) + bc_t2 b) + bc_t2 a := by
  have e1 : x / 4 = 2 ^ 8 * (2 ^ 8 * (2 ^ 8 * (d / 4) + (64 * (d % 4) + c / 4)) + (64 * (c % 4) + b / 4)) + (64 * (b % 4) + a / 4) := by omega
  have e2 : (0x33333333 : Nat) = 2 ^ 8 * (2 ^ 8 * (2 ^ 8 * 0x33 + 0x33) + 0x33) + 0x33 := by decide
  have a1 := bc_b2 a ha (b % 4) (by omega)
  have b1 := bc_b2 b hb (c % 4) (by omega)
  have c1 := bc_b2 c hc (d % 4) (by omega)
  have e3 : x / 4 &&& 0x33333333 = 2 ^ 8 * (2 ^ 8 * (2 ^ 8 * (d / 4 &&& 0x33) + (c / 4 &&& 0x33)) + (b / 4 &&& 0x33)) + (a / 4 &&& 0x33) := by
    rw [e1, e2, bc_land (by omega) (by decide), bc_land (by omega) (by decide), bc_land (by omega) (by decide), a1, b1, c1]
  have e4 : x &&& 0x33333333 = 2 ^ 8 * (2 ^ 8 * (2 ^ 8 * (d &&& 0x33) + (c &&& 0x33)) + (b &&& 0x33)) + (a &&& 0x33) := by
    rw [hx, e2, bc_land (by omega) (by decide), bc_land (by omega) (by decide), bc_land (by omega) (by decide)]
  rw [e3, e4]
  unfold bc_t2
  omega
theorem bc_end {p q r t w v u : Nat} (hp : p ≤ 8) (hq : q ≤ 8) (hr : r ≤ 8) (ht : t ≤ 8) (hw : w = 256 * (256 * (256 * t + r) + q) + p) (hv : v = w + w / 256) (hu : u = v + v / 65536) : u % 64 = p + q + r + t ∧ w < 1073741824 := by
  have e1 : w / 256 = 256 * (256 * t + r) + q := by omega
  have e2 : v = 256 * (256 * (256 * t + (r + t)) + (q + r)) + (p + q) := by omega
  have e3 : v / 65536 = 256 * t + (r + t) := by omega
  omega
theorem bc_nat {x : Nat} (hx : x < 2 ^ 32) {y z w v u : Nat} (hy : y = x - (x / 2 &&& 0x55555555)) (hz : z = (y &&& 0x33333333) + (y / 4 &&& 0x33333333)) (hw : w = (z + z / 16) &&& 0x0f0f0f0f) (hv : v = w + w / 256) (hu : u = v + v / 65536) : u % 64 = bc_n (fun i => x.testBit i) 32 ∧ (x / 2 &&& 0x55555555) ≤ x ∧ z < 2 ^ 31 ∧ w < 2 ^ 30 := by
  obtain ⟨a, b, c, d, ha, hb, hc, hd, hx2⟩ : ∃ a b c d, a < 256 ∧ b < 256 ∧ c < 256 ∧ d < 256 ∧ x = 2 ^ 8 * (2 ^ 8 * (2 ^ 8 * d + c) + b) + a := ⟨x % 256, x / 256 % 256, x / 65536 % 256, x / 16777216, by omega, by omega, by omega, by omega, by omega⟩
  obtain ⟨s1, s2⟩ := bc_s1 ha hb hc hd hx2
  have ta := (bc_b1 a ha 0 (by omega)).2.2
  have tb := (bc_b1 b hb 0 (by omega)).2.2
  have tc := (bc_b1 c hc 0 (by omega)).2.2
  have td := (bc_b1 d hd 0 (by omega)).2.2
  have s3 := bc_s2 ta tb tc td (hy.trans s1)
  rw [← hz] at s3
  obtain ⟨a1, a2, a3, a4, a5⟩ := bc_b3 a ha
  obtain ⟨b1, b2, b3, b4, b5⟩ := bc_b3 b hb
  obtain ⟨c1, c2, c3, c4, c5⟩ := bc_b3 c hc
  obtain ⟨d1, d2, d3, d4, d5⟩ := bc_b3 d hd
  generalize bc_t2 (bc_t1 a) = A at *
  generalize bc_t2 (bc_t1 b) = B at *
  generalize bc_t2 (bc_t1 c) = C at *
  generalize bc_t2 (bc_t1 d) = E at *
  have e1 : z + z / 16 = 2 ^ 8 * (2 ^ 8 * (2 ^ 8 * (E + E / 16) + (C + C / 16 + 16 * (E % 16))) + (B + B / 16 + 16 * (C % 16))) + (A + A / 16 + 16 * (B % 16)) := by omega
  have e2 : (0x0f0f0f0f : Nat) = 2 ^ 8 * (2 ^ 8 * (2 ^ 8 * 0x0f + 0x0f) + 0x0f) + 0x0f := by decide
  have e3 : w = 2 ^ 8 * (2 ^ 8 * (2 ^ 8 * bc_8 d + bc_8 c) + bc_8 b) + bc_8 a := by
    rw [hw, e1, e2, bc_land (by omega) (by decide), bc_land (by omega) (by decide), bc_land (by omega) (by decide), bc_b4 _ (by omega), bc_b4 _ (by omega), bc_b4 _ (by omega), bc_b4 _ (by omega)]
    omega
  have e4 : bc_n (fun i => x.testBit i) 32 = bc_8 a + bc_8 b + bc_8 c + bc_8 d := by
    have k : ∀ (f : Nat → Bool), bc_n f 32 = bc_n f 8 + bc_n (fun i => f (8 + i)) 8 + bc_n (fun i => f (16 + i)) 8 + bc_n (fun i => f (24 + i)) 8 := by
      intro f
      rw [show (32 : Nat) = 8 + 24 from rfl, bc_add f 8 24, show (24 : Nat) = 8 + 16 from rfl, bc_add _ 8 16, show (16 : Nat) = 8 + 8 from rfl, bc_add _ 8 8]
      simp only [← Nat.add_assoc]
    rw [k]
    have q1 : bc_n (fun i => x.testBit i) 8 = bc_8 a := bc_congr fun i hi => by rw [hx2, Nat.testBit_two_pow_mul_add _ ha, if_pos hi]
    have q2 : bc_n (fun i => x.testBit (8 + i)) 8 = bc_8 b := bc_congr fun i hi => by
      show x.testBit (8 + i) = _
      rw [hx2, Nat.testBit_two_pow_mul_add _ ha, if_neg (by omega), show 8 + i - 8 = i by omega, Nat.testBit_two_pow_mul_add _ hb, if_pos hi]
    have q3 : bc_n (fun i => x.testBit (16 + i)) 8 = bc_8 c := bc_congr fun i hi => by
      show x.testBit (16 + i) = _
      rw [hx2, Nat.testBit_two_pow_mul_add _ ha, if_neg (by omega), show 16 + i - 8 = 8 + i by omega, Nat.testBit_two_pow_mul_add _ hb, if_neg (by omega), show 8 + i - 8 = i by omega, Nat.testBit_two_pow_mul_add _ hc, if_pos hi]
    have q4 : bc_n (fun i => x.testBit (24 + i)) 8 = bc_8 d := bc_congr fun i hi => by
      show x.testBit (24 + i) = _
      rw [hx2, Nat.testBit_two_pow_mul_add _ ha, if_neg (by omega), show 24 + i - 8 = 16 + i by omega, Nat.testBit_two_pow_mul_add _ hb, if_neg (by omega), show 16 + i - 8 = 8 + i by omega, Nat.testBit_two_pow_mul_add _ hc, if_neg (by omega), show 8 + i - 8 = i by omega]
    rw [q1, q2, q3, q4]
  rw [e4]
  have e5 := bc_end a5 b5 c5 d5 e3 hv hu
  refine ⟨e5.1, s2, ?_, e5.2⟩
  clear hv hu hw e1 e3 e4 e5 s1 s2 hy hx hx2
  omega
end
section
/-! Lengths of paths as sets: A i j n says that a path of length n leads from i to j. -/
abbrev pd_L : Type := Nat → Nat → Nat → Prop
def pd_seq (A B : pd_L) : pd_L := fun i j n => ∃ v a b, A i v a ∧ B v j b ∧ n = a + b
def pd_or (A B : pd_L) : pd_L := fun i j n => A i j n ∨ B i j n
def pd_id : pd_L := fun i j n => i = j ∧ i < 32 ∧ n = 0
def pd_no : pd_L := fun _ _ _ => False
def pd_eg (E : Nat → Nat → Prop) : pd_L := fun i j n => i < 32 ∧ j < 32 ∧ E i j ∧ n = 1
def pd_ts (T : Nat → Prop) : pd_L := fun i j n => i = j ∧ i < 32 ∧ T i ∧ n = 0
def pd_pw (V : Nat → Prop) (A : pd_L) : Nat → pd_L
  | 0 => A
  | m + 1 => fun i j n => ∃ v a b, V v ∧ A i v a ∧ pd_pw V A m v j b ∧ n = a + b
def pd_pl (V : Nat → Prop) (A : pd_L) : pd_L := fun i j n => ∃ m, pd_pw V A m i j n
def pd_nd (A : pd_L) : Prop := ∀ i j n, A i j n → i < 32 ∧ j < 32
theorem pd_ext {A B : pd_L} (h : ∀ i j n, A i j n ↔ B i j n) : A = B := by
  funext i j n
  exact propext (h i j n)
/-! walks in a graph of places, each place of weight w -/
def pd_wk (E : Nat → Nat → Prop) (w : Nat → Nat) (S : Nat → Prop) : Nat → Nat → Nat → Nat → Prop
  | 0, c, d, n => S c ∧ c = d ∧ n = w c
  | m + 1, c, d, n => S c ∧ ∃ c' n', E c c' ∧ pd_wk E w S m c' d n' ∧ n = w c + n'
theorem pd_wk_start {E : Nat → Nat → Prop} {w : Nat → Nat} {S : Nat → Prop} : ∀ {m c d n : Nat}, pd_wk E w S m c d n → S c
  | 0, _, _, _, h => h.1
  | _ + 1, _, _, _, h => h.1
theorem pd_wk_lt {E : Nat → Nat → Prop} {w : Nat → Nat} {N m c d n : Nat} (h : pd_wk E w (fun c => c < N) m c d n) : c < N := pd_wk_start (S := fun c => c < N) h
theorem pd_wk_map {E E' : Nat → Nat → Prop} {w w' : Nat → Nat} {S S' : Nat → Prop} (f : Nat → Nat) (hS : ∀ c, S c → S' (f c)) (hE : ∀ c c', S c → S c' → E c c' → E' (f c) (f c')) (hw : ∀ c, S c → w' (f c) = w c) :
    ∀ (m c d n : Nat), pd_wk E w S m c d n → pd_wk E' w' S' m (f c) (f d) n
  | 0, c, d, n, h => ⟨hS c h.1, by rw [h.2.1], by rw [hw c h.1]; exact h.2.2⟩
  | m + 1, c, d, n, h => by
    obtain ⟨h1, c', n', h2, h3, h4⟩ := h
    exact ⟨hS c h1, f c', n', hE c c' h1 (pd_wk_start h3) h2, pd_wk_map f hS hE hw m c' d n' h3, by rw [hw c h1]; exact h4⟩
theorem pd_wk_app {E : Nat → Nat → Prop} {w : Nat → Nat} {S : Nat → Prop} {c' d' m2 n2 : Nat} (h2 : pd_wk E w S m2 c' d' n2) :
    ∀ (m1 c d n1 : Nat), pd_wk E w S m1 c d n1 → E d c' → ∃ m, pd_wk E w S m c d' (n1 + n2)
  | 0, c, d, n1, h, he => by
    obtain ⟨a, rfl, rfl⟩ := h
    exact ⟨m2 + 1, a, c', n2, he, h2, rfl⟩
  | m1 + 1, c, d, n1, h, he => by
    obtain ⟨a, e, n', a1, a2, rfl⟩ := h
    obtain ⟨m, hm⟩ := pd_wk_app h2 m1 e d n' a2 he
    exact ⟨m + 1, a, e, n' + n2, a1, hm, by omega⟩
theorem pd_wk_avoid {E : Nat → Nat → Prop} {w : Nat → Nat} {S : Nat → Prop} (x : Nat) : ∀ (m a d n : Nat), pd_wk E w S m a d n →
    pd_wk E w (fun c => S c ∧ c ≠ x) m a d n ∨ (S x ∧ ((d = x ∧ w x ≤ n) ∨ ∃ c' m' n', E x c' ∧ pd_wk E w (fun c => S c ∧ c ≠ x) m' c' d n' ∧ w x + n' ≤ n))
  | 0, a, d, n, h => by
    obtain ⟨h1, rfl, rfl⟩ := h
    by_cases e : a = x
    · subst e
      exact Or.inr ⟨h1, Or.inl ⟨rfl, Nat.le_refl _⟩⟩
    · exact Or.inl ⟨⟨h1, e⟩, rfl, rfl⟩
  | m + 1, a, d, n, h => by
    obtain ⟨h1, c', n', h2, h3, rfl⟩ := h
    rcases pd_wk_avoid x m c' d n' h3 with h4 | ⟨h4, h5⟩
    · by_cases e : a = x
      · subst e
        exact Or.inr ⟨h1, Or.inr ⟨c', m, n', h2, h4, Nat.le_refl _⟩⟩
      · exact Or.inl ⟨⟨h1, e⟩, c', n', h2, h4, rfl⟩
    · refine Or.inr ⟨h4, ?_⟩
      rcases h5 with ⟨e, h6⟩ | ⟨c2, m2, n2, e, h6, h7⟩
      · exact Or.inl ⟨e, by omega⟩
      · exact Or.inr ⟨c2, m2, n2, e, h6, by omega⟩
theorem pd_wk_short {E : Nat → Nat → Prop} {w : Nat → Nat} (hw : ∀ c, w c ≤ 1) : ∀ (k : Nat) (l : List Nat), l.length = k → ∀ (m a d n : Nat), pd_wk E w (fun c => c ∈ l) m a d n →
    ∃ m' n', pd_wk E w (fun c => c ∈ l) m' a d n' ∧ n' ≤ n ∧ n' ≤ k
  | 0, l, hl, m, a, d, n, h => by
    have h1 : a ∈ l := pd_wk_start (S := fun c => c ∈ l) h
    have h2 : l = [] := List.length_eq_zero_iff.mp hl
    rw [h2] at h1
    cases h1
  | k + 1, l, hl, m, a, d, n, h => by
    have hk := hw a
    rcases pd_wk_avoid a m a d n h with h1 | ⟨h1, h2⟩
    · exact absurd rfl (pd_wk_start h1).2
    · rcases h2 with ⟨rfl, h3⟩ | ⟨c', m', n', h3, h4, h5⟩
      · exact ⟨0, w d, ⟨h1, rfl, rfl⟩, h3, by omega⟩
      · have h6 : pd_wk E w (fun c => c ∈ l.erase a) m' c' d n' := pd_wk_map (fun c => c) (fun c hc => (List.mem_erase_of_ne hc.2).mpr hc.1) (fun _ _ _ _ h => h) (fun _ _ => rfl) _ _ _ _ h4
        have hlen : (l.erase a).length = k := by rw [List.length_erase_of_mem h1, hl]; rfl
        obtain ⟨m2, n2, h7, h8, h9⟩ := pd_wk_short hw k (l.erase a) hlen m' c' d n' h6
        have h10 : pd_wk E w (fun c => c ∈ l) m2 c' d n2 := pd_wk_map (fun c => c) (fun c hc => List.mem_of_mem_erase hc) (fun _ _ _ _ h => h) (fun _ _ => rfl) _ _ _ _ h7
        exact ⟨m2 + 1, w a + n2, ⟨h1, c', n2, h3, h10, rfl⟩, by omega, by omega⟩
/-! a set of lengths that a small graph gives -/
def pd_au (A : pd_L) (N : Nat) : Prop := ∃ (nu : Prop) (I E F : Nat → Nat → Prop) (w : Nat → Nat), (∀ c, w c ≤ 1) ∧
  ∀ i j n, A i j n ↔ (nu ∧ i = j ∧ i < 32 ∧ n = 0) ∨ ∃ c d m, I i c ∧ pd_wk E w (fun c => c < N) m c d n ∧ F d j
theorem pd_au_bd {A : pd_L} {N : Nat} (h : pd_au A N) {i j n : Nat} (hA : A i j n) : ∃ n', A i j n' ∧ n' ≤ n ∧ n' ≤ N := by
  obtain ⟨nu, I, E, F, w, hw, hh⟩ := h
  rcases (hh i j n).mp hA with h1 | ⟨c, d, m, h1, h2, h3⟩
  · exact ⟨0, (hh i j 0).mpr (Or.inl ⟨h1.1, h1.2.1, h1.2.2.1, rfl⟩), Nat.zero_le _, Nat.zero_le _⟩
  · have h4 : pd_wk E w (fun c => c ∈ List.range N) m c d n := pd_wk_map (fun c => c) (fun c hc => List.mem_range.mpr hc) (fun _ _ _ _ h => h) (fun _ _ => rfl) _ _ _ _ h2
    obtain ⟨m', n', h5, h6, h7⟩ := pd_wk_short hw N (List.range N) List.length_range m c d n h4
    have h8 : pd_wk E w (fun c => c < N) m' c d n' := pd_wk_map (fun c => c) (fun c hc => List.mem_range.mp hc) (fun _ _ _ _ h => h) (fun _ _ => rfl) _ _ _ _ h5
    exact ⟨n', (hh i j n').mpr (Or.inr ⟨c, d, m', h1, h8, h3⟩), h6, h7⟩
theorem pd_au_no : pd_au pd_no 0 := by
  refine ⟨False, fun _ _ => False, fun _ _ => False, fun _ _ => False, fun _ => 0, fun _ => Nat.zero_le _, fun i j n => ?_⟩
  constructor
  · intro h; cases h
  · rintro (⟨h, -⟩ | ⟨_, _, _, h, -⟩) <;> cases h
theorem pd_au_id : pd_au pd_id 0 := by
  refine ⟨True, fun _ _ => False, fun _ _ => False, fun _ _ => False, fun _ => 0, fun _ => Nat.zero_le _, fun i j n => ?_⟩
  constructor
  · intro h; exact Or.inl ⟨trivial, h⟩
  · rintro (⟨-, h⟩ | ⟨_, _, _, h, -⟩)
    · exact h
    · cases h
theorem pd_au_eg (E : Nat → Nat → Prop) : pd_au (pd_eg E) 32 := by
  refine ⟨False, fun i c => i < 32 ∧ E i c, fun _ _ => False, fun c j => c = j, fun _ => 1, fun _ => Nat.le_refl _, fun i j n => ?_⟩
  constructor
  · rintro ⟨h1, h2, h3, rfl⟩
    exact Or.inr ⟨j, j, 0, ⟨h1, h3⟩, ⟨h2, rfl, rfl⟩, rfl⟩
  · rintro (⟨h, -⟩ | ⟨c, d, m, h1, h2, rfl⟩)
    · cases h
    · cases m with
      | zero =>
        obtain ⟨a, rfl, rfl⟩ := h2
        exact ⟨h1.1, a, h1.2, rfl⟩
      | succ m =>
        obtain ⟨-, c', n', h, -⟩ := h2
        cases h
theorem pd_au_ts (T : Nat → Prop) : pd_au (pd_ts T) 32 := by
  refine ⟨False, fun i c => i = c ∧ T i, fun _ _ => False, fun c j => c = j, fun _ => 0, fun _ => Nat.zero_le _, fun i j n => ?_⟩
  constructor
  · rintro ⟨rfl, h2, h3, rfl⟩
    exact Or.inr ⟨i, i, 0, ⟨rfl, h3⟩, ⟨h2, rfl, rfl⟩, rfl⟩
  · rintro (⟨h, -⟩ | ⟨c, d, m, h1, h2, rfl⟩)
    · cases h
    · cases m with
      | zero =>
        obtain ⟨a, rfl, rfl⟩ := h2
        obtain ⟨rfl, h1⟩ := h1
        exact ⟨rfl, a, h1, rfl⟩
      | succ m =>
        obtain ⟨-, c', n', h, -⟩ := h2
        cases h
/-! one beside the other, one behind the other: the second's places are counted from N1 on -/
def pd_E2 (N1 : Nat) (E1 E2 X : Nat → Nat → Prop) (c c' : Nat) : Prop := (c < N1 ∧ c' < N1 ∧ E1 c c') ∨ (N1 ≤ c ∧ N1 ≤ c' ∧ E2 (c - N1) (c' - N1)) ∨ (c < N1 ∧ N1 ≤ c' ∧ X c (c' - N1))
def pd_w2 (N1 : Nat) (w1 w2 : Nat → Nat) (c : Nat) : Nat := if c < N1 then w1 c else w2 (c - N1)
theorem pd_lo {N1 N2 : Nat} {E1 E2 X : Nat → Nat → Prop} {w1 w2 : Nat → Nat} {m c d n : Nat} (h : pd_wk E1 w1 (fun c => c < N1) m c d n) : pd_wk (pd_E2 N1 E1 E2 X) (pd_w2 N1 w1 w2) (fun c => c < N1 + N2) m c d n :=
  pd_wk_map (fun c => c) (fun c hc => by omega) (fun c c' h1 h2 h3 => Or.inl ⟨h1, h2, h3⟩) (fun c hc => by simp [pd_w2, hc]) _ _ _ _ h
theorem pd_hi {N1 N2 : Nat} {E1 E2 X : Nat → Nat → Prop} {w1 w2 : Nat → Nat} {m c d n : Nat} (h : pd_wk E2 w2 (fun c => c < N2) m c d n) : pd_wk (pd_E2 N1 E1 E2 X) (pd_w2 N1 w1 w2) (fun c => c < N1 + N2) m (N1 + c) (N1 + d) n :=
  pd_wk_map (fun c => N1 + c) (fun c hc => by omega) (fun c c' h1 h2 h3 => Or.inr (Or.inl ⟨by omega, by omega, by rw [Nat.add_sub_cancel_left, Nat.add_sub_cancel_left]; exact h3⟩)) (fun c hc => by unfold pd_w2; rw [if_neg (by omega), Nat.add_sub_cancel_left]) _ _ _ _ h
theorem pd_hi' {N1 N2 : Nat} {E1 E2 X : Nat → Nat → Prop} {w1 w2 : Nat → Nat} : ∀ (m c d n : Nat), pd_wk (pd_E2 N1 E1 E2 X) (pd_w2 N1 w1 w2) (fun c => c < N1 + N2) m c d n → N1 ≤ c → N1 ≤ d ∧ pd_wk E2 w2 (fun c => c < N2) m (c - N1) (d - N1) n
  | 0, c, d, n, h, hc => by
    obtain ⟨h1, rfl, rfl⟩ := h
    exact ⟨hc, by omega, rfl, by simp [pd_w2, Nat.not_lt.mpr hc]⟩
  | m + 1, c, d, n, h, hc => by
    obtain ⟨h1, c', n', h2, h3, rfl⟩ := h
    rcases h2 with ⟨h4, -⟩ | ⟨-, h4, h5⟩ | ⟨h4, -⟩
    · omega
    · obtain ⟨h6, h7⟩ := pd_hi' m c' d n' h3 h4
      exact ⟨h6, by omega, c' - N1, n', h5, h7, by simp [pd_w2, Nat.not_lt.mpr hc]⟩
    · omega
theorem pd_lo' {N1 N2 : Nat} {E1 E2 X : Nat → Nat → Prop} {w1 w2 : Nat → Nat} : ∀ (m c d n : Nat), pd_wk (pd_E2 N1 E1 E2 X) (pd_w2 N1 w1 w2) (fun c => c < N1 + N2) m c d n → c < N1 →
    (d < N1 ∧ pd_wk E1 w1 (fun c => c < N1) m c d n) ∨ (N1 ≤ d ∧ ∃ m1 m2 e c2 n1 n2, pd_wk E1 w1 (fun c => c < N1) m1 c e n1 ∧ X e c2 ∧ pd_wk E2 w2 (fun c => c < N2) m2 c2 (d - N1) n2 ∧ n = n1 + n2)
  | 0, c, d, n, h, hc => by
    obtain ⟨h1, rfl, rfl⟩ := h
    exact Or.inl ⟨hc, hc, rfl, by simp [pd_w2, hc]⟩
  | m + 1, c, d, n, h, hc => by
    obtain ⟨h1, c', n', h2, h3, rfl⟩ := h
    have hw : pd_w2 N1 w1 w2 c = w1 c := by simp [pd_w2, hc]
    rcases h2 with ⟨-, h4, h5⟩ | ⟨h4, -⟩ | ⟨-, h4, h5⟩
    · rcases pd_lo' m c' d n' h3 h4 with ⟨h6, h7⟩ | ⟨h6, m1, m2, e, c2, n1, n2, h7, h8, h9, rfl⟩
      · exact Or.inl ⟨h6, hc, c', n', h5, h7, by rw [hw]⟩
      · exact Or.inr ⟨h6, m1 + 1, m2, e, c2, w1 c + n1, n2, ⟨hc, c', n1, h5, h7, rfl⟩, h8, h9, by rw [hw]; omega⟩
    · omega
    · obtain ⟨h6, h7⟩ := pd_hi' m c' d n' h3 h4
      exact Or.inr ⟨h6, 0, m, c, c' - N1, w1 c, n', ⟨hc, rfl, rfl⟩, h5, h7, by rw [hw]⟩
theorem pd_au_or {A B : pd_L} {N1 N2 : Nat} (hA : pd_au A N1) (hB : pd_au B N2) : pd_au (pd_or A B) (N1 + N2) := by
  obtain ⟨nu1, I1, E1, F1, w1, hw1, h1⟩ := hA
  obtain ⟨nu2, I2, E2, F2, w2, hw2, h2⟩ := hB
  refine ⟨nu1 ∨ nu2, fun i c => (c < N1 ∧ I1 i c) ∨ (N1 ≤ c ∧ I2 i (c - N1)), pd_E2 N1 E1 E2 (fun _ _ => False), fun c j => (c < N1 ∧ F1 c j) ∨ (N1 ≤ c ∧ F2 (c - N1) j), pd_w2 N1 w1 w2, fun c => ?_, fun i j n => ?_⟩
  · unfold pd_w2; split
    · exact hw1 _
    · exact hw2 _
  constructor
  · rintro (h | h)
    · rcases (h1 i j n).mp h with ⟨a, b⟩ | ⟨c, d, m, a, b, e⟩
      · exact Or.inl ⟨Or.inl a, b⟩
      · have hd : d < N1 := by
          rcases pd_lo' m c d n (pd_lo (N2 := N2) (E2 := E2) (X := fun _ _ => False) (w2 := w2) b) (pd_wk_lt b) with h | ⟨_, _, _, _, _, _, _, _, h, _⟩
          · exact h.1
          · cases h
        exact Or.inr ⟨c, d, m, Or.inl ⟨pd_wk_lt b, a⟩, pd_lo b, Or.inl ⟨hd, e⟩⟩
    · rcases (h2 i j n).mp h with ⟨a, b⟩ | ⟨c, d, m, a, b, e⟩
      · exact Or.inl ⟨Or.inr a, b⟩
      · exact Or.inr ⟨N1 + c, N1 + d, m, Or.inr ⟨by omega, by rw [Nat.add_sub_cancel_left]; exact a⟩, pd_hi b, Or.inr ⟨by omega, by rw [Nat.add_sub_cancel_left]; exact e⟩⟩
  · rintro (⟨a | a, b⟩ | ⟨c, d, m, a, b, e⟩)
    · exact Or.inl ((h1 i j n).mpr (Or.inl ⟨a, b⟩))
    · exact Or.inr ((h2 i j n).mpr (Or.inl ⟨a, b⟩))
    · rcases a with ⟨a1, a2⟩ | ⟨a1, a2⟩
      · rcases pd_lo' m c d n b a1 with ⟨h3, h4⟩ | ⟨_, _, _, _, _, _, _, _, h, _⟩
        · rcases e with ⟨e1, e2⟩ | ⟨e1, e2⟩
          · exact Or.inl ((h1 i j n).mpr (Or.inr ⟨c, d, m, a2, h4, e2⟩))
          · omega
        · cases h
      · obtain ⟨h3, h4⟩ := pd_hi' m c d n b a1
        rcases e with ⟨e1, e2⟩ | ⟨e1, e2⟩
        · omega
        · exact Or.inr ((h2 i j n).mpr (Or.inr ⟨c - N1, d - N1, m, a2, h4, e2⟩))
theorem pd_au_seq {A B : pd_L} {N1 N2 : Nat} (hA : pd_au A N1) (hB : pd_au B N2) (nA : pd_nd A) (nB : pd_nd B) : pd_au (pd_seq A B) (N1 + N2) := by
  obtain ⟨nu1, I1, E1, F1, w1, hw1, h1⟩ := hA
  obtain ⟨nu2, I2, E2, F2, w2, hw2, h2⟩ := hB
  refine ⟨nu1 ∧ nu2, fun i c => (c < N1 ∧ I1 i c) ∨ (N1 ≤ c ∧ nu1 ∧ i < 32 ∧ I2 i (c - N1)), pd_E2 N1 E1 E2 (fun c c2 => ∃ v, F1 c v ∧ I2 v c2), fun c j => (c < N1 ∧ nu2 ∧ j < 32 ∧ F1 c j) ∨ (N1 ≤ c ∧ F2 (c - N1) j), pd_w2 N1 w1 w2, fun c => ?_, fun i j n => ?_⟩
  · unfold pd_w2; split
    · exact hw1 _
    · exact hw2 _
  constructor
  · rintro ⟨v, a, b, hA, hB, rfl⟩
    have n1 := nA _ _ _ hA
    have n2 := nB _ _ _ hB
    rcases (h1 i v a).mp hA with ⟨p1, rfl, p3, rfl⟩ | ⟨c, d, m, p1, p2, p3⟩
    · rcases (h2 i j b).mp hB with ⟨q1, rfl, q3, rfl⟩ | ⟨c2, d2, m2, q1, q2, q3⟩
      · exact Or.inl ⟨⟨p1, q1⟩, rfl, p3, rfl⟩
      · rw [Nat.zero_add]
        exact Or.inr ⟨N1 + c2, N1 + d2, m2, Or.inr ⟨by omega, p1, p3, by rw [Nat.add_sub_cancel_left]; exact q1⟩, pd_hi q2, Or.inr ⟨by omega, by rw [Nat.add_sub_cancel_left]; exact q3⟩⟩
    · have hs := pd_wk_lt p2
      rcases (h2 v j b).mp hB with ⟨q1, rfl, q3, rfl⟩ | ⟨c2, d2, m2, q1, q2, q3⟩
      · have hd : d < N1 := by
          rcases pd_lo' m c d a (pd_lo (N2 := 0) (E2 := E2) (X := fun _ _ => False) (w2 := w2) p2) hs with h | ⟨_, _, _, _, _, _, _, _, h, _⟩
          · exact h.1
          · cases h
        exact Or.inr ⟨c, d, m, Or.inl ⟨hs, p1⟩, pd_lo p2, Or.inl ⟨hd, q1, n1.2, p3⟩⟩
      · have hd : d < N1 := by
          rcases pd_lo' m c d a (pd_lo (N2 := 0) (E2 := E2) (X := fun _ _ => False) (w2 := w2) p2) hs with h | ⟨_, _, _, _, _, _, _, _, h, _⟩
          · exact h.1
          · cases h
        obtain ⟨m3, hm⟩ := pd_wk_app (pd_hi (N1 := N1) (E1 := E1) (X := fun c c2 => ∃ v, F1 c v ∧ I2 v c2) (w1 := w1) q2) m c d a (pd_lo p2) (Or.inr (Or.inr ⟨hd, by omega, v, p3, by rw [Nat.add_sub_cancel_left]; exact q1⟩))
        exact Or.inr ⟨c, N1 + d2, m3, Or.inl ⟨hs, p1⟩, hm, Or.inr ⟨by omega, by rw [Nat.add_sub_cancel_left]; exact q3⟩⟩
  · rintro (⟨⟨a1, a2⟩, rfl, b, rfl⟩ | ⟨c, d, m, a, b, e⟩)
    · exact ⟨i, 0, 0, (h1 i i 0).mpr (Or.inl ⟨a1, rfl, b, rfl⟩), (h2 i i 0).mpr (Or.inl ⟨a2, rfl, b, rfl⟩), rfl⟩
    · rcases a with ⟨a1, a2⟩ | ⟨a1, a2, a3, a4⟩
      · rcases pd_lo' m c d n b a1 with ⟨h3, h4⟩ | ⟨h3, m1, m2, e1, c2, n1, n2, h4, ⟨v, h5, h6⟩, h7, rfl⟩
        · rcases e with ⟨e1, e2, e3, e4⟩ | ⟨e1, e2⟩
          · exact ⟨j, n, 0, (h1 i j n).mpr (Or.inr ⟨c, d, m, a2, h4, e4⟩), (h2 j j 0).mpr (Or.inl ⟨e2, rfl, e3, rfl⟩), rfl⟩
          · omega
        · rcases e with ⟨e1, e2, e3, e4⟩ | ⟨e1, e2⟩
          · omega
          · exact ⟨v, n1, n2, (h1 i v n1).mpr (Or.inr ⟨c, _, m1, a2, h4, h5⟩), (h2 v j n2).mpr (Or.inr ⟨c2, _, m2, h6, h7, e2⟩), rfl⟩
      · obtain ⟨h3, h4⟩ := pd_hi' m c d n b a1
        rcases e with ⟨e1, e2, e3, e4⟩ | ⟨e1, e2⟩
        · omega
        · exact ⟨i, 0, n, (h1 i i 0).mpr (Or.inl ⟨a2, rfl, a3, rfl⟩), (h2 i j n).mpr (Or.inr ⟨_, _, m, a4, h4, e2⟩), by omega⟩
theorem pd_cross {E F I : Nat → Nat → Prop} {V : Nat → Prop} {w : Nat → Nat} {S : Nat → Prop} : ∀ (m c d n : Nat), pd_wk (fun c c' => E c c' ∨ ∃ v, V v ∧ F c v ∧ I v c') w S m c d n →
    pd_wk E w S m c d n ∨ ∃ e v c2 m1 m2 n1 n2, pd_wk E w S m1 c e n1 ∧ V v ∧ F e v ∧ I v c2 ∧ pd_wk (fun c c' => E c c' ∨ ∃ v, V v ∧ F c v ∧ I v c') w S m2 c2 d n2 ∧ m2 < m ∧ n = n1 + n2
  | 0, c, d, n, h => Or.inl h
  | m + 1, c, d, n, h => by
    obtain ⟨h1, c', n', h2, h3, rfl⟩ := h
    rcases h2 with h2 | ⟨v, v1, v2, v3⟩
    · rcases pd_cross m c' d n' h3 with h4 | ⟨e, v, c2, m1, m2, n1, n2, a1, a2, a3, a4, a5, a6, rfl⟩
      · exact Or.inl ⟨h1, c', n', h2, h4, rfl⟩
      · exact Or.inr ⟨e, v, c2, m1 + 1, m2, w c + n1, n2, ⟨h1, c', n1, h2, a1, rfl⟩, a2, a3, a4, a5, by omega, by omega⟩
    · exact Or.inr ⟨c, v, c', 0, m, w c, n', ⟨h1, rfl, rfl⟩, v1, v2, v3, h3, by omega, rfl⟩
theorem pd_au_pl {A : pd_L} {N : Nat} (V : Nat → Prop) (hA : pd_au A N) : pd_au (pd_pl V A) N := by
  obtain ⟨nu, I, E, F, w, hw, h1⟩ := hA
  refine ⟨nu, I, fun c c' => E c c' ∨ ∃ v, V v ∧ F c v ∧ I v c', F, w, hw, fun i j n => ?_⟩
  have up : ∀ {m c d n : Nat}, pd_wk E w (fun c => c < N) m c d n → pd_wk (fun c c' => E c c' ∨ ∃ v, V v ∧ F c v ∧ I v c') w (fun c => c < N) m c d n := fun h => pd_wk_map (fun c => c) (fun _ h => h) (fun _ _ _ _ h => Or.inl h) (fun _ _ => rfl) _ _ _ _ h
  constructor
  · rintro ⟨m, hm⟩
    induction m generalizing i n with
    | zero =>
      rcases (h1 i j n).mp hm with a | ⟨c, d, m, a, b, e⟩
      · exact Or.inl a
      · exact Or.inr ⟨c, d, m, a, up b, e⟩
    | succ m ih =>
      obtain ⟨v, a, b, hV, hA, hB, rfl⟩ := hm
      have hB' := ih v b hB
      rcases (h1 i v a).mp hA with ⟨p1, rfl, p3, rfl⟩ | ⟨c, d, k, p1, p2, p3⟩
      · rw [Nat.zero_add]; exact hB'
      · rcases hB' with ⟨q1, rfl, q3, rfl⟩ | ⟨c2, d2, k2, q1, q2, q3⟩
        · exact Or.inr ⟨c, d, k, p1, up p2, p3⟩
        · obtain ⟨k3, hk⟩ := pd_wk_app q2 k c d a (up p2) (Or.inr ⟨v, hV, p3, q1⟩)
          exact Or.inr ⟨c, d2, k3, p1, hk, q3⟩
  · rintro (a | ⟨c, d, m, a, b, e⟩)
    · exact ⟨0, (h1 i j n).mpr (Or.inl a)⟩
    · induction m using Nat.strongRecOn generalizing i c n with
      | ind m ih =>
        rcases pd_cross m c d n b with h2 | ⟨e1, v, c2, m1, m2, n1, n2, a1, a2, a3, a4, a5, a6, rfl⟩
        · exact ⟨0, (h1 i j n).mpr (Or.inr ⟨c, d, m, a, h2, e⟩)⟩
        · obtain ⟨k, hk⟩ := ih m2 a6 v n2 c2 a4 a5
          exact ⟨k + 1, v, n1, n2, a2, (h1 i v n1).mpr (Or.inr ⟨c, e1, m1, a, a1, a3⟩), hk, rfl⟩
end
section
/-! Least lengths: M i j is the least n with A i j n, 1000000 where there is none. -/
def pd_mn (A : pd_L) (M : Nat → Nat → Nat) : Prop := ∀ i j, i < 32 → j < 32 → M i j ≤ 1000000 ∧ (M i j < 1000000 → A i j (M i j)) ∧ ∀ n, A i j n → M i j ≤ n
theorem pd_mn_uniq {A : pd_L} {M M' : Nat → Nat → Nat} (h : pd_mn A M) (h' : pd_mn A M') {i j : Nat} (hi : i < 32) (hj : j < 32) : M i j = M' i j := by
  obtain ⟨a1, a2, a3⟩ := h i j hi hj
  obtain ⟨b1, b2, b3⟩ := h' i j hi hj
  by_cases c : M i j < 1000000
  · have d := b3 _ (a2 c)
    have e := a3 _ (b2 (by omega))
    omega
  · by_cases c' : M' i j < 1000000
    · have e := a3 _ (b2 c')
      omega
    · omega
theorem pd_mn_bd {A : pd_L} {M : Nat → Nat → Nat} {N : Nat} (h : pd_mn A M) (hA : pd_au A N) {i j : Nat} (hi : i < 32) (hj : j < 32) (hf : M i j < 1000000) : M i j ≤ N := by
  obtain ⟨a1, a2, a3⟩ := h i j hi hj
  obtain ⟨n', b1, b2, b3⟩ := pd_au_bd hA (a2 hf)
  have := a3 _ b1
  omega
theorem pd_mn_congr {A : pd_L} {M M' : Nat → Nat → Nat} (h : pd_mn A M) (he : ∀ i j, i < 32 → j < 32 → M' i j = M i j) : pd_mn A M' := by
  intro i j hi hj
  rw [he i j hi hj]
  exact h i j hi hj
theorem pd_mn_or {A B : pd_L} {M1 M2 M : Nat → Nat → Nat} (h1 : pd_mn A M1) (h2 : pd_mn B M2) (h : ∀ i j, i < 32 → j < 32 → M i j = min (M1 i j) (M2 i j)) : pd_mn (pd_or A B) M := by
  intro i j hi hj
  obtain ⟨a1, a2, a3⟩ := h1 i j hi hj
  obtain ⟨b1, b2, b3⟩ := h2 i j hi hj
  rw [h i j hi hj]
  refine ⟨by omega, fun hf => ?_, fun n hn => ?_⟩
  · by_cases c : M1 i j ≤ M2 i j
    · rw [Nat.min_eq_left c] at hf ⊢
      exact Or.inl (a2 hf)
    · rw [Nat.min_eq_right (by omega)] at hf ⊢
      exact Or.inr (b2 hf)
  · rcases hn with hn | hn
    · have := a3 n hn; omega
    · have := b3 n hn; omega
theorem pd_mn_no {M : Nat → Nat → Nat} (h : ∀ i j, i < 32 → j < 32 → M i j = 1000000) : pd_mn pd_no M := by
  intro i j hi hj
  rw [h i j hi hj]
  exact ⟨by omega, fun hf => by omega, fun n hn => by cases hn⟩
theorem pd_mn_ts {T : Nat → Prop} {M : Nat → Nat → Nat} (h : ∀ i j, i < 32 → j < 32 → (i = j ∧ T i → M i j = 0) ∧ (¬ (i = j ∧ T i) → M i j = 1000000)) : pd_mn (pd_ts T) M := by
  intro i j hi hj
  obtain ⟨h1, h2⟩ := h i j hi hj
  by_cases c : i = j ∧ T i
  · rw [h1 c]
    exact ⟨by omega, fun _ => ⟨c.1, hi, c.2, rfl⟩, fun n _ => Nat.zero_le _⟩
  · rw [h2 c]
    exact ⟨by omega, fun hf => by omega, fun n hn => absurd ⟨hn.1, hn.2.2.1⟩ c⟩
theorem pd_id_ts : pd_id = pd_ts (fun _ => True) := pd_ext fun i j n => ⟨fun h => ⟨h.1, h.2.1, trivial, h.2.2⟩, fun h => ⟨h.1, h.2.1, h.2.2.2⟩⟩
theorem pd_mn_id {M : Nat → Nat → Nat} (h : ∀ i j, i < 32 → j < 32 → (i = j → M i j = 0) ∧ (i ≠ j → M i j = 1000000)) : pd_mn pd_id M := by
  rw [pd_id_ts]
  exact pd_mn_ts fun i j hi hj => ⟨fun c => (h i j hi hj).1 c.1, fun c => (h i j hi hj).2 fun e => c ⟨e, trivial⟩⟩
theorem pd_mn_eg {E : Nat → Nat → Prop} {M : Nat → Nat → Nat} (h : ∀ i j, i < 32 → j < 32 → (E i j → M i j = 1) ∧ (¬ E i j → M i j = 1000000)) : pd_mn (pd_eg E) M := by
  intro i j hi hj
  obtain ⟨h1, h2⟩ := h i j hi hj
  by_cases c : E i j
  · rw [h1 c]
    exact ⟨by omega, fun _ => ⟨hi, hj, c, rfl⟩, fun n hn => by rw [hn.2.2.2]; exact Nat.le_refl _⟩
  · rw [h2 c]
    exact ⟨by omega, fun hf => by omega, fun n hn => absurd hn.2.2.1 c⟩
/-! one behind the other -/
def pd_sq (M1 M2 M : Nat → Nat → Nat) : Prop := ∀ i j, i < 32 → j < 32 → M i j ≤ 1000000 ∧ (M i j < 1000000 → ∃ v, v < 32 ∧ M1 i v < 1000000 ∧ M2 v j < 1000000 ∧ M i j = M1 i v + M2 v j) ∧
  ∀ v, v < 32 → M1 i v < 1000000 → M2 v j < 1000000 → M i j ≤ M1 i v + M2 v j
theorem pd_mn_sq {A B : pd_L} {M1 M2 M : Nat → Nat → Nat} (h1 : pd_mn A M1) (h2 : pd_mn B M2) (nA : pd_nd A) (h : pd_sq M1 M2 M) : pd_mn (pd_seq A B) M := by
  intro i j hi hj
  obtain ⟨a1, a2, a3⟩ := h i j hi hj
  refine ⟨a1, fun hf => ?_, fun n hn => ?_⟩
  · obtain ⟨v, hv, b1, b2, b3⟩ := a2 hf
    exact ⟨v, _, _, (h1 i v hi hv).2.1 b1, (h2 v j hv hj).2.1 b2, b3⟩
  · obtain ⟨v, a, b, hA, hB, rfl⟩ := hn
    have hv := (nA _ _ _ hA).2
    obtain ⟨p1, p2, p3⟩ := h1 i v hi hv
    obtain ⟨q1, q2, q3⟩ := h2 v j hv hj
    have p4 := p3 a hA
    have q4 := q3 b hB
    by_cases c1 : M1 i v < 1000000
    · by_cases c2 : M2 v j < 1000000
      · have := a3 v hv c1 c2; omega
      · omega
    · omega
/-! nodes in between, one after the other -/
theorem pd_pl_one {V : Nat → Prop} {A : pd_L} {i j n : Nat} (h : A i j n) : pd_pl V A i j n := ⟨0, h⟩
theorem pd_pl_step {V : Nat → Prop} {A : pd_L} {i v j a b : Nat} (hv : V v) (h1 : A i v a) (h2 : pd_pl V A v j b) : pd_pl V A i j (a + b) := by
  obtain ⟨m, hm⟩ := h2
  exact ⟨m + 1, v, a, b, hv, h1, hm, rfl⟩
theorem pd_pl_cat {V : Nat → Prop} {A : pd_L} {v j b : Nat} (hv : V v) (h2 : pd_pl V A v j b) : ∀ (m i a : Nat), pd_pw V A m i v a → pd_pl V A i j (a + b)
  | 0, i, a, h => pd_pl_step hv h h2
  | m + 1, i, a, h => by
    obtain ⟨u, a1, a2, hu, h3, h4, rfl⟩ := h
    rw [Nat.add_assoc]
    exact pd_pl_step hu h3 (pd_pl_cat hv h2 m u a2 h4)
theorem pd_pw_mono {V V' : Nat → Prop} {A : pd_L} (hV : ∀ v, V v → V' v) : ∀ (m i j n : Nat), pd_pw V A m i j n → pd_pw V' A m i j n
  | 0, _, _, _, h => h
  | m + 1, i, j, n, h => by
    obtain ⟨v, a, b, h1, h2, h3, h4⟩ := h
    exact ⟨v, a, b, hV v h1, h2, pd_pw_mono hV m v j b h3, h4⟩
theorem pd_pl_mono {V V' : Nat → Prop} {A : pd_L} (hV : ∀ v, V v → V' v) {i j n : Nat} (h : pd_pl V A i j n) : pd_pl V' A i j n := by
  obtain ⟨m, hm⟩ := h
  exact ⟨m, pd_pw_mono hV m i j n hm⟩
theorem pd_nd_pw {V : Nat → Prop} {A : pd_L} (h : pd_nd A) : ∀ (m i j n : Nat), pd_pw V A m i j n → i < 32 ∧ j < 32
  | 0, i, j, n, hm => h i j n hm
  | m + 1, i, j, n, hm => by
    obtain ⟨v, a, b, h1, h2, h3, h4⟩ := hm
    exact ⟨(h _ _ _ h2).1, (pd_nd_pw h m v j b h3).2⟩
theorem pd_nd_pl {V : Nat → Prop} {A : pd_L} (h : pd_nd A) : pd_nd (pd_pl V A) := by
  rintro i j n ⟨m, hm⟩
  exact pd_nd_pw h m i j n hm
theorem pd_nd_seq {A B : pd_L} (hA : pd_nd A) (hB : pd_nd B) : pd_nd (pd_seq A B) := by
  rintro i j n ⟨v, a, b, h1, h2, -⟩
  exact ⟨(hA _ _ _ h1).1, (hB _ _ _ h2).2⟩
theorem pd_nd_or {A B : pd_L} (hA : pd_nd A) (hB : pd_nd B) : pd_nd (pd_or A B) := by
  rintro i j n (h | h)
  · exact hA _ _ _ h
  · exact hB _ _ _ h
theorem pd_nd_id : pd_nd pd_id := by
  rintro i j n ⟨rfl, h, -⟩
  exact ⟨h, h⟩
theorem pd_nd_no : pd_nd pd_no := by
  intro i j n h
  cases h
theorem pd_nd_eg (E : Nat → Nat → Prop) : pd_nd (pd_eg E) := fun i j n h => ⟨h.1, h.2.1⟩
theorem pd_nd_ts (T : Nat → Prop) : pd_nd (pd_ts T) := by
  rintro i j n ⟨rfl, h, -⟩
  exact ⟨h, h⟩
theorem pd_fw0 {A : pd_L} {M : Nat → Nat → Nat} (h : pd_mn A M) : pd_mn (pd_pl (fun v => v < 0) A) M := by
  intro i j hi hj
  obtain ⟨a1, a2, a3⟩ := h i j hi hj
  refine ⟨a1, fun hf => pd_pl_one (a2 hf), fun n hn => ?_⟩
  obtain ⟨m, hm⟩ := hn
  cases m with
  | zero => exact a3 n hm
  | succ m =>
    obtain ⟨v, a, b, hv, -⟩ := hm
    exact absurd hv (Nat.not_lt_zero _)
/-- the next node in between: M' as each turn leaves it -/
theorem pd_fwS {A : pd_L} {M M' : Nat → Nat → Nat} {k : Nat} (hk : k < 32) (nA : pd_nd A) (h : pd_mn (pd_pl (fun v => v < k) A) M)
    (h' : ∀ i j, i < 32 → j < 32 → M' i j = if M i k < 1000000 ∧ M k j < 1000000 then min (M i j) (M i k + M k j) else M i j) : pd_mn (pd_pl (fun v => v < k + 1) A) M' := by
  have key : ∀ (m i j n : Nat), i < 32 → j < 32 → pd_pw (fun v => v < k + 1) A m i j n → M' i j ≤ n := by
    intro m
    induction m with
    | zero =>
      intro i j n hi hj hm
      have h1 := (h i j hi hj).2.2 n (pd_pl_one hm)
      rw [h' i j hi hj]
      split <;> omega
    | succ m ih =>
      intro i j n hi hj hm
      obtain ⟨v, a, b, hv, hA, hB, rfl⟩ := hm
      have hvn := (nA _ _ _ hA).2
      have i1 := ih v j b hvn hj hB
      have e1 := h' i j hi hj
      have e2 := h' v j hvn hj
      obtain ⟨o1, o2, o3⟩ := h i j hi hj
      by_cases big : 1000000 ≤ a + b
      · rw [e1]; split <;> omega
      · obtain ⟨v1, v2, v3⟩ := h v j hvn hj
        obtain ⟨k1, k2, k3⟩ := h k j hk hj
        obtain ⟨w1, w2, w3⟩ := h i k hi hk
        obtain ⟨x1, x2, x3⟩ := h v k hvn hk
        by_cases hvk : v < k
        · by_cases c : M v k < 1000000 ∧ M k j < 1000000
          · rw [if_pos c] at e2
            have t1 := w3 _ (pd_pl_step hvk hA (x2 c.1))
            by_cases c2 : M v j ≤ M v k + M k j
            · have t2 := o3 _ (pd_pl_step hvk hA (v2 (by omega)))
              rw [e1]; split <;> omega
            · rw [e1, if_pos ⟨by omega, c.2⟩]; omega
          · rw [if_neg c] at e2
            have t2 := o3 _ (pd_pl_step hvk hA (v2 (by omega)))
            rw [e1]; split <;> omega
        · have hvk2 : v = k := by omega
          subst hvk2
          have t1 := w3 a (pd_pl_one hA)
          by_cases c : M v v < 1000000 ∧ M v j < 1000000
          · rw [if_pos c] at e2
            rw [e1, if_pos ⟨by omega, c.2⟩]
            omega
          · rw [if_neg c] at e2
            rw [e1, if_pos ⟨by omega, by omega⟩]
            omega
  intro i j hi hj
  obtain ⟨a1, a2, a3⟩ := h i j hi hj
  refine ⟨by rw [h' i j hi hj]; split <;> omega, fun hf => ?_, fun n ⟨m, hm⟩ => key m i j n hi hj hm⟩
  have up : ∀ {x y z : Nat}, pd_pl (fun v => v < k) A x y z → pd_pl (fun v => v < k + 1) A x y z := fun h => pd_pl_mono (fun v hv => by omega) h
  rw [h' i j hi hj] at hf ⊢
  split at hf
  · rename_i c
    rw [if_pos c]
    by_cases c2 : M i j ≤ M i k + M k j
    · rw [Nat.min_eq_left c2] at hf ⊢
      exact up (a2 hf)
    · rw [Nat.min_eq_right (by omega)] at hf ⊢
      obtain ⟨m, hm⟩ := up ((h i k hi hk).2.1 c.1)
      exact pd_pl_cat (by omega) (up ((h k j hk hj).2.1 c.2)) m i _ hm
  · rename_i c
    rw [if_neg c]
    exact up (a2 hf)
/-! equal sets -/
theorem pd_pw32 {A : pd_L} (nA : pd_nd A) : ∀ (m i j n : Nat), pd_pw (fun _ => True) A m i j n → pd_pw (fun v => v < 32) A m i j n
  | 0, _, _, _, h => h
  | m + 1, i, j, n, h => by
    obtain ⟨v, a, b, -, h2, h3, h4⟩ := h
    exact ⟨v, a, b, (nA _ _ _ h2).2, h2, pd_pw32 nA m v j b h3, h4⟩
theorem pd_pl32 {A : pd_L} (nA : pd_nd A) : pd_pl (fun v => v < 32) A = pd_pl (fun _ => True) A :=
  pd_ext fun i j n => ⟨fun h => pd_pl_mono (fun _ _ => trivial) h, fun ⟨m, hm⟩ => ⟨m, pd_pw32 nA m i j n hm⟩⟩
theorem pd_seq_assoc (A B C : pd_L) : pd_seq (pd_seq A B) C = pd_seq A (pd_seq B C) := by
  refine pd_ext fun i j n => ⟨?_, ?_⟩
  · rintro ⟨v, a, b, ⟨u, a1, a2, h1, h2, rfl⟩, h3, rfl⟩
    exact ⟨u, a1, a2 + b, h1, ⟨v, a2, b, h2, h3, rfl⟩, by omega⟩
  · rintro ⟨u, a1, a2, h1, ⟨v, b1, b2, h2, h3, rfl⟩, rfl⟩
    exact ⟨v, a1 + b1, b2, ⟨u, a1, b1, h1, h2, rfl⟩, h3, by omega⟩
theorem pd_seq_id {A : pd_L} (nA : pd_nd A) : pd_seq A pd_id = A := by
  refine pd_ext fun i j n => ⟨?_, fun h => ⟨j, n, 0, h, ⟨rfl, (nA _ _ _ h).2, rfl⟩, rfl⟩⟩
  rintro ⟨v, a, b, h1, ⟨rfl, -, rfl⟩, rfl⟩
  exact h1
theorem pd_id_seq {A : pd_L} (nA : pd_nd A) : pd_seq pd_id A = A := by
  refine pd_ext fun i j n => ⟨?_, fun h => ⟨i, 0, n, ⟨rfl, (nA _ _ _ h).1, rfl⟩, h, by omega⟩⟩
  rintro ⟨v, a, b, ⟨rfl, -, rfl⟩, h1, rfl⟩
  rw [Nat.zero_add]
  exact h1
theorem pd_or_comm (A B : pd_L) : pd_or A B = pd_or B A := pd_ext fun _ _ _ => ⟨fun h => h.symm, fun h => h.symm⟩
theorem pd_or_assoc (A B C : pd_L) : pd_or (pd_or A B) C = pd_or A (pd_or B C) := pd_ext fun _ _ _ => or_assoc
theorem pd_no_or (A : pd_L) : pd_or pd_no A = A := pd_ext fun _ _ _ => ⟨fun h => h.elim (fun h => nomatch h) id, fun h => Or.inr h⟩
theorem pd_or_seq (A B C : pd_L) : pd_seq (pd_or A B) C = pd_or (pd_seq A C) (pd_seq B C) := by
  refine pd_ext fun i j n => ⟨?_, ?_⟩
  · rintro ⟨v, a, b, h1 | h1, h2, rfl⟩
    · exact Or.inl ⟨v, a, b, h1, h2, rfl⟩
    · exact Or.inr ⟨v, a, b, h1, h2, rfl⟩
  · rintro (⟨v, a, b, h1, h2, rfl⟩ | ⟨v, a, b, h1, h2, rfl⟩)
    · exact ⟨v, a, b, Or.inl h1, h2, rfl⟩
    · exact ⟨v, a, b, Or.inr h1, h2, rfl⟩
theorem pd_seq_or (A B C : pd_L) : pd_seq A (pd_or B C) = pd_or (pd_seq A B) (pd_seq A C) := by
  refine pd_ext fun i j n => ⟨?_, ?_⟩
  · rintro ⟨v, a, b, h1, h2 | h2, rfl⟩
    · exact Or.inl ⟨v, a, b, h1, h2, rfl⟩
    · exact Or.inr ⟨v, a, b, h1, h2, rfl⟩
  · rintro (⟨v, a, b, h1, h2, rfl⟩ | ⟨v, a, b, h1, h2, rfl⟩)
    · exact ⟨v, a, b, h1, Or.inl h2, rfl⟩
    · exact ⟨v, a, b, h1, Or.inr h2, rfl⟩
def pd_ps (A : pd_L) : pd_L := pd_pl (fun _ => True) A
/-- the closure of 'stays or A' is 'stays, or the closure of A' -/
theorem pd_ps_id {A : pd_L} (nA : pd_nd A) : pd_ps (pd_or pd_id A) = pd_or pd_id (pd_ps A) := by
  refine pd_ext fun i j n => ⟨?_, ?_⟩
  · rintro ⟨m, hm⟩
    induction m generalizing i n with
    | zero =>
      rcases hm with h | h
      · exact Or.inl h
      · exact Or.inr (pd_pl_one h)
    | succ m ih =>
      obtain ⟨v, a, b, -, h1, h2, rfl⟩ := hm
      have h3 := ih v b h2
      rcases h1 with ⟨rfl, h4, rfl⟩ | h1
      · rw [Nat.zero_add]; exact h3
      · rcases h3 with ⟨rfl, h4, rfl⟩ | h3
        · exact Or.inr (pd_pl_one h1)
        · exact Or.inr (pd_pl_step trivial h1 h3)
  · rintro (h | ⟨m, hm⟩)
    · exact pd_pl_one (Or.inl h)
    · refine ⟨m, ?_⟩
      induction m generalizing i n with
      | zero => exact Or.inr hm
      | succ m ih =>
        obtain ⟨v, a, b, -, h1, h2, rfl⟩ := hm
        exact ⟨v, a, b, trivial, Or.inr h1, ih v b h2, rfl⟩
/-- one A, and then any number of them -/
theorem pd_seq_ps {A : pd_L} (nA : pd_nd A) : pd_seq A (pd_or pd_id (pd_ps A)) = pd_ps A := by
  refine pd_ext fun i j n => ⟨?_, ?_⟩
  · rintro ⟨v, a, b, h1, ⟨rfl, -, rfl⟩ | h2, rfl⟩
    · exact pd_pl_one h1
    · exact pd_pl_step trivial h1 h2
  · rintro ⟨m, hm⟩
    cases m with
    | zero => exact ⟨j, n, 0, hm, Or.inl ⟨rfl, (nA _ _ _ hm).2, rfl⟩, rfl⟩
    | succ m =>
      obtain ⟨v, a, b, -, h1, h2, rfl⟩ := hm
      exact ⟨v, a, b, h1, Or.inr ⟨m, h2⟩, rfl⟩
/-! counted repeats: the class's row of copies, and the reference's -/
def pd_gt (A : pd_L) (m t : Nat) : pd_L := if m ≤ t then pd_or pd_id A else A
def pd_cp (A : pd_L) (m : Nat) : Nat → pd_L
  | 0 => pd_id
  | t + 1 => pd_seq (pd_gt A m t) (pd_cp A m t)
def pd_mo (A : pd_L) (m : Nat) : Nat → pd_L
  | 0 => pd_id
  | t + 1 => pd_seq (pd_mo A m t) (pd_gt A m t)
theorem pd_nd_gt {A : pd_L} (nA : pd_nd A) (m t : Nat) : pd_nd (pd_gt A m t) := by
  unfold pd_gt
  split
  · exact pd_nd_or pd_nd_id nA
  · exact nA
theorem pd_nd_cp {A : pd_L} (nA : pd_nd A) (m : Nat) : ∀ t, pd_nd (pd_cp A m t)
  | 0 => pd_nd_id
  | t + 1 => pd_nd_seq (pd_nd_gt nA m t) (pd_nd_cp nA m t)
theorem pd_nd_mo {A : pd_L} (nA : pd_nd A) (m : Nat) : ∀ t, pd_nd (pd_mo A m t)
  | 0 => pd_nd_id
  | t + 1 => pd_nd_seq (pd_nd_mo nA m t) (pd_nd_gt nA m t)
theorem pd_gt_comm {A : pd_L} (nA : pd_nd A) (m s t : Nat) : pd_seq (pd_gt A m s) (pd_gt A m t) = pd_seq (pd_gt A m t) (pd_gt A m s) := by
  unfold pd_gt
  split <;> split
  · rfl
  · rw [pd_or_seq, pd_seq_or, pd_id_seq nA, pd_seq_id nA]
  · rw [pd_or_seq, pd_seq_or, pd_id_seq nA, pd_seq_id nA]
  · rfl
theorem pd_gt_mo {A : pd_L} (nA : pd_nd A) (m s : Nat) : ∀ t, pd_seq (pd_gt A m s) (pd_mo A m t) = pd_seq (pd_mo A m t) (pd_gt A m s)
  | 0 => by
    show pd_seq (pd_gt A m s) pd_id = pd_seq pd_id (pd_gt A m s)
    rw [pd_seq_id (pd_nd_gt nA m s), pd_id_seq (pd_nd_gt nA m s)]
  | t + 1 => by
    show pd_seq (pd_gt A m s) (pd_seq (pd_mo A m t) (pd_gt A m t)) = pd_seq (pd_seq (pd_mo A m t) (pd_gt A m t)) (pd_gt A m s)
    rw [← pd_seq_assoc, pd_gt_mo nA m s t, pd_seq_assoc, pd_gt_comm nA m s t, ← pd_seq_assoc]
theorem pd_cp_mo {A : pd_L} (nA : pd_nd A) (m : Nat) : ∀ t, pd_cp A m t = pd_mo A m t
  | 0 => rfl
  | t + 1 => by
    show pd_seq (pd_gt A m t) (pd_cp A m t) = pd_seq (pd_mo A m t) (pd_gt A m t)
    rw [pd_cp_mo nA m t, pd_gt_mo nA m t t]
theorem pd_au_gt {A : pd_L} {N : Nat} (hA : pd_au A N) (m t : Nat) : pd_au (pd_gt A m t) N := by
  unfold pd_gt
  split
  · have := pd_au_or pd_au_id hA
    rwa [Nat.zero_add] at this
  · exact hA
theorem pd_au_cp {A : pd_L} {N : Nat} (hA : pd_au A N) (nA : pd_nd A) (m : Nat) : ∀ t, pd_au (pd_cp A m t) (N * t)
  | 0 => pd_au_id
  | t + 1 => by
    have := pd_au_seq (pd_au_gt hA m t) (pd_au_cp hA nA m t) (pd_nd_gt nA m t) (pd_nd_cp nA m t)
    rwa [show N + N * t = N * (t + 1) by rw [Nat.mul_add, Nat.mul_one, Nat.add_comm]] at this
theorem pd_au_st {A : pd_L} {N : Nat} (hA : pd_au A N) : pd_au (pd_or pd_id (pd_ps A)) N := by
  have := pd_au_or pd_au_id (pd_au_pl (fun _ => True) hA)
  rwa [Nat.zero_add] at this
theorem pd_au_mb {A : pd_L} {N : Nat} (hA : pd_au A N) : pd_au (pd_or pd_id A) N := by
  have := pd_au_or pd_au_id hA
  rwa [Nat.zero_add] at this
end
section
/-! The layer: a heap as a function from addresses to cells; XV: the machine's W over such a heap. -/
abbrev xH : Type := Nat → Option va_E
abbrev xK : Type := Launch × va_G × (Nat → ClassId) × Nat
abbrev xG : Type := Program × Env × Room × State × MethodId × Array Value × List Frame × Method × Code × xK × Heap × Nat × (State → Prop)
def xu (h : xH) (a : Nat) (e : va_E) : xH := fun q => if q = a then some e else h q
theorem xu_self {h : xH} {a : Nat} {e : va_E} : xu h a e a = some e := by simp [xu]
theorem xu_ne {h : xH} {a q : Nat} {e : va_E} (hq : q ≠ a) : xu h a e q = h q := by simp [xu, hq]
theorem xu_xu {h : xH} {a : Nat} {e e' : va_E} : xu (xu h a e) a e' = xu h a e' := by
  funext q
  unfold xu
  split <;> rfl
def x_tys (cx : Nat → ClassId) : List (ClassId × FieldType) := [(cx 0, .int), (cx 1, .boolean), (cx 2, .long), (cx 3, .object xr_EX), (cx 4, .object xr_RE)]
def xh_ok (D : va_G) (b n : Nat) (h : xH) (H : Heap) : Prop := ∃ ws : va_W, va_P D x_cl ws H ∧ va_D (fun q => b ≤ q) ws ∧ H.size = n ∧ b ≤ n ∧ ∀ a e, h a = some e ↔ ∃ q : Nat, ws[q]? = some (a, e)
/-- words that are told apart: links across the nest, arrays of objects -/
def x_N (U : State) : Prop := (∀ w ∈ x_nest, va_Nw w U) ∧ va_AO xr_RE U ∧ va_AO xr_EX U
theorem x_N.warm {s U : State} (hW : s.WarmedH U.vm) (h : x_N s) : x_N U := by
  refine ⟨fun w hw => ?_, va_AO.moved hW.alike h.2.1, va_AO.moved hW.alike h.2.2⟩
  rcases x_nest_k w hw with ⟨a, i, b, n, d, g, rfl⟩ | ⟨a, i, y, g, rfl⟩
  · exact va_Nw.warmF hW (h.1 _ hw)
  · exact va_Nw.warmM hW (h.1 _ hw)
theorem x_N.same {s U : State} (hv : s.vm = U.vm) (h : x_N s) : x_N U := by
  have ha : s.vm.Alike U.vm := by rw [hv]; exact Vm.Alike.refl _
  refine ⟨fun w hw => ?_, va_AO.moved ha h.2.1, va_AO.moved ha h.2.2⟩
  rcases x_nest_k w hw with ⟨a, i, b, n, d, g, rfl⟩ | ⟨a, i, y, g, rfl⟩
  · exact va_Nw.same rfl hv (h.1 _ hw)
  · exact va_Nw.same rfl hv (h.1 _ hw)
def x_I (K : xK) (n : Nat) (h : xH) (U : State) : Prop := xh_ok K.2.1 K.2.2.2 n h U.heap ∧ va_K K.2.1 x_cl (x_tys K.2.2.1) U ∧ x_N U
def x_Q (K : xK) (post : Option Value → Nat → xH → Prop) : Array Value → State → Outcome → State → Prop := fun _ st oc t => (∃ v n h, oc = .returned v ∧ post v n h ∧ x_I K n h t) ∧ va_F (fun q => K.2.2.2 ≤ q) st t
def XM (K : xK) (y : MethodName) (ws : List Cond) (rm : Room) (av : List Value) (n : Nat) (h : xH) (post : Option Value → Nat → xH → Prop) (mc ms : Nat) : Prop :=
  Met K.1 y ws rm (va_Pc av (x_I K n h)) (x_Q K post) mc ms (fun q => K.2.2.2 ≤ q)
def XV (G : xG) (k kS pc : Nat) (L : List (Nat × Value)) (st : List Value) (n : Nat) (h : xH) : Prop := match G with
  | (p, e, R, s, m, args, below, meth, c, (l, D, _, b), H0, maxL, Q) => ∀ (H : Heap) (locs : List Loc) (ls : Array Slot), xh_ok D b n h H → va_S (fun q => b ≤ q) H0 H locs → lv_has ls maxL L → W p l e R s m args below meth c H locs k kS Q (F0 m pc ls st)
def XF (G : xG) (K : xK) (cc : ByteArray) (own : String) (rm0 : Room) (mL : Nat) : Prop := match G with
  | (p, _, R, s, m, args, _, _, c, K', H0, maxL, _) => CallFix p m c cc mL s args x_T own ∧ va_K K.2.1 x_cl (x_tys K.2.2.1) s ∧ R = rm0 ∧ K.2.2.2 ≤ H0.size ∧ maxL = mL ∧ K' = K ∧ x_N s
theorem xh_at {D : va_G} {b n : Nat} {h : xH} {H : Heap} (hh : xh_ok D b n h H) {a : Nat} {e : va_E} (ha : h a = some e) : b ≤ a ∧ a < n := by
  obtain ⟨ws, hP, hD, hn, -, hi⟩ := hh
  obtain ⟨q, hq⟩ := (hi a e).mp ha
  exact ⟨hD.2 q _ hq, by rw [← hn]; exact (hP q _ hq).lt⟩
theorem xh_new {D : va_G} {b n : Nat} {h : xH} {H : Heap} (hh : xh_ok D b n h H) : h n = none := by
  cases e : h n with
  | none => rfl
  | some x => exact absurd (xh_at hh e).2 (Nat.lt_irrefl _)
theorem xh_set {D : va_G} {b n : Nat} {h : xH} {ws : va_W} {H1 : Heap} {a q0 : Nat} {e0 e : va_E} (hD : va_D (fun q => b ≤ q) ws) (hi : ∀ a e, h a = some e ↔ ∃ q : Nat, ws[q]? = some (a, e)) (h0 : ws[q0]? = some (a, e0)) (hP1 : va_P D x_cl (ws.set q0 (a, e)) H1) (hD1 : va_D (fun q => b ≤ q) (ws.set q0 (a, e))) (hn : H1.size = n) (hb : b ≤ n) : xh_ok D b n (xu h a e) H1 := by
  refine ⟨_, hP1, hD1, hn, hb, fun x y => ?_⟩
  have hl := (List.getElem?_eq_some_iff.mp h0).1
  by_cases hx : x = a
  · subst hx
    rw [xu_self]
    constructor
    · intro h1
      cases h1
      exact ⟨q0, List.getElem?_set_self hl⟩
    · rintro ⟨q, hq⟩
      have : q = q0 := hD1.1 q q0 _ _ hq (List.getElem?_set_self hl) rfl
      subst this
      rw [List.getElem?_set_self hl] at hq
      cases hq
      rfl
  · rw [xu_ne hx, hi x y]
    constructor
    · rintro ⟨q, hq⟩
      have : q ≠ q0 := by
        rintro rfl
        rw [h0] at hq
        cases hq
        exact hx rfl
      exact ⟨q, by rw [List.getElem?_set_ne (Ne.symm this)]; exact hq⟩
    · rintro ⟨q, hq⟩
      have : q ≠ q0 := by
        rintro rfl
        rw [List.getElem?_set_self hl] at hq
        cases hq
        exact hx rfl
      rw [List.getElem?_set_ne (Ne.symm this)] at hq
      exact ⟨q, hq⟩
theorem xh_push {D : va_G} {b n : Nat} {h : xH} {H H1 : Heap} {e : va_E} (hh : xh_ok D b n h H) (hz : H1.size = n + 1) (ho : ∀ q, q < n → H1[q]? = H[q]?) (he : va_at D x_cl (n, e) H1) : xh_ok D b (n + 1) (xu h n e) H1 := by
  have hnew := xh_new hh
  obtain ⟨ws, hP, hD, hn, hb, hi⟩ := hh
  subst hn
  have hk : va_P D x_cl ws H1 := hP.kept fun k q hq => ho q.1 (hP k q hq).lt
  refine ⟨ws ++ [(H.size, e)], hk.app (fun k q hq => ?_), hD.push hP rfl hb, hz, by omega, fun x y => ?_⟩
  · have hz1 : k < 1 := (List.getElem?_eq_some_iff.mp hq).1
    rw [show k = 0 by omega] at hq
    cases hq
    exact he
  · by_cases hx : x = H.size
    · subst hx
      rw [xu_self]
      constructor
      · intro h1
        cases h1
        exact ⟨ws.length, by simp⟩
      · rintro ⟨q, hq⟩
        by_cases hl : q < ws.length
        · rw [List.getElem?_append_left hl] at hq
          exact absurd (hP q _ hq).lt (Nat.lt_irrefl _)
        · rw [List.getElem?_append_right (by omega)] at hq
          have hz1 : q - ws.length < 1 := (List.getElem?_eq_some_iff.mp hq).1
          rw [show q - ws.length = 0 by omega] at hq
          cases hq
          rfl
    · rw [xu_ne hx, hi x y]
      constructor
      · rintro ⟨q, hq⟩
        exact ⟨q, by rw [List.getElem?_append_left (List.getElem?_eq_some_iff.mp hq).1]; exact hq⟩
      · rintro ⟨q, hq⟩
        by_cases hl : q < ws.length
        · rw [List.getElem?_append_left hl] at hq
          exact ⟨q, hq⟩
        · rw [List.getElem?_append_right (by omega)] at hq
          have hz1 : q - ws.length < 1 := (List.getElem?_eq_some_iff.mp hq).1
          rw [show q - ws.length = 0 by omega] at hq
          cases hq
          exact absurd rfl hx
theorem x_blind {K : xK} {av : List Value} {n : Nat} {h : xH} : FrameBlind (va_Pc av (x_I K n h)) := by
  intro a U g mk q
  obtain ⟨q0, q1, q2, q3⟩ := q
  exact ⟨q0, q1, va_K.moved (u := U) (U := U.calling g mk a) (Vm.Alike.refl U.vm) q2, x_N.same (s := U) (U := U.calling g mk a) rfl q3⟩
/-! a local by its number -/
def xl : List (Nat × Value) → Nat → Option Value
  | [], _ => none
  | q :: r, i => bif Nat.beq q.1 i then some q.2 else xl r i
theorem xl_get {i : Nat} {v : Value} : ∀ {L : List (Nat × Value)}, xl L i = some v → ∃ j : Nat, L[j]? = some (i, v)
  | [], h => by cases h
  | q :: r, h => by
    unfold xl at h
    cases e : Nat.beq q.1 i with
    | true =>
      rw [e] at h
      cases h
      exact ⟨0, by rw [← Nat.eq_of_beq_eq_true e]; rfl⟩
    | false =>
      rw [e] at h
      obtain ⟨j, hj⟩ := xl_get (L := r) h
      exact ⟨j + 1, hj⟩
theorem xl_at {ls : Array Slot} {nL i : Nat} {v : Value} {L : List (Nat × Value)} (hl : lv_has ls nL L) (h : xl L i = some v) : ls[i]? = some (.val v) := by
  obtain ⟨j, hj⟩ := xl_get h
  exact lv_at hl j hj
theorem xv_iconst {G : xG} {K : xK} {cc : ByteArray} {own : String} {rm0 : Room} {mL k kS pc pc' n : Nat} {L : List (Nat × Value)} {st : List Value} {h : xH} {i : Int} {v : Int32} (hF : XF G K cc own rm0 mL) (hd : decode cc pc = .ok (.iconst i, 1)) (hv : Int32.ofInt i = v) (hp : pc + 1 = pc') (kk : XV G k kS pc' L (.int v :: st) n h) : XV G k kS pc L (st) n h := by
  obtain ⟨p, e, R, s, m, args, below, meth, c, ⟨l, D, cx, b⟩, H0, maxL, Q⟩ := G
  obtain ⟨⟨hx, hb, hml, hown, hts⟩, hK, rfl, hbs, rfl, rfl, hN⟩ := hF
  subst hp
  intro H locs ls hh hS hl
  exact lv_iconst hx hb hd hv (kk H locs ls hh hS hl)
theorem xv_bipush {G : xG} {K : xK} {cc : ByteArray} {own : String} {rm0 : Room} {mL k kS pc pc' n : Nat} {L : List (Nat × Value)} {st : List Value} {h : xH} {i : Int} {v : Int32} (hF : XF G K cc own rm0 mL) (hd : decode cc pc = .ok (.bipush i, 2)) (hv : (Int8.ofInt i).toInt32 = v) (hp : pc + 2 = pc') (kk : XV G k kS pc' L (.int v :: st) n h) : XV G k kS pc L (st) n h := by
  obtain ⟨p, e, R, s, m, args, below, meth, c, ⟨l, D, cx, b⟩, H0, maxL, Q⟩ := G
  obtain ⟨⟨hx, hb, hml, hown, hts⟩, hK, rfl, hbs, rfl, rfl, hN⟩ := hF
  subst hp
  intro H locs ls hh hS hl
  exact lv_bipush hx hb hd hv (kk H locs ls hh hS hl)
theorem xv_sipush {G : xG} {K : xK} {cc : ByteArray} {own : String} {rm0 : Room} {mL k kS pc pc' n : Nat} {L : List (Nat × Value)} {st : List Value} {h : xH} {i : Int} {v : Int32} (hF : XF G K cc own rm0 mL) (hd : decode cc pc = .ok (.sipush i, 3)) (hv : (Int16.ofInt i).toInt32 = v) (hp : pc + 3 = pc') (kk : XV G k kS pc' L (.int v :: st) n h) : XV G k kS pc L (st) n h := by
  obtain ⟨p, e, R, s, m, args, below, meth, c, ⟨l, D, cx, b⟩, H0, maxL, Q⟩ := G
  obtain ⟨⟨hx, hb, hml, hown, hts⟩, hK, rfl, hbs, rfl, rfl, hN⟩ := hF
  subst hp
  intro H locs ls hh hS hl
  exact lv_sipush hx hb hd hv (kk H locs ls hh hS hl)
theorem xv_lconst {G : xG} {K : xK} {cc : ByteArray} {own : String} {rm0 : Room} {mL k kS pc pc' n : Nat} {L : List (Nat × Value)} {st : List Value} {h : xH} {i : Fin 2} {v : Int64} (hF : XF G K cc own rm0 mL) (hd : decode cc pc = .ok (.lconst i, 1)) (hv : Int64.ofNat (i : Nat) = v) (hp : pc + 1 = pc') (kk : XV G k kS pc' L (.long v :: st) n h) : XV G k kS pc L (st) n h := by
  obtain ⟨p, e, R, s, m, args, below, meth, c, ⟨l, D, cx, b⟩, H0, maxL, Q⟩ := G
  obtain ⟨⟨hx, hb, hml, hown, hts⟩, hK, rfl, hbs, rfl, rfl, hN⟩ := hF
  subst hp
  intro H locs ls hh hS hl
  exact lv_lconst hx hb hd hv (kk H locs ls hh hS hl)
theorem xv_null {G : xG} {K : xK} {cc : ByteArray} {own : String} {rm0 : Room} {mL k kS pc pc' n : Nat} {L : List (Nat × Value)} {st : List Value} {h : xH}  (hF : XF G K cc own rm0 mL) (hd : decode cc pc = .ok (.aconst_null, 1)) (hp : pc + 1 = pc') (kk : XV G k kS pc' L (.null :: st) n h) : XV G k kS pc L (st) n h := by
  obtain ⟨p, e, R, s, m, args, below, meth, c, ⟨l, D, cx, b⟩, H0, maxL, Q⟩ := G
  obtain ⟨⟨hx, hb, hml, hown, hts⟩, hK, rfl, hbs, rfl, rfl, hN⟩ := hF
  subst hp
  intro H locs ls hh hS hl
  exact lv_null hx hb hd (kk H locs ls hh hS hl)
theorem xv_iload_n {G : xG} {K : xK} {cc : ByteArray} {own : String} {rm0 : Room} {mL k kS pc pc' n : Nat} {L : List (Nat × Value)} {st : List Value} {h : xH} {z : Fin 4} {i : Nat} {x : Int32} (hF : XF G K cc own rm0 mL) (hd : decode cc pc = .ok (.iload_n z, 1)) (hi : (z : Nat) = i) (hL : xl L i = some (.int x)) (hp : pc + 1 = pc') (kk : XV G k kS pc' L (.int x :: st) n h) : XV G k kS pc L (st) n h := by
  obtain ⟨p, e, R, s, m, args, below, meth, c, ⟨l, D, cx, b⟩, H0, maxL, Q⟩ := G
  obtain ⟨⟨hx, hb, hml, hown, hts⟩, hK, rfl, hbs, rfl, rfl, hN⟩ := hF
  subst hp
  intro H locs ls hh hS hl
  exact lv_iload_n hx hb hd hi (xl_at hl hL) (kk H locs ls hh hS hl)
theorem xv_iload {G : xG} {K : xK} {cc : ByteArray} {own : String} {rm0 : Room} {mL k kS pc pc' n : Nat} {L : List (Nat × Value)} {st : List Value} {h : xH} {i : Nat} {x : Int32} (hF : XF G K cc own rm0 mL) (hd : decode cc pc = .ok (.iload i, 2)) (hL : xl L i = some (.int x)) (hp : pc + 2 = pc') (kk : XV G k kS pc' L (.int x :: st) n h) : XV G k kS pc L (st) n h := by
  obtain ⟨p, e, R, s, m, args, below, meth, c, ⟨l, D, cx, b⟩, H0, maxL, Q⟩ := G
  obtain ⟨⟨hx, hb, hml, hown, hts⟩, hK, rfl, hbs, rfl, rfl, hN⟩ := hF
  subst hp
  intro H locs ls hh hS hl
  exact lv_iload hx hb hd (xl_at hl hL) (kk H locs ls hh hS hl)
theorem xv_lload_n {G : xG} {K : xK} {cc : ByteArray} {own : String} {rm0 : Room} {mL k kS pc pc' n : Nat} {L : List (Nat × Value)} {st : List Value} {h : xH} {z : Fin 4} {i : Nat} {x : Int64} (hF : XF G K cc own rm0 mL) (hd : decode cc pc = .ok (.lload_n z, 1)) (hi : (z : Nat) = i) (hL : xl L i = some (.long x)) (hp : pc + 1 = pc') (kk : XV G k kS pc' L (.long x :: st) n h) : XV G k kS pc L (st) n h := by
  obtain ⟨p, e, R, s, m, args, below, meth, c, ⟨l, D, cx, b⟩, H0, maxL, Q⟩ := G
  obtain ⟨⟨hx, hb, hml, hown, hts⟩, hK, rfl, hbs, rfl, rfl, hN⟩ := hF
  subst hp
  intro H locs ls hh hS hl
  exact lv_lload_n hx hb hd hi (xl_at hl hL) (kk H locs ls hh hS hl)
theorem xv_lload {G : xG} {K : xK} {cc : ByteArray} {own : String} {rm0 : Room} {mL k kS pc pc' n : Nat} {L : List (Nat × Value)} {st : List Value} {h : xH} {i : Nat} {x : Int64} (hF : XF G K cc own rm0 mL) (hd : decode cc pc = .ok (.lload i, 2)) (hL : xl L i = some (.long x)) (hp : pc + 2 = pc') (kk : XV G k kS pc' L (.long x :: st) n h) : XV G k kS pc L (st) n h := by
  obtain ⟨p, e, R, s, m, args, below, meth, c, ⟨l, D, cx, b⟩, H0, maxL, Q⟩ := G
  obtain ⟨⟨hx, hb, hml, hown, hts⟩, hK, rfl, hbs, rfl, rfl, hN⟩ := hF
  subst hp
  intro H locs ls hh hS hl
  exact lv_lload hx hb hd (xl_at hl hL) (kk H locs ls hh hS hl)
theorem xv_aload_n {G : xG} {K : xK} {cc : ByteArray} {own : String} {rm0 : Room} {mL k kS pc pc' n : Nat} {L : List (Nat × Value)} {st : List Value} {h : xH} {z : Fin 4} {i : Nat} {x : Nat} (hF : XF G K cc own rm0 mL) (hd : decode cc pc = .ok (.aload_n z, 1)) (hi : (z : Nat) = i) (hL : xl L i = some (.ref x)) (hp : pc + 1 = pc') (kk : XV G k kS pc' L (.ref x :: st) n h) : XV G k kS pc L (st) n h := by
  obtain ⟨p, e, R, s, m, args, below, meth, c, ⟨l, D, cx, b⟩, H0, maxL, Q⟩ := G
  obtain ⟨⟨hx, hb, hml, hown, hts⟩, hK, rfl, hbs, rfl, rfl, hN⟩ := hF
  subst hp
  intro H locs ls hh hS hl
  exact lv_aload_n hx hb hd hi (xl_at hl hL) (kk H locs ls hh hS hl)
theorem xv_aload {G : xG} {K : xK} {cc : ByteArray} {own : String} {rm0 : Room} {mL k kS pc pc' n : Nat} {L : List (Nat × Value)} {st : List Value} {h : xH} {i : Nat} {x : Nat} (hF : XF G K cc own rm0 mL) (hd : decode cc pc = .ok (.aload i, 2)) (hL : xl L i = some (.ref x)) (hp : pc + 2 = pc') (kk : XV G k kS pc' L (.ref x :: st) n h) : XV G k kS pc L (st) n h := by
  obtain ⟨p, e, R, s, m, args, below, meth, c, ⟨l, D, cx, b⟩, H0, maxL, Q⟩ := G
  obtain ⟨⟨hx, hb, hml, hown, hts⟩, hK, rfl, hbs, rfl, rfl, hN⟩ := hF
  subst hp
  intro H locs ls hh hS hl
  exact lv_aload hx hb hd (xl_at hl hL) (kk H locs ls hh hS hl)
theorem xv_istore_n {G : xG} {K : xK} {cc : ByteArray} {own : String} {rm0 : Room} {mL k kS pc pc' n : Nat} {L : List (Nat × Value)} {st : List Value} {h : xH} {z : Fin 4} {i : Nat} {x : Int32} {L' : List (Nat × Value)} (hF : XF G K cc own rm0 mL) (hd : decode cc pc = .ok (.istore_n z, 1)) (hi : (z : Nat) = i) (hn : i < mL) (hL : (i, Value.int x) :: L.filter (fun q => !(q.1 == i) && !(q.1 + 1 == i && q.2.category == 2)) = L') (hp : pc + 1 = pc') (kk : XV G k kS pc' L' st n h) : XV G k kS pc L (.int x :: st) n h := by
  obtain ⟨p, e, R, s, m, args, below, meth, c, ⟨l, D, cx, b⟩, H0, maxL, Q⟩ := G
  obtain ⟨⟨hx, hb, hml, hown, hts⟩, hK, rfl, hbs, rfl, rfl, hN⟩ := hF
  subst hp
  intro H locs ls hh hS hl
  exact lv_istore_n hx hb hd hi hl hn hL (fun ls' hl' => kk H locs ls' hh hS hl')
theorem xv_istore {G : xG} {K : xK} {cc : ByteArray} {own : String} {rm0 : Room} {mL k kS pc pc' n : Nat} {L : List (Nat × Value)} {st : List Value} {h : xH} {i : Nat} {x : Int32} {L' : List (Nat × Value)} (hF : XF G K cc own rm0 mL) (hd : decode cc pc = .ok (.istore i, 2)) (hn : i < mL) (hL : (i, Value.int x) :: L.filter (fun q => !(q.1 == i) && !(q.1 + 1 == i && q.2.category == 2)) = L') (hp : pc + 2 = pc') (kk : XV G k kS pc' L' st n h) : XV G k kS pc L (.int x :: st) n h := by
  obtain ⟨p, e, R, s, m, args, below, meth, c, ⟨l, D, cx, b⟩, H0, maxL, Q⟩ := G
  obtain ⟨⟨hx, hb, hml, hown, hts⟩, hK, rfl, hbs, rfl, rfl, hN⟩ := hF
  subst hp
  intro H locs ls hh hS hl
  exact lv_istore hx hb hd hl hn hL (fun ls' hl' => kk H locs ls' hh hS hl')
theorem xv_lstore_n {G : xG} {K : xK} {cc : ByteArray} {own : String} {rm0 : Room} {mL k kS pc pc' n : Nat} {L : List (Nat × Value)} {st : List Value} {h : xH} {z : Fin 4} {i : Nat} {x : Int64} {L' : List (Nat × Value)} (hF : XF G K cc own rm0 mL) (hd : decode cc pc = .ok (.lstore_n z, 1)) (hi : (z : Nat) = i) (hn : i + 1 < mL) (hL : (i, Value.long x) :: L.filter (fun q => !(q.1 == i) && (!(q.1 == i + 1) && !(q.1 + 1 == i && q.2.category == 2))) = L') (hp : pc + 1 = pc') (kk : XV G k kS pc' L' st n h) : XV G k kS pc L (.long x :: st) n h := by
  obtain ⟨p, e, R, s, m, args, below, meth, c, ⟨l, D, cx, b⟩, H0, maxL, Q⟩ := G
  obtain ⟨⟨hx, hb, hml, hown, hts⟩, hK, rfl, hbs, rfl, rfl, hN⟩ := hF
  subst hp
  intro H locs ls hh hS hl
  exact lv_lstore_n hx hb hd hi hl hn hL (fun ls' hl' => kk H locs ls' hh hS hl')
theorem xv_lstore {G : xG} {K : xK} {cc : ByteArray} {own : String} {rm0 : Room} {mL k kS pc pc' n : Nat} {L : List (Nat × Value)} {st : List Value} {h : xH} {i : Nat} {x : Int64} {L' : List (Nat × Value)} (hF : XF G K cc own rm0 mL) (hd : decode cc pc = .ok (.lstore i, 2)) (hn : i + 1 < mL) (hL : (i, Value.long x) :: L.filter (fun q => !(q.1 == i) && (!(q.1 == i + 1) && !(q.1 + 1 == i && q.2.category == 2))) = L') (hp : pc + 2 = pc') (kk : XV G k kS pc' L' st n h) : XV G k kS pc L (.long x :: st) n h := by
  obtain ⟨p, e, R, s, m, args, below, meth, c, ⟨l, D, cx, b⟩, H0, maxL, Q⟩ := G
  obtain ⟨⟨hx, hb, hml, hown, hts⟩, hK, rfl, hbs, rfl, rfl, hN⟩ := hF
  subst hp
  intro H locs ls hh hS hl
  exact lv_lstore hx hb hd hl hn hL (fun ls' hl' => kk H locs ls' hh hS hl')
theorem xv_astore_n {G : xG} {K : xK} {cc : ByteArray} {own : String} {rm0 : Room} {mL k kS pc pc' n : Nat} {L : List (Nat × Value)} {st : List Value} {h : xH} {z : Fin 4} {i : Nat} {x : Nat} {L' : List (Nat × Value)} (hF : XF G K cc own rm0 mL) (hd : decode cc pc = .ok (.astore_n z, 1)) (hi : (z : Nat) = i) (hn : i < mL) (hL : (i, Value.ref x) :: L.filter (fun q => !(q.1 == i) && !(q.1 + 1 == i && q.2.category == 2)) = L') (hp : pc + 1 = pc') (kk : XV G k kS pc' L' st n h) : XV G k kS pc L (.ref x :: st) n h := by
  obtain ⟨p, e, R, s, m, args, below, meth, c, ⟨l, D, cx, b⟩, H0, maxL, Q⟩ := G
  obtain ⟨⟨hx, hb, hml, hown, hts⟩, hK, rfl, hbs, rfl, rfl, hN⟩ := hF
  subst hp
  intro H locs ls hh hS hl
  exact lv_astore_n hx hb hd hi hl hn hL (fun ls' hl' => kk H locs ls' hh hS hl')
theorem xv_astore {G : xG} {K : xK} {cc : ByteArray} {own : String} {rm0 : Room} {mL k kS pc pc' n : Nat} {L : List (Nat × Value)} {st : List Value} {h : xH} {i : Nat} {x : Nat} {L' : List (Nat × Value)} (hF : XF G K cc own rm0 mL) (hd : decode cc pc = .ok (.astore i, 2)) (hn : i < mL) (hL : (i, Value.ref x) :: L.filter (fun q => !(q.1 == i) && !(q.1 + 1 == i && q.2.category == 2)) = L') (hp : pc + 2 = pc') (kk : XV G k kS pc' L' st n h) : XV G k kS pc L (.ref x :: st) n h := by
  obtain ⟨p, e, R, s, m, args, below, meth, c, ⟨l, D, cx, b⟩, H0, maxL, Q⟩ := G
  obtain ⟨⟨hx, hb, hml, hown, hts⟩, hK, rfl, hbs, rfl, rfl, hN⟩ := hF
  subst hp
  intro H locs ls hh hS hl
  exact lv_astore hx hb hd hl hn hL (fun ls' hl' => kk H locs ls' hh hS hl')
theorem xv_iinc {G : xG} {K : xK} {cc : ByteArray} {own : String} {rm0 : Room} {mL k kS pc pc' n : Nat} {L : List (Nat × Value)} {st : List Value} {h : xH} {i : Nat} {z : Int} {x v : Int32} {L' : List (Nat × Value)} (hF : XF G K cc own rm0 mL) (hd : decode cc pc = .ok (.iinc i z, 3)) (hk : xl L i = some (.int x)) (hv : x + Int32.ofInt z = v) (hn : i < mL) (hL : (i, Value.int v) :: L.filter (fun q => !(q.1 == i) && !(q.1 + 1 == i && q.2.category == 2)) = L') (hp : pc + 3 = pc') (kk : XV G k kS pc' L' st n h) : XV G k kS pc L st n h := by
  obtain ⟨p, e, R, s, m, args, below, meth, c, ⟨l, D, cx, b⟩, H0, maxL, Q⟩ := G
  obtain ⟨⟨hx, hb, hml, hown, hts⟩, hK, rfl, hbs, rfl, rfl, hN⟩ := hF
  subst hp
  intro H locs ls hh hS hl
  obtain ⟨j, hj⟩ := xl_get hk
  exact lv_iinc hx hb hd hl hj hv hn hL (fun ls' hl' => kk H locs ls' hh hS hl')
theorem xv_iadd {G : xG} {K : xK} {cc : ByteArray} {own : String} {rm0 : Room} {mL k kS pc pc' n : Nat} {L : List (Nat × Value)} {st : List Value} {h : xH} {x y : Int32} (hF : XF G K cc own rm0 mL) (hd : decode cc pc = .ok (.iadd, 1)) (hp : pc + 1 = pc') (kk : XV G k kS pc' L (.int (x + y) :: st) n h) : XV G k kS pc L (.int y :: .int x :: st) n h := by
  obtain ⟨p, e, R, s, m, args, below, meth, c, ⟨l, D, cx, b⟩, H0, maxL, Q⟩ := G
  obtain ⟨⟨hx, hb, hml, hown, hts⟩, hK, rfl, hbs, rfl, rfl, hN⟩ := hF
  subst hp
  intro H locs ls hh hS hl
  exact lv_iadd hx hb hd (kk H locs ls hh hS hl)
theorem xv_isub {G : xG} {K : xK} {cc : ByteArray} {own : String} {rm0 : Room} {mL k kS pc pc' n : Nat} {L : List (Nat × Value)} {st : List Value} {h : xH} {x y : Int32} (hF : XF G K cc own rm0 mL) (hd : decode cc pc = .ok (.isub, 1)) (hp : pc + 1 = pc') (kk : XV G k kS pc' L (.int (x - y) :: st) n h) : XV G k kS pc L (.int y :: .int x :: st) n h := by
  obtain ⟨p, e, R, s, m, args, below, meth, c, ⟨l, D, cx, b⟩, H0, maxL, Q⟩ := G
  obtain ⟨⟨hx, hb, hml, hown, hts⟩, hK, rfl, hbs, rfl, rfl, hN⟩ := hF
  subst hp
  intro H locs ls hh hS hl
  exact lv_isub hx hb hd (kk H locs ls hh hS hl)
theorem xv_imul {G : xG} {K : xK} {cc : ByteArray} {own : String} {rm0 : Room} {mL k kS pc pc' n : Nat} {L : List (Nat × Value)} {st : List Value} {h : xH} {x y : Int32} (hF : XF G K cc own rm0 mL) (hd : decode cc pc = .ok (.imul, 1)) (hp : pc + 1 = pc') (kk : XV G k kS pc' L (.int (x * y) :: st) n h) : XV G k kS pc L (.int y :: .int x :: st) n h := by
  obtain ⟨p, e, R, s, m, args, below, meth, c, ⟨l, D, cx, b⟩, H0, maxL, Q⟩ := G
  obtain ⟨⟨hx, hb, hml, hown, hts⟩, hK, rfl, hbs, rfl, rfl, hN⟩ := hF
  subst hp
  intro H locs ls hh hS hl
  exact lv_imul hx hb hd (kk H locs ls hh hS hl)
theorem xv_iand {G : xG} {K : xK} {cc : ByteArray} {own : String} {rm0 : Room} {mL k kS pc pc' n : Nat} {L : List (Nat × Value)} {st : List Value} {h : xH} {x y : Int32} (hF : XF G K cc own rm0 mL) (hd : decode cc pc = .ok (.iand, 1)) (hp : pc + 1 = pc') (kk : XV G k kS pc' L (.int (x &&& y) :: st) n h) : XV G k kS pc L (.int y :: .int x :: st) n h := by
  obtain ⟨p, e, R, s, m, args, below, meth, c, ⟨l, D, cx, b⟩, H0, maxL, Q⟩ := G
  obtain ⟨⟨hx, hb, hml, hown, hts⟩, hK, rfl, hbs, rfl, rfl, hN⟩ := hF
  subst hp
  intro H locs ls hh hS hl
  exact lv_iand hx hb hd (kk H locs ls hh hS hl)
theorem xv_ior {G : xG} {K : xK} {cc : ByteArray} {own : String} {rm0 : Room} {mL k kS pc pc' n : Nat} {L : List (Nat × Value)} {st : List Value} {h : xH} {x y : Int32} (hF : XF G K cc own rm0 mL) (hd : decode cc pc = .ok (.ior, 1)) (hp : pc + 1 = pc') (kk : XV G k kS pc' L (.int (x ||| y) :: st) n h) : XV G k kS pc L (.int y :: .int x :: st) n h := by
  obtain ⟨p, e, R, s, m, args, below, meth, c, ⟨l, D, cx, b⟩, H0, maxL, Q⟩ := G
  obtain ⟨⟨hx, hb, hml, hown, hts⟩, hK, rfl, hbs, rfl, rfl, hN⟩ := hF
  subst hp
  intro H locs ls hh hS hl
  exact lv_ior hx hb hd (kk H locs ls hh hS hl)
theorem xv_ixor {G : xG} {K : xK} {cc : ByteArray} {own : String} {rm0 : Room} {mL k kS pc pc' n : Nat} {L : List (Nat × Value)} {st : List Value} {h : xH} {x y : Int32} (hF : XF G K cc own rm0 mL) (hd : decode cc pc = .ok (.ixor, 1)) (hp : pc + 1 = pc') (kk : XV G k kS pc' L (.int (x ^^^ y) :: st) n h) : XV G k kS pc L (.int y :: .int x :: st) n h := by
  obtain ⟨p, e, R, s, m, args, below, meth, c, ⟨l, D, cx, b⟩, H0, maxL, Q⟩ := G
  obtain ⟨⟨hx, hb, hml, hown, hts⟩, hK, rfl, hbs, rfl, rfl, hN⟩ := hF
  subst hp
  intro H locs ls hh hS hl
  exact lv_ixor hx hb hd (kk H locs ls hh hS hl)
theorem xv_idiv {G : xG} {K : xK} {cc : ByteArray} {own : String} {rm0 : Room} {mL k kS pc pc' n : Nat} {L : List (Nat × Value)} {st : List Value} {h : xH} {x y : Int32} (hF : XF G K cc own rm0 mL) (hd : decode cc pc = .ok (.idiv, 1)) (hne : ¬ y = 0) (hp : pc + 1 = pc') (kk : XV G k kS pc' L (.int (x / y) :: st) n h) : XV G k kS pc L (.int y :: .int x :: st) n h := by
  obtain ⟨p, e, R, s, m, args, below, meth, c, ⟨l, D, cx, b⟩, H0, maxL, Q⟩ := G
  obtain ⟨⟨hx, hb, hml, hown, hts⟩, hK, rfl, hbs, rfl, rfl, hN⟩ := hF
  subst hp
  intro H locs ls hh hS hl
  exact lv_idiv hx hb hd hne (kk H locs ls hh hS hl)
theorem xv_irem {G : xG} {K : xK} {cc : ByteArray} {own : String} {rm0 : Room} {mL k kS pc pc' n : Nat} {L : List (Nat × Value)} {st : List Value} {h : xH} {x y : Int32} (hF : XF G K cc own rm0 mL) (hd : decode cc pc = .ok (.irem, 1)) (hne : ¬ y = 0) (hp : pc + 1 = pc') (kk : XV G k kS pc' L (.int (x - x / y * y) :: st) n h) : XV G k kS pc L (.int y :: .int x :: st) n h := by
  obtain ⟨p, e, R, s, m, args, below, meth, c, ⟨l, D, cx, b⟩, H0, maxL, Q⟩ := G
  obtain ⟨⟨hx, hb, hml, hown, hts⟩, hK, rfl, hbs, rfl, rfl, hN⟩ := hF
  subst hp
  intro H locs ls hh hS hl
  exact lv_irem hx hb hd hne (kk H locs ls hh hS hl)
theorem xv_ineg {G : xG} {K : xK} {cc : ByteArray} {own : String} {rm0 : Room} {mL k kS pc pc' n : Nat} {L : List (Nat × Value)} {st : List Value} {h : xH} {x : Int32} (hF : XF G K cc own rm0 mL) (hd : decode cc pc = .ok (.ineg, 1)) (hp : pc + 1 = pc') (kk : XV G k kS pc' L (.int (-x) :: st) n h) : XV G k kS pc L (.int x :: st) n h := by
  obtain ⟨p, e, R, s, m, args, below, meth, c, ⟨l, D, cx, b⟩, H0, maxL, Q⟩ := G
  obtain ⟨⟨hx, hb, hml, hown, hts⟩, hK, rfl, hbs, rfl, rfl, hN⟩ := hF
  subst hp
  intro H locs ls hh hS hl
  exact lv_ineg hx hb hd (kk H locs ls hh hS hl)
theorem xv_ishl {G : xG} {K : xK} {cc : ByteArray} {own : String} {rm0 : Room} {mL k kS pc pc' n : Nat} {L : List (Nat × Value)} {st : List Value} {h : xH} {x y : Int32} (hF : XF G K cc own rm0 mL) (hd : decode cc pc = .ok (.ishl, 1)) (hp : pc + 1 = pc') (kk : XV G k kS pc' L (.int (x <<< (y &&& 31)) :: st) n h) : XV G k kS pc L (.int y :: .int x :: st) n h := by
  obtain ⟨p, e, R, s, m, args, below, meth, c, ⟨l, D, cx, b⟩, H0, maxL, Q⟩ := G
  obtain ⟨⟨hx, hb, hml, hown, hts⟩, hK, rfl, hbs, rfl, rfl, hN⟩ := hF
  subst hp
  intro H locs ls hh hS hl
  exact lv_ishl hx hb hd (kk H locs ls hh hS hl)
theorem xv_ishr {G : xG} {K : xK} {cc : ByteArray} {own : String} {rm0 : Room} {mL k kS pc pc' n : Nat} {L : List (Nat × Value)} {st : List Value} {h : xH} {x y : Int32} (hF : XF G K cc own rm0 mL) (hd : decode cc pc = .ok (.ishr, 1)) (hp : pc + 1 = pc') (kk : XV G k kS pc' L (.int (x >>> (y &&& 31)) :: st) n h) : XV G k kS pc L (.int y :: .int x :: st) n h := by
  obtain ⟨p, e, R, s, m, args, below, meth, c, ⟨l, D, cx, b⟩, H0, maxL, Q⟩ := G
  obtain ⟨⟨hx, hb, hml, hown, hts⟩, hK, rfl, hbs, rfl, rfl, hN⟩ := hF
  subst hp
  intro H locs ls hh hS hl
  exact lv_ishr hx hb hd (kk H locs ls hh hS hl)
theorem xv_iushr {G : xG} {K : xK} {cc : ByteArray} {own : String} {rm0 : Room} {mL k kS pc pc' n : Nat} {L : List (Nat × Value)} {st : List Value} {h : xH} {x y v : Int32} (hF : XF G K cc own rm0 mL) (hd : decode cc pc = .ok (.iushr, 1)) (hv : (x.toUInt32 >>> (y.toUInt32 &&& Int32.toUInt32 31)).toInt32 = v) (hp : pc + 1 = pc') (kk : XV G k kS pc' L (.int v :: st) n h) : XV G k kS pc L (.int y :: .int x :: st) n h := by
  obtain ⟨p, e, R, s, m, args, below, meth, c, ⟨l, D, cx, b⟩, H0, maxL, Q⟩ := G
  obtain ⟨⟨hx, hb, hml, hown, hts⟩, hK, rfl, hbs, rfl, rfl, hN⟩ := hF
  subst hp
  intro H locs ls hh hS hl
  exact lv_iushr hx hb hd hv (kk H locs ls hh hS hl)
theorem xv_ladd {G : xG} {K : xK} {cc : ByteArray} {own : String} {rm0 : Room} {mL k kS pc pc' n : Nat} {L : List (Nat × Value)} {st : List Value} {h : xH} {x y : Int64} (hF : XF G K cc own rm0 mL) (hd : decode cc pc = .ok (.ladd, 1)) (hp : pc + 1 = pc') (kk : XV G k kS pc' L (.long (x + y) :: st) n h) : XV G k kS pc L (.long y :: .long x :: st) n h := by
  obtain ⟨p, e, R, s, m, args, below, meth, c, ⟨l, D, cx, b⟩, H0, maxL, Q⟩ := G
  obtain ⟨⟨hx, hb, hml, hown, hts⟩, hK, rfl, hbs, rfl, rfl, hN⟩ := hF
  subst hp
  intro H locs ls hh hS hl
  exact lv_ladd hx hb hd (kk H locs ls hh hS hl)
theorem xv_land {G : xG} {K : xK} {cc : ByteArray} {own : String} {rm0 : Room} {mL k kS pc pc' n : Nat} {L : List (Nat × Value)} {st : List Value} {h : xH} {x y : Int64} (hF : XF G K cc own rm0 mL) (hd : decode cc pc = .ok (.land, 1)) (hp : pc + 1 = pc') (kk : XV G k kS pc' L (.long (x &&& y) :: st) n h) : XV G k kS pc L (.long y :: .long x :: st) n h := by
  obtain ⟨p, e, R, s, m, args, below, meth, c, ⟨l, D, cx, b⟩, H0, maxL, Q⟩ := G
  obtain ⟨⟨hx, hb, hml, hown, hts⟩, hK, rfl, hbs, rfl, rfl, hN⟩ := hF
  subst hp
  intro H locs ls hh hS hl
  exact lv_land hx hb hd (kk H locs ls hh hS hl)
theorem xv_lor {G : xG} {K : xK} {cc : ByteArray} {own : String} {rm0 : Room} {mL k kS pc pc' n : Nat} {L : List (Nat × Value)} {st : List Value} {h : xH} {x y : Int64} (hF : XF G K cc own rm0 mL) (hd : decode cc pc = .ok (.lor, 1)) (hp : pc + 1 = pc') (kk : XV G k kS pc' L (.long (x ||| y) :: st) n h) : XV G k kS pc L (.long y :: .long x :: st) n h := by
  obtain ⟨p, e, R, s, m, args, below, meth, c, ⟨l, D, cx, b⟩, H0, maxL, Q⟩ := G
  obtain ⟨⟨hx, hb, hml, hown, hts⟩, hK, rfl, hbs, rfl, rfl, hN⟩ := hF
  subst hp
  intro H locs ls hh hS hl
  exact lv_lor hx hb hd (kk H locs ls hh hS hl)
theorem xv_lushr {G : xG} {K : xK} {cc : ByteArray} {own : String} {rm0 : Room} {mL k kS pc pc' n : Nat} {L : List (Nat × Value)} {st : List Value} {h : xH} {x v : Int64} {y : Int32} (hF : XF G K cc own rm0 mL) (hd : decode cc pc = .ok (.lushr, 1)) (hv : (x.toUInt64 >>> (y.toInt64.toUInt64 &&& Int64.toUInt64 63)).toInt64 = v) (hp : pc + 1 = pc') (kk : XV G k kS pc' L (.long v :: st) n h) : XV G k kS pc L (.int y :: .long x :: st) n h := by
  obtain ⟨p, e, R, s, m, args, below, meth, c, ⟨l, D, cx, b⟩, H0, maxL, Q⟩ := G
  obtain ⟨⟨hx, hb, hml, hown, hts⟩, hK, rfl, hbs, rfl, rfl, hN⟩ := hF
  subst hp
  intro H locs ls hh hS hl
  exact lv_lushr hx hb hd hv (kk H locs ls hh hS hl)
theorem xv_lshl {G : xG} {K : xK} {cc : ByteArray} {own : String} {rm0 : Room} {mL k kS pc pc' n : Nat} {L : List (Nat × Value)} {st : List Value} {h : xH} {x v : Int64} {y : Int32} (hF : XF G K cc own rm0 mL) (hd : decode cc pc = .ok (.lshl, 1)) (hv : x <<< (y.toInt64 &&& 63) = v) (hp : pc + 1 = pc') (kk : XV G k kS pc' L (.long v :: st) n h) : XV G k kS pc L (.int y :: .long x :: st) n h := by
  obtain ⟨p, e, R, s, m, args, below, meth, c, ⟨l, D, cx, b⟩, H0, maxL, Q⟩ := G
  obtain ⟨⟨hx, hb, hml, hown, hts⟩, hK, rfl, hbs, rfl, rfl, hN⟩ := hF
  subst hp
  intro H locs ls hh hS hl
  exact lv_lshl hx hb hd hv (kk H locs ls hh hS hl)
theorem xv_lshr {G : xG} {K : xK} {cc : ByteArray} {own : String} {rm0 : Room} {mL k kS pc pc' n : Nat} {L : List (Nat × Value)} {st : List Value} {h : xH} {x v : Int64} {y : Int32} (hF : XF G K cc own rm0 mL) (hd : decode cc pc = .ok (.lshr, 1)) (hv : x >>> (y.toInt64 &&& 63) = v) (hp : pc + 1 = pc') (kk : XV G k kS pc' L (.long v :: st) n h) : XV G k kS pc L (.int y :: .long x :: st) n h := by
  obtain ⟨p, e, R, s, m, args, below, meth, c, ⟨l, D, cx, b⟩, H0, maxL, Q⟩ := G
  obtain ⟨⟨hx, hb, hml, hown, hts⟩, hK, rfl, hbs, rfl, rfl, hN⟩ := hF
  subst hp
  intro H locs ls hh hS hl
  exact lv_lshr hx hb hd hv (kk H locs ls hh hS hl)
theorem xv_i2l {G : xG} {K : xK} {cc : ByteArray} {own : String} {rm0 : Room} {mL k kS pc pc' n : Nat} {L : List (Nat × Value)} {st : List Value} {h : xH} {x : Int32} {v : Int64} (hF : XF G K cc own rm0 mL) (hd : decode cc pc = .ok (.i2l, 1)) (hv : x.toInt64 = v) (hp : pc + 1 = pc') (kk : XV G k kS pc' L (.long v :: st) n h) : XV G k kS pc L (.int x :: st) n h := by
  obtain ⟨p, e, R, s, m, args, below, meth, c, ⟨l, D, cx, b⟩, H0, maxL, Q⟩ := G
  obtain ⟨⟨hx, hb, hml, hown, hts⟩, hK, rfl, hbs, rfl, rfl, hN⟩ := hF
  subst hp
  intro H locs ls hh hS hl
  exact lv_i2l hx hb hd hv (kk H locs ls hh hS hl)
theorem xv_l2i {G : xG} {K : xK} {cc : ByteArray} {own : String} {rm0 : Room} {mL k kS pc pc' n : Nat} {L : List (Nat × Value)} {st : List Value} {h : xH} {x : Int64} {v : Int32} (hF : XF G K cc own rm0 mL) (hd : decode cc pc = .ok (.l2i, 1)) (hv : x.toInt32 = v) (hp : pc + 1 = pc') (kk : XV G k kS pc' L (.int v :: st) n h) : XV G k kS pc L (.long x :: st) n h := by
  obtain ⟨p, e, R, s, m, args, below, meth, c, ⟨l, D, cx, b⟩, H0, maxL, Q⟩ := G
  obtain ⟨⟨hx, hb, hml, hown, hts⟩, hK, rfl, hbs, rfl, rfl, hN⟩ := hF
  subst hp
  intro H locs ls hh hS hl
  exact lv_l2i hx hb hd hv (kk H locs ls hh hS hl)
theorem xv_lcmp {G : xG} {K : xK} {cc : ByteArray} {own : String} {rm0 : Room} {mL k kS pc pc' n : Nat} {L : List (Nat × Value)} {st : List Value} {h : xH} {x y : Int64} (hF : XF G K cc own rm0 mL) (hd : decode cc pc = .ok (.lcmp, 1)) (hp : pc + 1 = pc') (kk : XV G k kS pc' L (.int (lg_cmp x y) :: st) n h) : XV G k kS pc L (.long y :: .long x :: st) n h := by
  obtain ⟨p, e, R, s, m, args, below, meth, c, ⟨l, D, cx, b⟩, H0, maxL, Q⟩ := G
  obtain ⟨⟨hx, hb, hml, hown, hts⟩, hK, rfl, hbs, rfl, rfl, hN⟩ := hF
  subst hp
  intro H locs ls hh hS hl
  exact W.lcmp hx hb hd (kk H locs ls hh hS hl)
theorem xv_dup {G : xG} {K : xK} {cc : ByteArray} {own : String} {rm0 : Room} {mL k kS pc pc' n : Nat} {L : List (Nat × Value)} {st : List Value} {h : xH} {va : Value} (hF : XF G K cc own rm0 mL) (hd : decode cc pc = .ok (.dup, 1)) (hva : va.category = 1) (hp : pc + 1 = pc') (kk : XV G k kS pc' L (va :: va :: st) n h) : XV G k kS pc L (va :: st) n h := by
  obtain ⟨p, e, R, s, m, args, below, meth, c, ⟨l, D, cx, b⟩, H0, maxL, Q⟩ := G
  obtain ⟨⟨hx, hb, hml, hown, hts⟩, hK, rfl, hbs, rfl, rfl, hN⟩ := hF
  subst hp
  intro H locs ls hh hS hl
  exact lv_dup hx hb hd hva (kk H locs ls hh hS hl)
theorem xv_pop {G : xG} {K : xK} {cc : ByteArray} {own : String} {rm0 : Room} {mL k kS pc pc' n : Nat} {L : List (Nat × Value)} {st : List Value} {h : xH} {va : Value} (hF : XF G K cc own rm0 mL) (hd : decode cc pc = .ok (.pop, 1)) (hva : va.category = 1) (hp : pc + 1 = pc') (kk : XV G k kS pc' L (st) n h) : XV G k kS pc L (va :: st) n h := by
  obtain ⟨p, e, R, s, m, args, below, meth, c, ⟨l, D, cx, b⟩, H0, maxL, Q⟩ := G
  obtain ⟨⟨hx, hb, hml, hown, hts⟩, hK, rfl, hbs, rfl, rfl, hN⟩ := hF
  subst hp
  intro H locs ls hh hS hl
  exact lv_pop hx hb hd hva (kk H locs ls hh hS hl)
theorem xv_dup_x1 {G : xG} {K : xK} {cc : ByteArray} {own : String} {rm0 : Room} {mL k kS pc pc' n : Nat} {L : List (Nat × Value)} {st : List Value} {h : xH} {va vb : Value} (hF : XF G K cc own rm0 mL) (hd : decode cc pc = .ok (.dup_x1, 1)) (hva : va.category = 1) (hvb : vb.category = 1) (hp : pc + 1 = pc') (kk : XV G k kS pc' L (va :: vb :: va :: st) n h) : XV G k kS pc L (va :: vb :: st) n h := by
  obtain ⟨p, e, R, s, m, args, below, meth, c, ⟨l, D, cx, b⟩, H0, maxL, Q⟩ := G
  obtain ⟨⟨hx, hb, hml, hown, hts⟩, hK, rfl, hbs, rfl, rfl, hN⟩ := hF
  subst hp
  intro H locs ls hh hS hl
  exact lv_dup_x1 hx hb hd hva hvb (kk H locs ls hh hS hl)
theorem xv_dup_x2 {G : xG} {K : xK} {cc : ByteArray} {own : String} {rm0 : Room} {mL k kS pc pc' n : Nat} {L : List (Nat × Value)} {st : List Value} {h : xH} {va vb vd : Value} (hF : XF G K cc own rm0 mL) (hd : decode cc pc = .ok (.dup_x2, 1)) (hva : va.category = 1) (hvb : vb.category = 1) (hvd : vd.category = 1) (hp : pc + 1 = pc') (kk : XV G k kS pc' L (va :: vb :: vd :: va :: st) n h) : XV G k kS pc L (va :: vb :: vd :: st) n h := by
  obtain ⟨p, e, R, s, m, args, below, meth, c, ⟨l, D, cx, b⟩, H0, maxL, Q⟩ := G
  obtain ⟨⟨hx, hb, hml, hown, hts⟩, hK, rfl, hbs, rfl, rfl, hN⟩ := hF
  subst hp
  intro H locs ls hh hS hl
  exact lv_dup_x2 hx hb hd hva hvb hvd (kk H locs ls hh hS hl)
theorem xv_dup2 {G : xG} {K : xK} {cc : ByteArray} {own : String} {rm0 : Room} {mL k kS pc pc' n : Nat} {L : List (Nat × Value)} {st : List Value} {h : xH} {va vb : Value} (hF : XF G K cc own rm0 mL) (hd : decode cc pc = .ok (.dup2, 1)) (hva : va.category = 1) (hvb : vb.category = 1) (hp : pc + 1 = pc') (kk : XV G k kS pc' L (va :: vb :: va :: vb :: st) n h) : XV G k kS pc L (va :: vb :: st) n h := by
  obtain ⟨p, e, R, s, m, args, below, meth, c, ⟨l, D, cx, b⟩, H0, maxL, Q⟩ := G
  obtain ⟨⟨hx, hb, hml, hown, hts⟩, hK, rfl, hbs, rfl, rfl, hN⟩ := hF
  subst hp
  intro H locs ls hh hS hl
  exact lv_dup2_11 hx hb hd hva hvb (kk H locs ls hh hS hl)
theorem xv_if_eq {G : xG} {K : xK} {cc : ByteArray} {own : String} {rm0 : Room} {mL k kS pc pc' n : Nat} {L : List (Nat × Value)} {st : List Value} {h : xH} {x : Int32} {off : Int} {tgt : Nat} (hF : XF G K cc own rm0 mL) (hd : decode cc pc = .ok (.ifCond .eq off, 3)) (ht : (pc : Int) + off = (tgt : Int)) (hp : pc + 3 = pc') (kt : x = 0 → XV G k kS tgt L st n h) (kf : ¬ x = 0 → XV G k kS pc' L st n h) : XV G k kS pc L (.int x :: st) n h := by
  obtain ⟨p, e, R, s, m, args, below, meth, c, ⟨l, D, cx, b⟩, H0, maxL, Q⟩ := G
  obtain ⟨⟨hx, hb, hml, hown, hts⟩, hK, rfl, hbs, rfl, rfl, hN⟩ := hF
  subst hp
  intro H locs ls hh hS hl
  exact lv_if_eq hx hb hd ht (fun q => kt q H locs ls hh hS hl) (fun q => kf q H locs ls hh hS hl)
theorem xv_icmp_eq {G : xG} {K : xK} {cc : ByteArray} {own : String} {rm0 : Room} {mL k kS pc pc' n : Nat} {L : List (Nat × Value)} {st : List Value} {h : xH} {x y : Int32} {off : Int} {tgt : Nat} (hF : XF G K cc own rm0 mL) (hd : decode cc pc = .ok (.if_icmp .eq off, 3)) (ht : (pc : Int) + off = (tgt : Int)) (hp : pc + 3 = pc') (kt : x = y → XV G k kS tgt L st n h) (kf : ¬ x = y → XV G k kS pc' L st n h) : XV G k kS pc L (.int y :: .int x :: st) n h := by
  obtain ⟨p, e, R, s, m, args, below, meth, c, ⟨l, D, cx, b⟩, H0, maxL, Q⟩ := G
  obtain ⟨⟨hx, hb, hml, hown, hts⟩, hK, rfl, hbs, rfl, rfl, hN⟩ := hF
  subst hp
  intro H locs ls hh hS hl
  exact lv_icmp_eq hx hb hd ht (fun q => kt q H locs ls hh hS hl) (fun q => kf q H locs ls hh hS hl)
theorem xv_if_ne {G : xG} {K : xK} {cc : ByteArray} {own : String} {rm0 : Room} {mL k kS pc pc' n : Nat} {L : List (Nat × Value)} {st : List Value} {h : xH} {x : Int32} {off : Int} {tgt : Nat} (hF : XF G K cc own rm0 mL) (hd : decode cc pc = .ok (.ifCond .ne off, 3)) (ht : (pc : Int) + off = (tgt : Int)) (hp : pc + 3 = pc') (kt : ¬ x = 0 → XV G k kS tgt L st n h) (kf : x = 0 → XV G k kS pc' L st n h) : XV G k kS pc L (.int x :: st) n h := by
  obtain ⟨p, e, R, s, m, args, below, meth, c, ⟨l, D, cx, b⟩, H0, maxL, Q⟩ := G
  obtain ⟨⟨hx, hb, hml, hown, hts⟩, hK, rfl, hbs, rfl, rfl, hN⟩ := hF
  subst hp
  intro H locs ls hh hS hl
  exact lv_if_ne hx hb hd ht (fun q => kt q H locs ls hh hS hl) (fun q => kf q H locs ls hh hS hl)
theorem xv_icmp_ne {G : xG} {K : xK} {cc : ByteArray} {own : String} {rm0 : Room} {mL k kS pc pc' n : Nat} {L : List (Nat × Value)} {st : List Value} {h : xH} {x y : Int32} {off : Int} {tgt : Nat} (hF : XF G K cc own rm0 mL) (hd : decode cc pc = .ok (.if_icmp .ne off, 3)) (ht : (pc : Int) + off = (tgt : Int)) (hp : pc + 3 = pc') (kt : ¬ x = y → XV G k kS tgt L st n h) (kf : x = y → XV G k kS pc' L st n h) : XV G k kS pc L (.int y :: .int x :: st) n h := by
  obtain ⟨p, e, R, s, m, args, below, meth, c, ⟨l, D, cx, b⟩, H0, maxL, Q⟩ := G
  obtain ⟨⟨hx, hb, hml, hown, hts⟩, hK, rfl, hbs, rfl, rfl, hN⟩ := hF
  subst hp
  intro H locs ls hh hS hl
  exact lv_icmp_ne hx hb hd ht (fun q => kt q H locs ls hh hS hl) (fun q => kf q H locs ls hh hS hl)
theorem xv_if_lt {G : xG} {K : xK} {cc : ByteArray} {own : String} {rm0 : Room} {mL k kS pc pc' n : Nat} {L : List (Nat × Value)} {st : List Value} {h : xH} {x : Int32} {off : Int} {tgt : Nat} (hF : XF G K cc own rm0 mL) (hd : decode cc pc = .ok (.ifCond .lt off, 3)) (ht : (pc : Int) + off = (tgt : Int)) (hp : pc + 3 = pc') (kt : x < 0 → XV G k kS tgt L st n h) (kf : ¬ x < 0 → XV G k kS pc' L st n h) : XV G k kS pc L (.int x :: st) n h := by
  obtain ⟨p, e, R, s, m, args, below, meth, c, ⟨l, D, cx, b⟩, H0, maxL, Q⟩ := G
  obtain ⟨⟨hx, hb, hml, hown, hts⟩, hK, rfl, hbs, rfl, rfl, hN⟩ := hF
  subst hp
  intro H locs ls hh hS hl
  exact lv_if_lt hx hb hd ht (fun q => kt q H locs ls hh hS hl) (fun q => kf q H locs ls hh hS hl)
theorem xv_icmp_lt {G : xG} {K : xK} {cc : ByteArray} {own : String} {rm0 : Room} {mL k kS pc pc' n : Nat} {L : List (Nat × Value)} {st : List Value} {h : xH} {x y : Int32} {off : Int} {tgt : Nat} (hF : XF G K cc own rm0 mL) (hd : decode cc pc = .ok (.if_icmp .lt off, 3)) (ht : (pc : Int) + off = (tgt : Int)) (hp : pc + 3 = pc') (kt : x < y → XV G k kS tgt L st n h) (kf : ¬ x < y → XV G k kS pc' L st n h) : XV G k kS pc L (.int y :: .int x :: st) n h := by
  obtain ⟨p, e, R, s, m, args, below, meth, c, ⟨l, D, cx, b⟩, H0, maxL, Q⟩ := G
  obtain ⟨⟨hx, hb, hml, hown, hts⟩, hK, rfl, hbs, rfl, rfl, hN⟩ := hF
  subst hp
  intro H locs ls hh hS hl
  exact lv_icmp_lt hx hb hd ht (fun q => kt q H locs ls hh hS hl) (fun q => kf q H locs ls hh hS hl)
theorem xv_if_ge {G : xG} {K : xK} {cc : ByteArray} {own : String} {rm0 : Room} {mL k kS pc pc' n : Nat} {L : List (Nat × Value)} {st : List Value} {h : xH} {x : Int32} {off : Int} {tgt : Nat} (hF : XF G K cc own rm0 mL) (hd : decode cc pc = .ok (.ifCond .ge off, 3)) (ht : (pc : Int) + off = (tgt : Int)) (hp : pc + 3 = pc') (kt : 0 ≤ x → XV G k kS tgt L st n h) (kf : ¬ 0 ≤ x → XV G k kS pc' L st n h) : XV G k kS pc L (.int x :: st) n h := by
  obtain ⟨p, e, R, s, m, args, below, meth, c, ⟨l, D, cx, b⟩, H0, maxL, Q⟩ := G
  obtain ⟨⟨hx, hb, hml, hown, hts⟩, hK, rfl, hbs, rfl, rfl, hN⟩ := hF
  subst hp
  intro H locs ls hh hS hl
  exact lv_if_ge hx hb hd ht (fun q => kt q H locs ls hh hS hl) (fun q => kf q H locs ls hh hS hl)
theorem xv_icmp_ge {G : xG} {K : xK} {cc : ByteArray} {own : String} {rm0 : Room} {mL k kS pc pc' n : Nat} {L : List (Nat × Value)} {st : List Value} {h : xH} {x y : Int32} {off : Int} {tgt : Nat} (hF : XF G K cc own rm0 mL) (hd : decode cc pc = .ok (.if_icmp .ge off, 3)) (ht : (pc : Int) + off = (tgt : Int)) (hp : pc + 3 = pc') (kt : y ≤ x → XV G k kS tgt L st n h) (kf : ¬ y ≤ x → XV G k kS pc' L st n h) : XV G k kS pc L (.int y :: .int x :: st) n h := by
  obtain ⟨p, e, R, s, m, args, below, meth, c, ⟨l, D, cx, b⟩, H0, maxL, Q⟩ := G
  obtain ⟨⟨hx, hb, hml, hown, hts⟩, hK, rfl, hbs, rfl, rfl, hN⟩ := hF
  subst hp
  intro H locs ls hh hS hl
  exact lv_icmp_ge hx hb hd ht (fun q => kt q H locs ls hh hS hl) (fun q => kf q H locs ls hh hS hl)
theorem xv_if_gt {G : xG} {K : xK} {cc : ByteArray} {own : String} {rm0 : Room} {mL k kS pc pc' n : Nat} {L : List (Nat × Value)} {st : List Value} {h : xH} {x : Int32} {off : Int} {tgt : Nat} (hF : XF G K cc own rm0 mL) (hd : decode cc pc = .ok (.ifCond .gt off, 3)) (ht : (pc : Int) + off = (tgt : Int)) (hp : pc + 3 = pc') (kt : 0 < x → XV G k kS tgt L st n h) (kf : ¬ 0 < x → XV G k kS pc' L st n h) : XV G k kS pc L (.int x :: st) n h := by
  obtain ⟨p, e, R, s, m, args, below, meth, c, ⟨l, D, cx, b⟩, H0, maxL, Q⟩ := G
  obtain ⟨⟨hx, hb, hml, hown, hts⟩, hK, rfl, hbs, rfl, rfl, hN⟩ := hF
  subst hp
  intro H locs ls hh hS hl
  exact lv_if_gt hx hb hd ht (fun q => kt q H locs ls hh hS hl) (fun q => kf q H locs ls hh hS hl)
theorem xv_icmp_gt {G : xG} {K : xK} {cc : ByteArray} {own : String} {rm0 : Room} {mL k kS pc pc' n : Nat} {L : List (Nat × Value)} {st : List Value} {h : xH} {x y : Int32} {off : Int} {tgt : Nat} (hF : XF G K cc own rm0 mL) (hd : decode cc pc = .ok (.if_icmp .gt off, 3)) (ht : (pc : Int) + off = (tgt : Int)) (hp : pc + 3 = pc') (kt : y < x → XV G k kS tgt L st n h) (kf : ¬ y < x → XV G k kS pc' L st n h) : XV G k kS pc L (.int y :: .int x :: st) n h := by
  obtain ⟨p, e, R, s, m, args, below, meth, c, ⟨l, D, cx, b⟩, H0, maxL, Q⟩ := G
  obtain ⟨⟨hx, hb, hml, hown, hts⟩, hK, rfl, hbs, rfl, rfl, hN⟩ := hF
  subst hp
  intro H locs ls hh hS hl
  exact lv_icmp_gt hx hb hd ht (fun q => kt q H locs ls hh hS hl) (fun q => kf q H locs ls hh hS hl)
theorem xv_if_le {G : xG} {K : xK} {cc : ByteArray} {own : String} {rm0 : Room} {mL k kS pc pc' n : Nat} {L : List (Nat × Value)} {st : List Value} {h : xH} {x : Int32} {off : Int} {tgt : Nat} (hF : XF G K cc own rm0 mL) (hd : decode cc pc = .ok (.ifCond .le off, 3)) (ht : (pc : Int) + off = (tgt : Int)) (hp : pc + 3 = pc') (kt : x ≤ 0 → XV G k kS tgt L st n h) (kf : ¬ x ≤ 0 → XV G k kS pc' L st n h) : XV G k kS pc L (.int x :: st) n h := by
  obtain ⟨p, e, R, s, m, args, below, meth, c, ⟨l, D, cx, b⟩, H0, maxL, Q⟩ := G
  obtain ⟨⟨hx, hb, hml, hown, hts⟩, hK, rfl, hbs, rfl, rfl, hN⟩ := hF
  subst hp
  intro H locs ls hh hS hl
  exact lv_if_le hx hb hd ht (fun q => kt q H locs ls hh hS hl) (fun q => kf q H locs ls hh hS hl)
theorem xv_icmp_le {G : xG} {K : xK} {cc : ByteArray} {own : String} {rm0 : Room} {mL k kS pc pc' n : Nat} {L : List (Nat × Value)} {st : List Value} {h : xH} {x y : Int32} {off : Int} {tgt : Nat} (hF : XF G K cc own rm0 mL) (hd : decode cc pc = .ok (.if_icmp .le off, 3)) (ht : (pc : Int) + off = (tgt : Int)) (hp : pc + 3 = pc') (kt : x ≤ y → XV G k kS tgt L st n h) (kf : ¬ x ≤ y → XV G k kS pc' L st n h) : XV G k kS pc L (.int y :: .int x :: st) n h := by
  obtain ⟨p, e, R, s, m, args, below, meth, c, ⟨l, D, cx, b⟩, H0, maxL, Q⟩ := G
  obtain ⟨⟨hx, hb, hml, hown, hts⟩, hK, rfl, hbs, rfl, rfl, hN⟩ := hF
  subst hp
  intro H locs ls hh hS hl
  exact lv_icmp_le hx hb hd ht (fun q => kt q H locs ls hh hS hl) (fun q => kf q H locs ls hh hS hl)
theorem xv_goto {G : xG} {K : xK} {cc : ByteArray} {own : String} {rm0 : Room} {mL k kS pc n : Nat} {L : List (Nat × Value)} {st : List Value} {h : xH} {off : Int} {tgt : Nat} (hF : XF G K cc own rm0 mL) (hd : decode cc pc = .ok (.goto off, 3)) (ht : (pc : Int) + off = (tgt : Int)) (kk : XV G k kS tgt L st n h) : XV G k kS pc L st n h := by
  obtain ⟨p, e, R, s, m, args, below, meth, c, ⟨l, D, cx, b⟩, H0, maxL, Q⟩ := G
  obtain ⟨⟨hx, hb, hml, hown, hts⟩, hK, rfl, hbs, rfl, rfl, hN⟩ := hF
  intro H locs ls hh hS hl
  exact lv_goto hx hb hd ht (kk H locs ls hh hS hl)
end
section
theorem xv_get {G : xG} {K : xK} {cc : ByteArray} {own : String} {rm0 : Room} {mL k kS pc pc' n : Nat} {L : List (Nat × Value)} {st : List Value} {h : xH} {C : String} {T : u_T} {N ci idx a : Nat} {fs : List Value} {v : Value} (hF : XF G K cc own rm0 mL) (hh : h a = some (.inr (ci, fs))) (hc : x_cl[ci]? = some (C, T, N)) (hin : ∀ w ∈ u_ws C T N, w ∈ x_T) (k0 : Nat) (hk : k0 < N) (hlink : Cond.fieldLink own idx (T k0).1 (T k0).2.1 (T k0).2.2.1 ∈ x_T) (hv : fs[k0]? = some v) (hd : decode cc pc = .ok (.getfield idx, 3)) (hp : pc + 3 = pc') (kk : XV G k kS pc' L (v :: st) n h) : XV G k kS pc L (.ref a :: st) n h := by
  obtain ⟨p, e, R, s, m, args, below, meth, c, ⟨l, D, cx, b⟩, H0, maxL, Q⟩ := G
  obtain ⟨⟨hx, hb, hml, hown, hts⟩, hK, rfl, hbs, rfl, rfl, hN⟩ := hF
  subst hp
  intro H locs ls hok hS hl
  obtain ⟨ws, hP, hD, hn, hbn, hi⟩ := id hok
  obtain ⟨q0, hq⟩ := (hi a _).mp hh
  exact va_get (D := D) hx hb hts hin hown hK hP q0 hq hc k0 hk (hts _ hlink) (fun _ z => z) hv hd (kk H locs ls hok hS hl)
theorem xv_put {G : xG} {K : xK} {cc : ByteArray} {own : String} {rm0 : Room} {mL k kS pc pc' n : Nat} {L : List (Nat × Value)} {st : List Value} {h : xH} {C : String} {T : u_T} {N ci idx a : Nat} {fs fs' : List Value} {v : Value} {ty : FieldType} (hF : XF G K cc own rm0 mL) (hh : h a = some (.inr (ci, fs))) (hc : x_cl[ci]? = some (C, T, N)) (hin : ∀ w ∈ u_ws C T N, w ∈ x_T) (ty0 : Nat → FieldType) (hty : ∀ k, k < N → parseFieldDescriptor (T k).2.2.1 = some (ty0 k)) (hnm : ∀ a, a < N → ∀ b, b < N → a ≠ b → (T a).2.1 ≠ (T b).2.1) (k0 : Nat) (hk : k0 < N) (hlink : Cond.fieldLink own idx (T k0).1 (T k0).2.1 (T k0).2.2.1 ∈ x_T) (hfin : (T k0).2.2.2 = false) (hd9 : parseFieldDescriptor (T k0).2.2.1 = some ty) (hn9 : narrow ty v = v) (hfit : fits ty v = true) (hl9 : k0 < fs.length) (hfs : fs.set k0 v = fs') (hd : decode cc pc = .ok (.putfield idx, 3)) (hp : pc + 3 = pc') (kk : XV G k kS pc' L st n (xu h a (.inr (ci, fs')))) : XV G k kS pc L (v :: .ref a :: st) n h := by
  obtain ⟨p, e, R, s, m, args, below, meth, c, ⟨l, D, cx, b⟩, H0, maxL, Q⟩ := G
  obtain ⟨⟨hx, hb, hml, hown, hts⟩, hK, rfl, hbs, rfl, rfl, hN⟩ := hF
  subst hp
  subst hfs
  intro H locs ls hok hS hl
  obtain ⟨ws, hP, hD, hn, hbn, hi⟩ := id hok
  obtain ⟨q0, hq⟩ := (hi a _).mp hh
  have hap := va_apart (own := own) hts hin ty0 hty hnm hK hc
  obtain ⟨r, h1, cell, q1, q2, q3, q4⟩ := hP q0 _ hq
  have hr : r = (C, T, N) := Option.some.inj (h1.symm.trans hc)
  subst hr
  obtain ⟨hS9, hfc, kC, hkC, hkind⟩ := hK.1 ci _ hc
  obtain ⟨cf, kf, fi, f, hi9, hsl⟩ := hS9 k0 hk
  have hlay := hts _ (hin _ (u_in_lay hk))
  unfold u_lay at hlay
  rw [if_neg (by rw [hfin]; decide)] at hlay
  have hst := (u_facts hfc hkC (u_lays hts hin hk) hi9).1
  have h6 := u_store hfc hkC hkind hlay hi9 hd9 hn9 hfit
  refine W.putK hx hb (f := f) ⟨hown, hts _ hlink, ⟨_, _, _, hi9⟩, hst⟩ (by rw [q2]; exact h6) q1 q3 (by rw [hsl]; exact k2_hasslot (q4 k0 hk)) rfl rfl hd fun H' e1 e2 e3 => ?_
  rw [hsl] at e1 ⊢
  exact kk H' _ ls (xh_set hD hi hq (hP.set hD hq ⟨_, hc, t_OB.to (V := updV (vp_V fs) k0 v) ⟨_, e1, q2, q3, t_set q4 hap hk v⟩ (fun j _ => vp_updV_set hl9 v j)⟩ e3) (hD.set hq) (e2.trans hn) hbn) (hS.put e2 e3 (hD.2 q0 _ hq)) hl
theorem xv_getN {G : xG} {K : xK} {cc : ByteArray} {own : String} {rm0 : Room} {mL k kS pc pc' n : Nat} {L : List (Nat × Value)} {st : List Value} {h : xH} {C host : String} {T : u_T} {N ci idx a : Nat} {fs : List Value} {v : Value} (hF : XF G K cc own rm0 mL) (hh : h a = some (.inr (ci, fs))) (hc : x_cl[ci]? = some (C, T, N)) (hin : ∀ w ∈ u_ws C T N, w ∈ x_T) (k0 : Nat) (hk : k0 < N) (hlink : Cond.fieldLinkNest own idx (T k0).1 (T k0).2.1 (T k0).2.2.1 host ∈ x_nest) (hv : fs[k0]? = some v) (hd : decode cc pc = .ok (.getfield idx, 3)) (hp : pc + 3 = pc') (kk : XV G k kS pc' L (v :: st) n h) : XV G k kS pc L (.ref a :: st) n h := by
  obtain ⟨p, e, R, s, m, args, below, meth, c, ⟨l, D, cx, b⟩, H0, maxL, Q⟩ := G
  obtain ⟨⟨hx, hb, hml, hown, hts⟩, hK, rfl, hbs, rfl, rfl, hN⟩ := hF
  subst hp
  intro H locs ls hok hS hl
  obtain ⟨ws, hP, hD, hn, hbn, hi⟩ := id hok
  obtain ⟨q0, hq⟩ := (hi a _).mp hh
  exact va_getN (D := D) hx hb hts hin hown hK hP q0 hq hc k0 hk (va_Nw.use rfl (hN.1 _ hlink)) (fun _ z => z) hv hd (kk H locs ls hok hS hl)
theorem xv_putN {G : xG} {K : xK} {cc : ByteArray} {own : String} {rm0 : Room} {mL k kS pc pc' n : Nat} {L : List (Nat × Value)} {st : List Value} {h : xH} {C host : String} {T : u_T} {N ci idx a : Nat} {fs fs' : List Value} {v : Value} {ty : FieldType} (hF : XF G K cc own rm0 mL) (hh : h a = some (.inr (ci, fs))) (hc : x_cl[ci]? = some (C, T, N)) (hin : ∀ w ∈ u_ws C T N, w ∈ x_T) (ty0 : Nat → FieldType) (hty : ∀ k, k < N → parseFieldDescriptor (T k).2.2.1 = some (ty0 k)) (hnm : ∀ a, a < N → ∀ b, b < N → a ≠ b → (T a).2.1 ≠ (T b).2.1) (k0 : Nat) (hk : k0 < N) (hlink : Cond.fieldLinkNest own idx (T k0).1 (T k0).2.1 (T k0).2.2.1 host ∈ x_nest) (hfin : (T k0).2.2.2 = false) (hd9 : parseFieldDescriptor (T k0).2.2.1 = some ty) (hn9 : narrow ty v = v) (hfit : fits ty v = true) (hl9 : k0 < fs.length) (hfs : fs.set k0 v = fs') (hd : decode cc pc = .ok (.putfield idx, 3)) (hp : pc + 3 = pc') (kk : XV G k kS pc' L st n (xu h a (.inr (ci, fs')))) : XV G k kS pc L (v :: .ref a :: st) n h := by
  obtain ⟨p, e, R, s, m, args, below, meth, c, ⟨l, D, cx, b⟩, H0, maxL, Q⟩ := G
  obtain ⟨⟨hx, hb, hml, hown, hts⟩, hK, rfl, hbs, rfl, rfl, hN⟩ := hF
  subst hp
  subst hfs
  intro H locs ls hok hS hl
  obtain ⟨ws, hP, hD, hn, hbn, hi⟩ := id hok
  obtain ⟨q0, hq⟩ := (hi a _).mp hh
  have hap := va_apart (own := own) hts hin ty0 hty hnm hK hc
  obtain ⟨r, h1, cell, q1, q2, q3, q4⟩ := hP q0 _ hq
  have hr : r = (C, T, N) := Option.some.inj (h1.symm.trans hc)
  subst hr
  obtain ⟨hS9, hfc, kC, hkC, hkind⟩ := hK.1 ci _ hc
  obtain ⟨cf, kf, fi, f, hi9, hsl⟩ := hS9 k0 hk
  have hlay := hts _ (hin _ (u_in_lay hk))
  unfold u_lay at hlay
  rw [if_neg (by rw [hfin]; decide)] at hlay
  have hst := (u_facts hfc hkC (u_lays hts hin hk) hi9).1
  have h6 := u_store hfc hkC hkind hlay hi9 hd9 hn9 hfit
  refine va_WputK hx hb (f := f) hown (va_Nw.use rfl (hN.1 _ hlink)) hi9 hst (by rw [q2]; exact h6) q1 q3 (by rw [hsl]; exact k2_hasslot (q4 k0 hk)) rfl rfl hd fun H' e1 e2 e3 => ?_
  rw [hsl] at e1 ⊢
  exact kk H' _ ls (xh_set hD hi hq (hP.set hD hq ⟨_, hc, t_OB.to (V := updV (vp_V fs) k0 v) ⟨_, e1, q2, q3, t_set q4 hap hk v⟩ (fun j _ => vp_updV_set hl9 v j)⟩ e3) (hD.set hq) (e2.trans hn) hbn) (hS.put e2 e3 (hD.2 q0 _ hq)) hl
theorem xv_putF {G : xG} {K : xK} {cc : ByteArray} {own : String} {rm0 : Room} {mL k kS pc pc' n : Nat} {L : List (Nat × Value)} {st : List Value} {h : xH} {C : String} {T : u_T} {N ci idx a : Nat} {fs fs' : List Value} {v : Value} {ty : FieldType} (hF : XF G K cc own rm0 mL) (hX : G.2.2.2.2.2.2.2.1.name = "<init>") (hh : h a = some (.inr (ci, fs))) (hc : x_cl[ci]? = some (C, T, N)) (hin : ∀ w ∈ u_ws C T N, w ∈ x_T) (ty0 : Nat → FieldType) (hty : ∀ k, k < N → parseFieldDescriptor (T k).2.2.1 = some (ty0 k)) (hnm : ∀ a, a < N → ∀ b, b < N → a ≠ b → (T a).2.1 ≠ (T b).2.1) (k0 : Nat) (hk : k0 < N) (hlink : Cond.fieldLink own idx (T k0).1 (T k0).2.1 (T k0).2.2.1 ∈ x_T) (hfin : (T k0).2.2.2 = true) (hdecl : (T k0).1 = own) (hd9 : parseFieldDescriptor (T k0).2.2.1 = some ty) (hn9 : narrow ty v = v) (hfit : fits ty v = true) (hl9 : k0 < fs.length) (hfs : fs.set k0 v = fs') (hd : decode cc pc = .ok (.putfield idx, 3)) (hp : pc + 3 = pc') (kk : XV G k kS pc' L st n (xu h a (.inr (ci, fs')))) : XV G k kS pc L (v :: .ref a :: st) n h := by
  obtain ⟨p, e, R, s, m, args, below, meth, c, ⟨l, D, cx, b⟩, H0, maxL, Q⟩ := G
  obtain ⟨⟨hx, hb, hml, hown, hts⟩, hK, rfl, hbs, rfl, rfl, hN⟩ := hF
  subst hp
  subst hfs
  intro H locs ls hok hS hl
  obtain ⟨ws, hP, hD, hn, hbn, hi⟩ := id hok
  obtain ⟨q0, hq⟩ := (hi a _).mp hh
  have hap := va_apart (own := own) hts hin ty0 hty hnm hK hc
  obtain ⟨r, h1, cell, q1, q2, q3, q4⟩ := hP q0 _ hq
  have hr : r = (C, T, N) := Option.some.inj (h1.symm.trans hc)
  subst hr
  obtain ⟨hS9, hfc, kC, hkC, hkind⟩ := hK.1 ci _ hc
  obtain ⟨cf, kf, fi, f, hi9, hsl⟩ := hS9 k0 hk
  have hlay := hts _ (hin _ (u_in_lay hk))
  unfold u_lay at hlay
  rw [if_pos hfin] at hlay
  have hst := (u_facts hfc hkC (u_lays hts hin hk) hi9).1
  have hcf : m.cls = cf := by
    obtain ⟨_, _, c', _, _, _, -, -, hf', -, -, -, hown2, -⟩ := Cond.laysFinal_spec hlay
    have e1 : c' = cf := by have := hi9.symm.trans hf'; simp at this; exact this.1.symm
    rw [hdecl] at hown2
    rw [← e1]; exact Option.some.inj (hown.symm.trans hown2)
  have h6 := u_fits hfc hkC hkind (Or.inr hlay) hi9 hd9 hn9 hfit
  refine W.putFinK hx hb hown (hts _ hlink) hi9 hst hcf hX (by rw [q2]; exact h6) q1 q3 (by rw [hsl]; exact k2_hasslot (q4 k0 hk)) rfl rfl hd fun H' e1 e2 e3 => ?_
  rw [hsl] at e1 ⊢
  exact kk H' _ ls (xh_set hD hi hq (hP.set hD hq ⟨_, hc, t_OB.to (V := updV (vp_V fs) k0 v) ⟨_, e1, q2, q3, t_set q4 hap hk v⟩ (fun j _ => vp_updV_set hl9 v j)⟩ e3) (hD.set hq) (e2.trans hn) hbn) (hS.put e2 e3 (hD.2 q0 _ hq)) hl
theorem xv_iald {G : xG} {K : xK} {cc : ByteArray} {own : String} {rm0 : Room} {mL k kS pc pc' n : Nat} {L : List (Nat × Value)} {st : List Value} {h : xH} {a N : Nat} {f : Nat → Int32} {i : Int32} (hF : XF G K cc own rm0 mL) (hh : h a = some (.inl (K.2.2.1 0, N, .inl f))) (hin : vp_in i N) (hd : decode cc pc = .ok (.iaload, 1)) (hp : pc + 1 = pc') (kk : XV G k kS pc' L (.int (f i.toNatClampNeg) :: st) n h) : XV G k kS pc L (.int i :: .ref a :: st) n h := by
  obtain ⟨p, e, R, s, m, args, below, meth, c, ⟨l, D, cx, b⟩, H0, maxL, Q⟩ := G
  obtain ⟨⟨hx, hb, hml, hown, hts⟩, hK, rfl, hbs, rfl, rfl, hN⟩ := hF
  subst hp
  intro H locs ls hok hS hl
  obtain ⟨ws, hP, hD, hn, hbn, hi⟩ := id hok
  obtain ⟨q0, hq⟩ := (hi a _).mp hh
  exact va_iald hx hb hK hP q0 0 hq rfl hin hd (kk H locs ls hok hS hl)
theorem xv_zald {G : xG} {K : xK} {cc : ByteArray} {own : String} {rm0 : Room} {mL k kS pc pc' n : Nat} {L : List (Nat × Value)} {st : List Value} {h : xH} {a N : Nat} {f : Nat → Int32} {i : Int32} (hF : XF G K cc own rm0 mL) (hh : h a = some (.inl (K.2.2.1 1, N, .inl f))) (hin : vp_in i N) (hd : decode cc pc = .ok (.baload, 1)) (hp : pc + 1 = pc') (kk : XV G k kS pc' L (.int (f i.toNatClampNeg) :: st) n h) : XV G k kS pc L (.int i :: .ref a :: st) n h := by
  obtain ⟨p, e, R, s, m, args, below, meth, c, ⟨l, D, cx, b⟩, H0, maxL, Q⟩ := G
  obtain ⟨⟨hx, hb, hml, hown, hts⟩, hK, rfl, hbs, rfl, rfl, hN⟩ := hF
  subst hp
  intro H locs ls hok hS hl
  obtain ⟨ws, hP, hD, hn, hbn, hi⟩ := id hok
  obtain ⟨q0, hq⟩ := (hi a _).mp hh
  exact va_zald hx hb hK hP q0 1 hq rfl hin hd (kk H locs ls hok hS hl)
theorem xv_lald {G : xG} {K : xK} {cc : ByteArray} {own : String} {rm0 : Room} {mL k kS pc pc' n : Nat} {L : List (Nat × Value)} {st : List Value} {h : xH} {a N : Nat} {f : Nat → Int64} {i : Int32} (hF : XF G K cc own rm0 mL) (hh : h a = some (.inl (K.2.2.1 2, N, .inr (.inl f)))) (hin : vp_in i N) (hd : decode cc pc = .ok (.laload, 1)) (hp : pc + 1 = pc') (kk : XV G k kS pc' L (.long (f i.toNatClampNeg) :: st) n h) : XV G k kS pc L (.int i :: .ref a :: st) n h := by
  obtain ⟨p, e, R, s, m, args, below, meth, c, ⟨l, D, cx, b⟩, H0, maxL, Q⟩ := G
  obtain ⟨⟨hx, hb, hml, hown, hts⟩, hK, rfl, hbs, rfl, rfl, hN⟩ := hF
  subst hp
  intro H locs ls hok hS hl
  obtain ⟨ws, hP, hD, hn, hbn, hi⟩ := id hok
  obtain ⟨q0, hq⟩ := (hi a _).mp hh
  exact va_lald hx hb hK hP q0 2 hq rfl hin hd (kk H locs ls hok hS hl)
theorem xv_aald {G : xG} {K : xK} {cc : ByteArray} {own : String} {rm0 : Room} {mL k kS pc pc' n : Nat} {L : List (Nat × Value)} {st : List Value} {h : xH} {a N : Nat} {C : String} {f : Nat → Option Nat} {i : Int32} (t : Nat) (hF : XF G K cc own rm0 mL) (hh : h a = some (.inl (K.2.2.1 t, N, .inr (.inr (.inr (.inr f)))))) (ht : (x_tys K.2.2.1)[t]? = some (K.2.2.1 t, .object C)) (hin : vp_in i N) (hd : decode cc pc = .ok (.aaload, 1)) (hp : pc + 1 = pc') (kk : XV G k kS pc' L (va_rf (f i.toNatClampNeg) :: st) n h) : XV G k kS pc L (.int i :: .ref a :: st) n h := by
  obtain ⟨p, e, R, s, m, args, below, meth, c, ⟨l, D, cx, b⟩, H0, maxL, Q⟩ := G
  obtain ⟨⟨hx, hb, hml, hown, hts⟩, hK, rfl, hbs, rfl, rfl, hN⟩ := hF
  subst hp
  intro H locs ls hok hS hl
  obtain ⟨ws, hP, hD, hn, hbn, hi⟩ := id hok
  obtain ⟨q0, hq⟩ := (hi a _).mp hh
  exact va_aldq hx hb hK hP q0 t hq ht hin hd (kk H locs ls hok hS hl)
theorem xv_alen {G : xG} {K : xK} {cc : ByteArray} {own : String} {rm0 : Room} {mL k kS pc pc' n : Nat} {L : List (Nat × Value)} {st : List Value} {h : xH} {a : Nat} {x : vp_A} {ty : FieldType} (t : Nat) {v : Int32} (hF : XF G K cc own rm0 mL) (hh : h a = some (.inl (K.2.2.1 t, x))) (ht : (x_tys K.2.2.1)[t]? = some (K.2.2.1 t, ty)) (hv : Int32.ofNat x.1 = v) (hd : decode cc pc = .ok (.arraylength, 1)) (hp : pc + 1 = pc') (kk : XV G k kS pc' L (.int v :: st) n h) : XV G k kS pc L (.ref a :: st) n h := by
  obtain ⟨p, e, R, s, m, args, below, meth, c, ⟨l, D, cx, b⟩, H0, maxL, Q⟩ := G
  obtain ⟨⟨hx, hb, hml, hown, hts⟩, hK, rfl, hbs, rfl, rfl, hN⟩ := hF
  subst hp
  intro H locs ls hok hS hl
  obtain ⟨ws, hP, hD, hn, hbn, hi⟩ := id hok
  obtain ⟨q0, hq⟩ := (hi a _).mp hh
  exact va_alen hx hb hK hP q0 t hq ht hv hd (kk H locs ls hok hS hl)
theorem xv_iast {G : xG} {K : xK} {cc : ByteArray} {own : String} {rm0 : Room} {mL k kS pc pc' n : Nat} {L : List (Nat × Value)} {st : List Value} {h : xH} {a N : Nat} {f : Nat → Int32} {i : Int32} {x : Int32} (hF : XF G K cc own rm0 mL) (hh : h a = some (.inl (K.2.2.1 0, N, .inl f))) (hin : vp_in i N) (hd : decode cc pc = .ok (.iastore, 1)) (hp : pc + 1 = pc') (kk : XV G k kS pc' L st n (xu h a (.inl (K.2.2.1 0, N, .inl (upd f i.toNatClampNeg x))))) : XV G k kS pc L (.int x :: .int i :: .ref a :: st) n h := by
  obtain ⟨p, e, R, s, m, args, below, meth, c, ⟨l, D, cx, b⟩, H0, maxL, Q⟩ := G
  obtain ⟨⟨hx, hb, hml, hown, hts⟩, hK, rfl, hbs, rfl, rfl, hN⟩ := hF
  subst hp
  intro H locs ls hok hS hl
  obtain ⟨ws, hP, hD, hn, hbn, hi⟩ := id hok
  obtain ⟨q0, hq⟩ := (hi a _).mp hh
  refine W.iast hx hb (hP q0 _ hq) ((hK.2 0 _ rfl).1 N (fun j => .int (f j))) (fun q => by cases q) (by show ¬ (i < 0 ∨ (arrV _ _ _).slots.size ≤ _); rw [arrV_size]; exact hin) rfl rfl hd fun H1 e9 z oq => ?_
  refine kk H1 _ ls (xh_set hD hi hq (hP.set hD hq ?_ oq) (hD.set hq) (z.trans hn) hbn) (hS.put z oq (hD.2 q0 _ hq)) hl
  show H1[a]? = some (vp_cell _ _)
  rw [e9]
  rw [vp_cell_i, vp_cell_i, arrV_store]
  congr 2
  funext q
  by_cases hq9 : q = i.toNatClampNeg
  · subst hq9
    simp [updV, upd]
  · simp [updV, upd, hq9]
theorem xv_zast {G : xG} {K : xK} {cc : ByteArray} {own : String} {rm0 : Room} {mL k kS pc pc' n : Nat} {L : List (Nat × Value)} {st : List Value} {h : xH} {a N : Nat} {f : Nat → Int32} {i : Int32} {x : Int32} (hF : XF G K cc own rm0 mL) (hh : h a = some (.inl (K.2.2.1 1, N, .inl f))) (hin : vp_in i N) (hd : decode cc pc = .ok (.bastore, 1)) (hp : pc + 1 = pc') (kk : XV G k kS pc' L st n (xu h a (.inl (K.2.2.1 1, N, .inl (upd f i.toNatClampNeg (vp_nar .boolean x)))))) : XV G k kS pc L (.int x :: .int i :: .ref a :: st) n h := by
  obtain ⟨p, e, R, s, m, args, below, meth, c, ⟨l, D, cx, b⟩, H0, maxL, Q⟩ := G
  obtain ⟨⟨hx, hb, hml, hown, hts⟩, hK, rfl, hbs, rfl, rfl, hN⟩ := hF
  subst hp
  intro H locs ls hok hS hl
  obtain ⟨ws, hP, hD, hn, hbn, hi⟩ := id hok
  obtain ⟨q0, hq⟩ := (hi a _).mp hh
  refine W.zast hx hb (hP q0 _ hq) ((hK.2 1 _ rfl).1 N (fun j => .int (f j))) (fun q => by cases q) (by show ¬ (i < 0 ∨ (arrV _ _ _).slots.size ≤ _); rw [arrV_size]; exact hin) rfl rfl hd fun H1 e9 z oq => ?_
  refine kk H1 _ ls (xh_set hD hi hq (hP.set hD hq ?_ oq) (hD.set hq) (z.trans hn) hbn) (hS.put z oq (hD.2 q0 _ hq)) hl
  show H1[a]? = some (vp_cell _ _)
  rw [e9]
  rw [vp_cell_i, vp_cell_i, arrV_store]
  congr 2
  funext q
  by_cases hq9 : q = i.toNatClampNeg
  · subst hq9
    simp [updV, upd, vp_nar]
    try rfl
  · simp [updV, upd, hq9]
theorem xv_last {G : xG} {K : xK} {cc : ByteArray} {own : String} {rm0 : Room} {mL k kS pc pc' n : Nat} {L : List (Nat × Value)} {st : List Value} {h : xH} {a N : Nat} {f : Nat → Int64} {i : Int32} {x : Int64} (hF : XF G K cc own rm0 mL) (hh : h a = some (.inl (K.2.2.1 2, N, .inr (.inl f)))) (hin : vp_in i N) (hd : decode cc pc = .ok (.lastore, 1)) (hp : pc + 1 = pc') (kk : XV G k kS pc' L st n (xu h a (.inl (K.2.2.1 2, N, .inr (.inl (vp_updL f i.toNatClampNeg x)))))) : XV G k kS pc L (.long x :: .int i :: .ref a :: st) n h := by
  obtain ⟨p, e, R, s, m, args, below, meth, c, ⟨l, D, cx, b⟩, H0, maxL, Q⟩ := G
  obtain ⟨⟨hx, hb, hml, hown, hts⟩, hK, rfl, hbs, rfl, rfl, hN⟩ := hF
  subst hp
  intro H locs ls hok hS hl
  obtain ⟨ws, hP, hD, hn, hbn, hi⟩ := id hok
  obtain ⟨q0, hq⟩ := (hi a _).mp hh
  refine W.last hx hb (hP q0 _ hq) ((hK.2 2 _ rfl).1 N (fun j => .long (f j))) (fun q => by cases q) (by show ¬ (i < 0 ∨ (arrV _ _ _).slots.size ≤ _); rw [arrV_size]; exact hin) rfl rfl hd fun H1 e9 z oq => ?_
  refine kk H1 _ ls (xh_set hD hi hq (hP.set hD hq ?_ oq) (hD.set hq) (z.trans hn) hbn) (hS.put z oq (hD.2 q0 _ hq)) hl
  show H1[a]? = some (vp_cell _ _)
  rw [e9]
  rw [vp_cell_l, vp_cell_l, arrV_store]
  congr 2
  funext q
  by_cases hq9 : q = i.toNatClampNeg
  · subst hq9
    simp [updV, vp_updL]
  · simp [updV, vp_updL, hq9]
theorem xv_aast {G : xG} {K : xK} {cc : ByteArray} {own : String} {rm0 : Room} {mL k kS pc pc' n : Nat} {L : List (Nat × Value)} {st : List Value} {h : xH} {a N v ci : Nat} {r : vw_C} {vs : List Value} {f : Nat → Option Nat} {i : Int32} (t : Nat) (hF : XF G K cc own rm0 mL) (hh : h a = some (.inl (K.2.2.1 t, N, .inr (.inr (.inr (.inr f)))))) (ht : (x_tys K.2.2.1)[t]? = some (K.2.2.1 t, .object r.1)) (hv : h v = some (.inr (ci, vs))) (hc : x_cl[ci]? = some r) (hin : vp_in i N) (hd : decode cc pc = .ok (.aastore, 1)) (hp : pc + 1 = pc') (kk : XV G k kS pc' L st n (xu h a (.inl (K.2.2.1 t, N, .inr (.inr (.inr (.inr (va_up f i.toNatClampNeg (some v))))))))) : XV G k kS pc L (.ref v :: .int i :: .ref a :: st) n h := by
  obtain ⟨p, e, R, s, m, args, below, meth, c, ⟨l, D, cx, b⟩, H0, maxL, Q⟩ := G
  obtain ⟨⟨hx, hb, hml, hown, hts⟩, hK, rfl, hbs, rfl, rfl, hN⟩ := hF
  subst hp
  intro H locs ls hok hS hl
  obtain ⟨ws, hP, hD, hn, hbn, hi⟩ := id hok
  obtain ⟨q0, hq⟩ := (hi a _).mp hh
  obtain ⟨qk, hqk⟩ := (hi v _).mp hv
  have hlt : i.toNatClampNeg < N := Nat.not_le.mp fun q => hin (Or.inr q)
  have h0 : ¬ i < 0 := fun q => hin (Or.inl q)
  obtain ⟨r', hr', cellV, g1, g2, g3, -⟩ := hP qk _ hqk
  have hcls := (hK.1 ci r hc).2
  obtain ⟨kA, comp, k1, k2, k3, -⟩ := (hK.2 t _ ht).2
  have hcomp : comp = D.1 ci := Option.some.inj (k3.symm.trans hcls.1)
  subst hcomp
  obtain ⟨kC, hkC, -⟩ := hcls.2
  refine W.aast hx hb (hP q0 _ hq) (fun q h => by cases h) (fun h => by cases h) k1 k2 rfl hkC ⟨h0, by show _ < (arrV _ _ _).slots.size; rw [arrV_size]; exact hlt⟩ g1 (fun q h => by rw [g3] at h; cases h) (by rw [g2]; exact hkC) (by rw [g2]; exact va_assign hcls) rfl rfl hd fun H1 e9 z oq => ?_
  refine kk H1 _ ls (xh_set hD hi hq (hP.set hD hq ?_ oq) (hD.set hq) (z.trans hn) hbn) (hS.put z oq (hD.2 q0 _ hq)) hl
  show H1[a]? = some (vp_cell _ _)
  rw [e9]
  rw [vp_cell_q, vp_cell_q, arrV_store]
  congr 2
  funext q
  by_cases hq9 : q = i.toNatClampNeg
  · subst hq9
    simp [updV, va_up, va_rf]
  · simp [updV, va_up, hq9]
theorem xv_new {G : xG} {K : xK} {cc : ByteArray} {own : String} {rm0 : Room} {mL k kS pc pc' n : Nat} {L : List (Nat × Value)} {st : List Value} {h : xH} {C : String} {T : u_T} {N ci idx : Nat} {fs : List Value} (hF : XF G K cc own rm0 mL) (hc : x_cl[ci]? = some (C, T, N)) (hin : ∀ w ∈ u_ws C T N, w ∈ x_T) (ty : Nat → FieldType) (hty : ∀ k, k < N → parseFieldDescriptor (T k).2.2.1 = some (ty k)) (hcl : Cond.classLink own idx C ∈ x_T) (hinst : Cond.instantiable C N ∈ x_T) (hini : Cond.initialized C ∈ x_T) (hfs : ∀ j, j < N → defaultValue (ty j) = vp_V fs j) (hcells : k + 1 ≤ rm0.cells) (hslots : kS + N ≤ rm0.slots) (hd : decode cc pc = .ok (.new idx, 3)) (hp : pc + 3 = pc') (kk : h n = none → XV G (k + 1) (kS + N) pc' L (.ref n :: st) (n + 1) (xu h n (.inr (ci, fs)))) : XV G k kS pc L st n h := by
  obtain ⟨p, e, R, s, m, args, below, meth, c, ⟨l, D, cx, b⟩, H0, maxL, Q⟩ := G
  obtain ⟨⟨hx, hb, hml, hown, hts⟩, hK, rfl, hbs, rfl, rfl, hN⟩ := hF
  subst hp
  intro H locs ls hok hS hl
  have hnw := xh_new hok
  have hKn := hK.1 ci _ hc
  have hz0 : H.size = n := hok.choose_spec.2.2.1
  refine W.newcK hx hb hown (hts _ hcl) (hts _ hinst) (hts _ hini) rfl hd hcells hslots hKn.2.1 hz0 fun H1 kC hkC e1 z1 o1 => ?_
  exact kk hnw H1 _ ls (xh_push hok z1 o1 ⟨_, hc, (u_born ty hts hin hKn hkC e1 hty).to hfs⟩) ⟨Nat.le_trans hS.1 (by omega), fun x h1 h2 => (o1 x (by have := hS.1; omega)).trans (hS.2.1 x h1 h2), hS.2.2⟩ hl
theorem xv_newa {G : xG} {K : xK} {cc : ByteArray} {own : String} {rm0 : Room} {mL k kS pc pc' n : Nat} {L : List (Nat × Value)} {st : List Value} {h : xH} {atype : ArrayType} {ty : FieldType} {N' : Nat} {i : Int32} {a0 : vp_A} (t : Nat) (hF : XF G K cc own rm0 mL) (harr : Cond.arrayClass (newarray.typeOf atype) ∈ x_T) (hty : newarray.typeOf atype = ty) (ht : (x_tys K.2.2.1)[t]? = some (K.2.2.1 t, ty)) (hprim : ∀ C, ty ≠ .object C) (ha : ∀ cA : ClassId, vp_cell cA a0 = arrV cA N' (fun _ => defaultValue ty)) (hn0 : ¬ i < 0) (hNn : i.toNatClampNeg = N') (hbytes : N' * componentBytes ty ≤ 536870912) (hcells : k + 1 ≤ rm0.cells) (hslots : kS + N' ≤ rm0.slots) (hd : decode cc pc = .ok (.newarray atype, 2)) (hp : pc + 2 = pc') (kk : h n = none → XV G (k + 1) (kS + N') pc' L (.ref n :: st) (n + 1) (xu h n (.inl (K.2.2.1 t, a0)))) : XV G k kS pc L (.int i :: st) n h := by
  obtain ⟨p, e, R, s, m, args, below, meth, c, ⟨l, D, cx, b⟩, H0, maxL, Q⟩ := G
  obtain ⟨⟨hx, hb, hml, hown, hts⟩, hK, rfl, hbs, rfl, rfl, hN⟩ := hF
  subst hp
  subst hty
  intro H locs ls hok hS hl
  have hnw := xh_new hok
  have hz0 : H.size = n := hok.choose_spec.2.2.1
  refine va_newaK hx hb (hts _ harr) rfl hd rfl hn0 hNn hbytes hcells hslots hz0 fun H1 cA e1 z1 o1 hAr hNm => ?_
  have hcA : cx t = cA := by
    have h1 := (hK.2 t _ ht).2
    have h2 : s.vm.findClass ("[" ++ (newarray.typeOf atype).toString) = some (cx t) := by
      cases hT : newarray.typeOf atype <;> (rw [hT] at h1; first | exact h1 | exact absurd hT (hprim _))
    exact Option.some.inj (h2.symm.trans hNm)
  subst hcA
  exact kk hnw H1 _ ls (xh_push hok z1 o1 (by show H1[n]? = some (vp_cell _ _); rw [ha]; exact e1)) ⟨Nat.le_trans hS.1 (by omega), fun x h1 h2 => (o1 x (by have := hS.1; omega)).trans (hS.2.1 x h1 h2), hS.2.2⟩ hl
theorem xv_newq {G : xG} {K : xK} {cc : ByteArray} {own : String} {rm0 : Room} {mL k kS pc pc' n : Nat} {L : List (Nat × Value)} {st : List Value} {h : xH} {C : String} {N' idx : Nat} {i : Int32} (t : Nat) (hF : XF G K cc own rm0 mL) (hcl : Cond.classLink own idx C ∈ x_T) (hao : ∀ U : State, x_N U → va_AO C U) (ht : (x_tys K.2.2.1)[t]? = some (K.2.2.1 t, .object C)) (hn0 : ¬ i < 0) (hNn : i.toNatClampNeg = N') (hbytes : N' * 4 ≤ 536870912) (hcells : k + 1 ≤ rm0.cells) (hslots : kS + N' ≤ rm0.slots) (hd : decode cc pc = .ok (.anewarray idx, 3)) (hp : pc + 3 = pc') (kk : h n = none → XV G (k + 1) (kS + N') pc' L (.ref n :: st) (n + 1) (xu h n (.inl (K.2.2.1 t, N', .inr (.inr (.inr (.inr (fun _ => none)))))))) : XV G k kS pc L (.int i :: st) n h := by
  obtain ⟨p, e, R, s, m, args, below, meth, c, ⟨l, D, cx, b⟩, H0, maxL, Q⟩ := G
  obtain ⟨⟨hx, hb, hml, hown, hts⟩, hK, rfl, hbs, rfl, rfl, hN⟩ := hF
  subst hp
  subst hNn
  intro H locs ls hok hS hl
  have hnw := xh_new hok
  have hz0 : H.size = n := hok.choose_spec.2.2.1
  refine W.anew hx hb hown (hts _ hcl) (va_AO.use (hao s hN)) rfl hd rfl hn0 hbytes hcells hslots fun cA kA comp f1 f2 f3 f4 => ?_
  have hcA : cx t = cA := by
    obtain ⟨_, _, _, _, _, h4⟩ := (hK.2 t _ ht).2
    exact Option.some.inj (h4.symm.trans f1)
  subst hcA
  generalize hH1 : H.push ({ cls := cx t, slots := Array.replicate i.toNatClampNeg .null, vm := .none } : Cell) = H1
  have z1 : H1.size = n + 1 := by rw [← hH1, Array.size_push, hz0]
  have e1 : H1[n]? = some (arrV (cx t) i.toNatClampNeg (fun _ => .null)) := by rw [← hH1, ← hz0, Array.getElem?_push_size, ← arrV_new]
  have o1 : ∀ q : Nat, q < n → H1[q]? = H[q]? := fun q hq => by rw [← hH1, Array.getElem?_push, if_neg (by omega)]
  rw [hz0]
  exact kk hnw H1 _ ls (xh_push hok z1 o1 (by show H1[n]? = some (vp_cell _ _); rw [vp_cell_q]; exact e1)) ⟨Nat.le_trans hS.1 (by omega), fun x h1 h2 => (o1 x (by have := hS.1; omega)).trans (hS.2.1 x h1 h2), hS.2.2⟩ hl
theorem x_after {p : Program} {l : Launch} {e : Env} {R : Room} {s : State} {m : MethodId} {args : Array Value} {below : List Frame} {meth : Method} {c : Code} {D : va_G} {cx : Nat → ClassId} {b : Nat} {H0 : Heap} {maxL : Nat} {Q : State → Prop} {H : Heap} {locs : List Loc} {k kS mc ms pc : Nat} {ls : Array Slot} {st0 rest : List Value} {post : Option Value → Nat → xH → Prop} {a : Array Value} {L : List (Nat × Value)}
    (hr : va_Run p l e R s m args below meth c H locs k kS mc ms (F0 m pc ls st0) rest (x_Q (l, D, cx, b) post a) (fun q => b ≤ q)) (hS : va_S (fun q => b ≤ q) H0 H locs) (hl : lv_has ls maxL L)
    (kk : ∀ v n' h', post v n' h' → XV (p, e, R, s, m, args, below, meth, c, (l, D, cx, b), H0, maxL, Q) (k + mc) (kS + ms) (pc + 3) L (v.toList ++ rest) n' h') : W p l e R s m args below meth c H locs k kS Q (F0 m pc ls st0) := by
  intro T hT X
  obtain ⟨v, st₀, t, T', L9, h0, X', hL, e1, e2, ⟨⟨v', n', h', hv, hp, hI⟩, hz, hk⟩, st⟩ := hr T hT X
  cases hv
  rw [h0] at hz hk
  obtain ⟨t2, a1, b1⟩ := kk v n' h' hp T'.heap (locs ++ L9) ls (by rw [e1]; exact hI.1)
    ⟨Nat.le_trans hS.1 (by rw [e1]; exact hz), fun q h1 h2 => by rw [e1, hk q (Nat.lt_of_lt_of_le h1 hS.1) h2]; exact hS.2.1 q h1 h2, fun q hq => by
      rcases List.mem_append.mp hq with h | h
      · exact hS.2.2 q h
      · exact hL q h⟩ hl T' rfl X'
  exact ⟨t2, st t2 a1, b1⟩
end
section
def xrm (d w mc ms : Nat) : Room := { frames := d, cells := mc, slots := ms, locals := w }
def x_cal (y : MethodName) (bytes : ByteArray) (mL' : Nat) (ret : Option FieldType) (nn : Nat) : Prop := Cond.code y bytes mL' ret ∈ x_T ∧ Cond.initialized y.cls ∈ x_T ∧ y.cls ≠ "java/lang/invoke/MethodHandle" ∧ y.cls ≠ "java/lang/invoke/VarHandle" ∧ (parseMethodDescriptor y.desc).map (fun d => d.parameters.length) = some nn
def x_pv (P : Nat → xH → Prop) : Option Value → Nat → xH → Prop := fun v n h => v = none ∧ P n h
def x_pi (P : Int32 → Nat → xH → Prop) : Option Value → Nat → xH → Prop := fun v n h => ∃ r, v = some (.int r) ∧ P r n h
def x_pr (P : Nat → Nat → xH → Prop) : Option Value → Nat → xH → Prop := fun v n h => ∃ r, v = some (.ref r) ∧ P r n h
theorem xv_callVv {G : xG} {K : xK} {cc : ByteArray} {own : String} {rm0 : Room} {mL k kS pc pc' n : Nat} {L : List (Nat × Value)} {st : List Value} {h : xH} {y : MethodName} {bytes : ByteArray} {mL' nn idx mc ms d' w' : Nat} {ret : Option FieldType} {As st0 : List Value} {a ci : Nat} {fs : List Value} {r0 : vw_C} {P : Nat → xH → Prop} (hF : XF G K cc own rm0 mL) (hM : XM K y (Cond.code y bytes mL' ret :: x_T) (xrm d' w' mc ms) (.ref a :: As) n h (x_pv P) mc ms) (hq : x_cal y bytes mL' ret nn) (hl9 : Cond.methodLink own idx y ∈ x_T) (hi9 : Cond.instanceMethod y ∈ x_T) (hs9 : Cond.selects r0.1 y y ∈ x_T) (ha : h a = some (.inr (ci, fs))) (hc : x_cl[ci]? = some r0) (hR : d' + 1 ≤ rm0.frames ∧ 8 + (mL' + 11) + w' ≤ rm0.locals) (hn : As.length = nn) (hst : st0 = As.reverse ++ .ref a :: st) (hw8 : (st.map fun v => v.category).sum ≤ 8) (hf : k + mc ≤ rm0.cells ∧ kS + ms ≤ rm0.slots) (hd : decode cc pc = .ok (.invokevirtual idx, 3)) (hp : pc + 3 = pc') (kk : ∀ n' h', P n' h' → XV G (k + mc) (kS + ms) pc' L st n' h') : XV G k kS pc L st0 n h := by
  obtain ⟨p, e, R, s, m, args, below, meth, c, ⟨l, D, cx, b⟩, H0, maxL, Q⟩ := G
  obtain ⟨⟨hx, hb, hml, hown, hts⟩, hK, rfl, hbs, rfl, rfl, hN⟩ := hF
  subst hp
  subst hst
  obtain ⟨q1, q2, q3, q4, q5⟩ := hq
  intro H locs ls hok hS hl
  exact x_after (va_runV (C := r0.1) (n := nn) ⟨hx, hb, hml, hown, hts⟩ hM ⟨callB_of nn hts (x_good q1) rfl rfl rfl (hts _ q2) (hts _ hl9) ⟨q3, q4, q5⟩ hR, hts _ hi9, hts _ hs9⟩ ⟨x_blind, (by obtain ⟨ws, hP, hD, hn0, hbn, hi0⟩ := id hok; obtain ⟨q0, hq0⟩ := (hi0 a _).mp ha; exact va_recv hK hP hc hq0), fun U hU hW => ⟨rfl, by rw [hU]; exact hok, va_K.moved hW.alike hK, x_N.warm hW hN⟩⟩ rfl hn hl.1 rfl (lv_room hw8) hd hf) hS hl (fun v n' h' q => by obtain ⟨rfl, q⟩ := q; exact kk n' h' q)
theorem xv_callVi {G : xG} {K : xK} {cc : ByteArray} {own : String} {rm0 : Room} {mL k kS pc pc' n : Nat} {L : List (Nat × Value)} {st : List Value} {h : xH} {y : MethodName} {bytes : ByteArray} {mL' nn idx mc ms d' w' : Nat} {ret : Option FieldType} {As st0 : List Value} {a ci : Nat} {fs : List Value} {r0 : vw_C} {P : Int32 → Nat → xH → Prop} (hF : XF G K cc own rm0 mL) (hM : XM K y (Cond.code y bytes mL' ret :: x_T) (xrm d' w' mc ms) (.ref a :: As) n h (x_pi P) mc ms) (hq : x_cal y bytes mL' ret nn) (hl9 : Cond.methodLink own idx y ∈ x_T) (hi9 : Cond.instanceMethod y ∈ x_T) (hs9 : Cond.selects r0.1 y y ∈ x_T) (ha : h a = some (.inr (ci, fs))) (hc : x_cl[ci]? = some r0) (hR : d' + 1 ≤ rm0.frames ∧ 8 + (mL' + 11) + w' ≤ rm0.locals) (hn : As.length = nn) (hst : st0 = As.reverse ++ .ref a :: st) (hw8 : (st.map fun v => v.category).sum ≤ 8) (hf : k + mc ≤ rm0.cells ∧ kS + ms ≤ rm0.slots) (hd : decode cc pc = .ok (.invokevirtual idx, 3)) (hp : pc + 3 = pc') (kk : ∀ r n' h', P r n' h' → XV G (k + mc) (kS + ms) pc' L (.int r :: st) n' h') : XV G k kS pc L st0 n h := by
  obtain ⟨p, e, R, s, m, args, below, meth, c, ⟨l, D, cx, b⟩, H0, maxL, Q⟩ := G
  obtain ⟨⟨hx, hb, hml, hown, hts⟩, hK, rfl, hbs, rfl, rfl, hN⟩ := hF
  subst hp
  subst hst
  obtain ⟨q1, q2, q3, q4, q5⟩ := hq
  intro H locs ls hok hS hl
  exact x_after (va_runV (C := r0.1) (n := nn) ⟨hx, hb, hml, hown, hts⟩ hM ⟨callB_of nn hts (x_good q1) rfl rfl rfl (hts _ q2) (hts _ hl9) ⟨q3, q4, q5⟩ hR, hts _ hi9, hts _ hs9⟩ ⟨x_blind, (by obtain ⟨ws, hP, hD, hn0, hbn, hi0⟩ := id hok; obtain ⟨q0, hq0⟩ := (hi0 a _).mp ha; exact va_recv hK hP hc hq0), fun U hU hW => ⟨rfl, by rw [hU]; exact hok, va_K.moved hW.alike hK, x_N.warm hW hN⟩⟩ rfl hn hl.1 rfl (lv_room hw8) hd hf) hS hl (fun v n' h' q => by obtain ⟨r, rfl, q⟩ := q; exact kk r n' h' q)
theorem xv_callVr {G : xG} {K : xK} {cc : ByteArray} {own : String} {rm0 : Room} {mL k kS pc pc' n : Nat} {L : List (Nat × Value)} {st : List Value} {h : xH} {y : MethodName} {bytes : ByteArray} {mL' nn idx mc ms d' w' : Nat} {ret : Option FieldType} {As st0 : List Value} {a ci : Nat} {fs : List Value} {r0 : vw_C} {P : Nat → Nat → xH → Prop} (hF : XF G K cc own rm0 mL) (hM : XM K y (Cond.code y bytes mL' ret :: x_T) (xrm d' w' mc ms) (.ref a :: As) n h (x_pr P) mc ms) (hq : x_cal y bytes mL' ret nn) (hl9 : Cond.methodLink own idx y ∈ x_T) (hi9 : Cond.instanceMethod y ∈ x_T) (hs9 : Cond.selects r0.1 y y ∈ x_T) (ha : h a = some (.inr (ci, fs))) (hc : x_cl[ci]? = some r0) (hR : d' + 1 ≤ rm0.frames ∧ 8 + (mL' + 11) + w' ≤ rm0.locals) (hn : As.length = nn) (hst : st0 = As.reverse ++ .ref a :: st) (hw8 : (st.map fun v => v.category).sum ≤ 8) (hf : k + mc ≤ rm0.cells ∧ kS + ms ≤ rm0.slots) (hd : decode cc pc = .ok (.invokevirtual idx, 3)) (hp : pc + 3 = pc') (kk : ∀ r n' h', P r n' h' → XV G (k + mc) (kS + ms) pc' L (.ref r :: st) n' h') : XV G k kS pc L st0 n h := by
  obtain ⟨p, e, R, s, m, args, below, meth, c, ⟨l, D, cx, b⟩, H0, maxL, Q⟩ := G
  obtain ⟨⟨hx, hb, hml, hown, hts⟩, hK, rfl, hbs, rfl, rfl, hN⟩ := hF
  subst hp
  subst hst
  obtain ⟨q1, q2, q3, q4, q5⟩ := hq
  intro H locs ls hok hS hl
  exact x_after (va_runV (C := r0.1) (n := nn) ⟨hx, hb, hml, hown, hts⟩ hM ⟨callB_of nn hts (x_good q1) rfl rfl rfl (hts _ q2) (hts _ hl9) ⟨q3, q4, q5⟩ hR, hts _ hi9, hts _ hs9⟩ ⟨x_blind, (by obtain ⟨ws, hP, hD, hn0, hbn, hi0⟩ := id hok; obtain ⟨q0, hq0⟩ := (hi0 a _).mp ha; exact va_recv hK hP hc hq0), fun U hU hW => ⟨rfl, by rw [hU]; exact hok, va_K.moved hW.alike hK, x_N.warm hW hN⟩⟩ rfl hn hl.1 rfl (lv_room hw8) hd hf) hS hl (fun v n' h' q => by obtain ⟨r, rfl, q⟩ := q; exact kk r n' h' q)
theorem xv_callSv {G : xG} {K : xK} {cc : ByteArray} {own : String} {rm0 : Room} {mL k kS pc pc' n : Nat} {L : List (Nat × Value)} {st : List Value} {h : xH} {y : MethodName} {bytes : ByteArray} {mL' nn idx mc ms d' w' : Nat} {ret : Option FieldType} {As st0 : List Value}  {P : Nat → xH → Prop} (hF : XF G K cc own rm0 mL) (hM : XM K y (Cond.code y bytes mL' ret :: x_T) (xrm d' w' mc ms) (As) n h (x_pv P) mc ms) (hq : x_cal y bytes mL' ret nn) (hl9 : Cond.methodLink own idx y ∈ x_T) (hi9 : Cond.static y ∈ x_T) (hR : d' + 1 ≤ rm0.frames ∧ 8 + (mL' + 11) + w' ≤ rm0.locals) (hn : As.length = nn) (hst : st0 = As.reverse ++ st) (hw8 : (st.map fun v => v.category).sum ≤ 8) (hf : k + mc ≤ rm0.cells ∧ kS + ms ≤ rm0.slots) (hd : decode cc pc = .ok (.invokestatic idx, 3)) (hp : pc + 3 = pc') (kk : ∀ n' h', P n' h' → XV G (k + mc) (kS + ms) pc' L st n' h') : XV G k kS pc L st0 n h := by
  obtain ⟨p, e, R, s, m, args, below, meth, c, ⟨l, D, cx, b⟩, H0, maxL, Q⟩ := G
  obtain ⟨⟨hx, hb, hml, hown, hts⟩, hK, rfl, hbs, rfl, rfl, hN⟩ := hF
  subst hp
  subst hst
  obtain ⟨q1, q2, q3, q4, q5⟩ := hq
  intro H locs ls hok hS hl
  exact x_after (va_runS (n := nn) ⟨hx, hb, hml, hown, hts⟩ hM ⟨callB_of nn hts (x_good q1) rfl rfl rfl (hts _ q2) (hts _ hl9) ⟨q3, q4, q5⟩ hR, hts _ hi9⟩ ⟨x_blind, fun U hU hW => ⟨rfl, by rw [hU]; exact hok, va_K.moved hW.alike hK, x_N.warm hW hN⟩⟩ rfl hn hl.1 rfl (lv_room hw8) hd hf) hS hl (fun v n' h' q => by obtain ⟨rfl, q⟩ := q; exact kk n' h' q)
theorem xv_callSi {G : xG} {K : xK} {cc : ByteArray} {own : String} {rm0 : Room} {mL k kS pc pc' n : Nat} {L : List (Nat × Value)} {st : List Value} {h : xH} {y : MethodName} {bytes : ByteArray} {mL' nn idx mc ms d' w' : Nat} {ret : Option FieldType} {As st0 : List Value}  {P : Int32 → Nat → xH → Prop} (hF : XF G K cc own rm0 mL) (hM : XM K y (Cond.code y bytes mL' ret :: x_T) (xrm d' w' mc ms) (As) n h (x_pi P) mc ms) (hq : x_cal y bytes mL' ret nn) (hl9 : Cond.methodLink own idx y ∈ x_T) (hi9 : Cond.static y ∈ x_T) (hR : d' + 1 ≤ rm0.frames ∧ 8 + (mL' + 11) + w' ≤ rm0.locals) (hn : As.length = nn) (hst : st0 = As.reverse ++ st) (hw8 : (st.map fun v => v.category).sum ≤ 8) (hf : k + mc ≤ rm0.cells ∧ kS + ms ≤ rm0.slots) (hd : decode cc pc = .ok (.invokestatic idx, 3)) (hp : pc + 3 = pc') (kk : ∀ r n' h', P r n' h' → XV G (k + mc) (kS + ms) pc' L (.int r :: st) n' h') : XV G k kS pc L st0 n h := by
  obtain ⟨p, e, R, s, m, args, below, meth, c, ⟨l, D, cx, b⟩, H0, maxL, Q⟩ := G
  obtain ⟨⟨hx, hb, hml, hown, hts⟩, hK, rfl, hbs, rfl, rfl, hN⟩ := hF
  subst hp
  subst hst
  obtain ⟨q1, q2, q3, q4, q5⟩ := hq
  intro H locs ls hok hS hl
  exact x_after (va_runS (n := nn) ⟨hx, hb, hml, hown, hts⟩ hM ⟨callB_of nn hts (x_good q1) rfl rfl rfl (hts _ q2) (hts _ hl9) ⟨q3, q4, q5⟩ hR, hts _ hi9⟩ ⟨x_blind, fun U hU hW => ⟨rfl, by rw [hU]; exact hok, va_K.moved hW.alike hK, x_N.warm hW hN⟩⟩ rfl hn hl.1 rfl (lv_room hw8) hd hf) hS hl (fun v n' h' q => by obtain ⟨r, rfl, q⟩ := q; exact kk r n' h' q)
theorem xv_callSr {G : xG} {K : xK} {cc : ByteArray} {own : String} {rm0 : Room} {mL k kS pc pc' n : Nat} {L : List (Nat × Value)} {st : List Value} {h : xH} {y : MethodName} {bytes : ByteArray} {mL' nn idx mc ms d' w' : Nat} {ret : Option FieldType} {As st0 : List Value}  {P : Nat → Nat → xH → Prop} (hF : XF G K cc own rm0 mL) (hM : XM K y (Cond.code y bytes mL' ret :: x_T) (xrm d' w' mc ms) (As) n h (x_pr P) mc ms) (hq : x_cal y bytes mL' ret nn) (hl9 : Cond.methodLink own idx y ∈ x_T) (hi9 : Cond.static y ∈ x_T) (hR : d' + 1 ≤ rm0.frames ∧ 8 + (mL' + 11) + w' ≤ rm0.locals) (hn : As.length = nn) (hst : st0 = As.reverse ++ st) (hw8 : (st.map fun v => v.category).sum ≤ 8) (hf : k + mc ≤ rm0.cells ∧ kS + ms ≤ rm0.slots) (hd : decode cc pc = .ok (.invokestatic idx, 3)) (hp : pc + 3 = pc') (kk : ∀ r n' h', P r n' h' → XV G (k + mc) (kS + ms) pc' L (.ref r :: st) n' h') : XV G k kS pc L st0 n h := by
  obtain ⟨p, e, R, s, m, args, below, meth, c, ⟨l, D, cx, b⟩, H0, maxL, Q⟩ := G
  obtain ⟨⟨hx, hb, hml, hown, hts⟩, hK, rfl, hbs, rfl, rfl, hN⟩ := hF
  subst hp
  subst hst
  obtain ⟨q1, q2, q3, q4, q5⟩ := hq
  intro H locs ls hok hS hl
  exact x_after (va_runS (n := nn) ⟨hx, hb, hml, hown, hts⟩ hM ⟨callB_of nn hts (x_good q1) rfl rfl rfl (hts _ q2) (hts _ hl9) ⟨q3, q4, q5⟩ hR, hts _ hi9⟩ ⟨x_blind, fun U hU hW => ⟨rfl, by rw [hU]; exact hok, va_K.moved hW.alike hK, x_N.warm hW hN⟩⟩ rfl hn hl.1 rfl (lv_room hw8) hd hf) hS hl (fun v n' h' q => by obtain ⟨r, rfl, q⟩ := q; exact kk r n' h' q)
theorem xv_callSNv {G : xG} {K : xK} {cc : ByteArray} {own : String} {rm0 : Room} {mL k kS pc pc' n : Nat} {L : List (Nat × Value)} {st : List Value} {h : xH} {y : MethodName} {bytes : ByteArray} {mL' nn idx mc ms d' w' : Nat} {ret : Option FieldType} {As st0 : List Value} {host : String} {P : Nat → xH → Prop} (hF : XF G K cc own rm0 mL) (hM : XM K y (Cond.code y bytes mL' ret :: x_T) (xrm d' w' mc ms) (As) n h (x_pv P) mc ms) (hq : x_cal y bytes mL' ret nn) (hl9 : Cond.methodLinkNest own idx y host ∈ x_nest) (hi9 : Cond.static y ∈ x_T) (hR : d' + 1 ≤ rm0.frames ∧ 8 + (mL' + 11) + w' ≤ rm0.locals) (hn : As.length = nn) (hst : st0 = As.reverse ++ st) (hw8 : (st.map fun v => v.category).sum ≤ 8) (hf : k + mc ≤ rm0.cells ∧ kS + ms ≤ rm0.slots) (hd : decode cc pc = .ok (.invokestatic idx, 3)) (hp : pc + 3 = pc') (kk : ∀ n' h', P n' h' → XV G (k + mc) (kS + ms) pc' L st n' h') : XV G k kS pc L st0 n h := by
  obtain ⟨p, e, R, s, m, args, below, meth, c, ⟨l, D, cx, b⟩, H0, maxL, Q⟩ := G
  obtain ⟨⟨hx, hb, hml, hown, hts⟩, hK, rfl, hbs, rfl, rfl, hN⟩ := hF
  subst hp
  subst hst
  obtain ⟨q1, q2, q3, q4, q5⟩ := hq
  intro H locs ls hok hS hl
  exact x_after (va_runSN (n := nn) ⟨hx, hb, hml, hown, hts⟩ hM ⟨va_cnB nn hts (x_good q1) rfl rfl rfl (hN.1 _ hl9) (hts _ q2) ⟨q3, q4, q5⟩ hR, hts _ hi9, trivial⟩ ⟨x_blind, fun U hU hW => ⟨rfl, by rw [hU]; exact hok, va_K.moved hW.alike hK, x_N.warm hW hN⟩⟩ rfl hn hl.1 rfl (lv_room hw8) hd hf) hS hl (fun v n' h' q => by obtain ⟨rfl, q⟩ := q; exact kk n' h' q)
theorem xv_callSNi {G : xG} {K : xK} {cc : ByteArray} {own : String} {rm0 : Room} {mL k kS pc pc' n : Nat} {L : List (Nat × Value)} {st : List Value} {h : xH} {y : MethodName} {bytes : ByteArray} {mL' nn idx mc ms d' w' : Nat} {ret : Option FieldType} {As st0 : List Value} {host : String} {P : Int32 → Nat → xH → Prop} (hF : XF G K cc own rm0 mL) (hM : XM K y (Cond.code y bytes mL' ret :: x_T) (xrm d' w' mc ms) (As) n h (x_pi P) mc ms) (hq : x_cal y bytes mL' ret nn) (hl9 : Cond.methodLinkNest own idx y host ∈ x_nest) (hi9 : Cond.static y ∈ x_T) (hR : d' + 1 ≤ rm0.frames ∧ 8 + (mL' + 11) + w' ≤ rm0.locals) (hn : As.length = nn) (hst : st0 = As.reverse ++ st) (hw8 : (st.map fun v => v.category).sum ≤ 8) (hf : k + mc ≤ rm0.cells ∧ kS + ms ≤ rm0.slots) (hd : decode cc pc = .ok (.invokestatic idx, 3)) (hp : pc + 3 = pc') (kk : ∀ r n' h', P r n' h' → XV G (k + mc) (kS + ms) pc' L (.int r :: st) n' h') : XV G k kS pc L st0 n h := by
  obtain ⟨p, e, R, s, m, args, below, meth, c, ⟨l, D, cx, b⟩, H0, maxL, Q⟩ := G
  obtain ⟨⟨hx, hb, hml, hown, hts⟩, hK, rfl, hbs, rfl, rfl, hN⟩ := hF
  subst hp
  subst hst
  obtain ⟨q1, q2, q3, q4, q5⟩ := hq
  intro H locs ls hok hS hl
  exact x_after (va_runSN (n := nn) ⟨hx, hb, hml, hown, hts⟩ hM ⟨va_cnB nn hts (x_good q1) rfl rfl rfl (hN.1 _ hl9) (hts _ q2) ⟨q3, q4, q5⟩ hR, hts _ hi9, trivial⟩ ⟨x_blind, fun U hU hW => ⟨rfl, by rw [hU]; exact hok, va_K.moved hW.alike hK, x_N.warm hW hN⟩⟩ rfl hn hl.1 rfl (lv_room hw8) hd hf) hS hl (fun v n' h' q => by obtain ⟨r, rfl, q⟩ := q; exact kk r n' h' q)
theorem xv_callSNr {G : xG} {K : xK} {cc : ByteArray} {own : String} {rm0 : Room} {mL k kS pc pc' n : Nat} {L : List (Nat × Value)} {st : List Value} {h : xH} {y : MethodName} {bytes : ByteArray} {mL' nn idx mc ms d' w' : Nat} {ret : Option FieldType} {As st0 : List Value} {host : String} {P : Nat → Nat → xH → Prop} (hF : XF G K cc own rm0 mL) (hM : XM K y (Cond.code y bytes mL' ret :: x_T) (xrm d' w' mc ms) (As) n h (x_pr P) mc ms) (hq : x_cal y bytes mL' ret nn) (hl9 : Cond.methodLinkNest own idx y host ∈ x_nest) (hi9 : Cond.static y ∈ x_T) (hR : d' + 1 ≤ rm0.frames ∧ 8 + (mL' + 11) + w' ≤ rm0.locals) (hn : As.length = nn) (hst : st0 = As.reverse ++ st) (hw8 : (st.map fun v => v.category).sum ≤ 8) (hf : k + mc ≤ rm0.cells ∧ kS + ms ≤ rm0.slots) (hd : decode cc pc = .ok (.invokestatic idx, 3)) (hp : pc + 3 = pc') (kk : ∀ r n' h', P r n' h' → XV G (k + mc) (kS + ms) pc' L (.ref r :: st) n' h') : XV G k kS pc L st0 n h := by
  obtain ⟨p, e, R, s, m, args, below, meth, c, ⟨l, D, cx, b⟩, H0, maxL, Q⟩ := G
  obtain ⟨⟨hx, hb, hml, hown, hts⟩, hK, rfl, hbs, rfl, rfl, hN⟩ := hF
  subst hp
  subst hst
  obtain ⟨q1, q2, q3, q4, q5⟩ := hq
  intro H locs ls hok hS hl
  exact x_after (va_runSN (n := nn) ⟨hx, hb, hml, hown, hts⟩ hM ⟨va_cnB nn hts (x_good q1) rfl rfl rfl (hN.1 _ hl9) (hts _ q2) ⟨q3, q4, q5⟩ hR, hts _ hi9, trivial⟩ ⟨x_blind, fun U hU hW => ⟨rfl, by rw [hU]; exact hok, va_K.moved hW.alike hK, x_N.warm hW hN⟩⟩ rfl hn hl.1 rfl (lv_room hw8) hd hf) hS hl (fun v n' h' q => by obtain ⟨r, rfl, q⟩ := q; exact kk r n' h' q)
theorem xv_callIv {G : xG} {K : xK} {cc : ByteArray} {own : String} {rm0 : Room} {mL k kS pc pc' n : Nat} {L : List (Nat × Value)} {st : List Value} {h : xH} {y : MethodName} {bytes : ByteArray} {mL' nn idx mc ms d' w' : Nat} {As st0 : List Value} {a : Nat} {P : Nat → xH → Prop} (hF : XF G K cc own rm0 mL) (hM : XM K y (Cond.code y bytes mL' none :: x_T) (xrm d' w' mc ms) (.ref a :: As) n h (x_pv P) mc ms) (hq : x_cal y bytes mL' none nn) (hl9 : Cond.methodLink own idx y ∈ x_T) (hi9 : Cond.instanceMethod y ∈ x_T) (hy : y.name = "<init>") (hR : d' + 1 ≤ rm0.frames ∧ 8 + (mL' + 11) + w' ≤ rm0.locals) (hn : As.length = nn) (hst : st0 = As.reverse ++ .ref a :: st) (hw8 : (st.map fun v => v.category).sum ≤ 8) (hf : k + mc ≤ rm0.cells ∧ kS + ms ≤ rm0.slots) (hd : decode cc pc = .ok (.invokespecial idx, 3)) (hp : pc + 3 = pc') (kk : ∀ n' h', P n' h' → XV G (k + mc) (kS + ms) pc' L st n' h') : XV G k kS pc L st0 n h := by
  obtain ⟨p, e, R, s, m, args, below, meth, c, ⟨l, D, cx, b⟩, H0, maxL, Q⟩ := G
  obtain ⟨⟨hx, hb, hml, hown, hts⟩, hK, rfl, hbs, rfl, rfl, hN⟩ := hF
  subst hp
  subst hst
  obtain ⟨q1, q2, q3, q4, q5⟩ := hq
  intro H locs ls hok hS hl
  exact x_after (va_runI (n := nn) (b := a) ⟨hx, hb, hml, hown, hts⟩ hM ⟨callB_of nn hts (x_good q1) rfl rfl rfl (hts _ q2) (hts _ hl9) ⟨q3, q4, q5⟩ hR, hy, hts _ hi9⟩ ⟨x_blind, fun U hU hW => ⟨rfl, by rw [hU]; exact hok, va_K.moved hW.alike hK, x_N.warm hW hN⟩⟩ rfl hn hl.1 rfl (lv_room hw8) hd hf) hS hl (fun v n' h' q => by obtain ⟨rfl, q⟩ := q; exact kk n' h' q)
theorem xv_callINv {G : xG} {K : xK} {cc : ByteArray} {own : String} {rm0 : Room} {mL k kS pc pc' n : Nat} {L : List (Nat × Value)} {st : List Value} {h : xH} {y : MethodName} {bytes : ByteArray} {mL' nn idx mc ms d' w' : Nat} {As st0 : List Value} {a : Nat} {host : String} {P : Nat → xH → Prop} (hF : XF G K cc own rm0 mL) (hM : XM K y (Cond.code y bytes mL' none :: x_T) (xrm d' w' mc ms) (.ref a :: As) n h (x_pv P) mc ms) (hq : x_cal y bytes mL' none nn) (hl9 : Cond.methodLinkNest own idx y host ∈ x_nest) (hi9 : Cond.instanceMethod y ∈ x_T) (hy : y.name = "<init>") (hR : d' + 1 ≤ rm0.frames ∧ 8 + (mL' + 11) + w' ≤ rm0.locals) (hn : As.length = nn) (hst : st0 = As.reverse ++ .ref a :: st) (hw8 : (st.map fun v => v.category).sum ≤ 8) (hf : k + mc ≤ rm0.cells ∧ kS + ms ≤ rm0.slots) (hd : decode cc pc = .ok (.invokespecial idx, 3)) (hp : pc + 3 = pc') (kk : ∀ n' h', P n' h' → XV G (k + mc) (kS + ms) pc' L st n' h') : XV G k kS pc L st0 n h := by
  obtain ⟨p, e, R, s, m, args, below, meth, c, ⟨l, D, cx, b⟩, H0, maxL, Q⟩ := G
  obtain ⟨⟨hx, hb, hml, hown, hts⟩, hK, rfl, hbs, rfl, rfl, hN⟩ := hF
  subst hp
  subst hst
  obtain ⟨q1, q2, q3, q4, q5⟩ := hq
  intro H locs ls hok hS hl
  exact x_after (va_runIN (n := nn) (b := a) ⟨hx, hb, hml, hown, hts⟩ hM ⟨va_cnB nn hts (x_good q1) rfl rfl rfl (hN.1 _ hl9) (hts _ q2) ⟨q3, q4, q5⟩ hR, hy, hts _ hi9⟩ ⟨x_blind, fun U hU hW => ⟨rfl, by rw [hU]; exact hok, va_K.moved hW.alike hK, x_N.warm hW hN⟩⟩ rfl hn hl.1 rfl (lv_room hw8) hd hf) hS hl (fun v n' h' q => by obtain ⟨rfl, q⟩ := q; exact kk n' h' q)
theorem xv_obj {G : xG} {K : xK} {cc : ByteArray} {own : String} {rm0 : Room} {mL k kS pc pc' n : Nat} {L : List (Nat × Value)} {st : List Value} {h : xH} {idx a : Nat} (hF : XF G K cc own rm0 mL) (hl9 : Cond.methodLink own idx objectInit ∈ x_T) (hi9 : Cond.instanceMethod objectInit ∈ x_T) (hc9 : Cond.code objectInit ⟨#[0xb1]⟩ 1 none ∈ x_T) (hd : decode cc pc = .ok (.invokespecial idx, 3)) (hfr : 1 ≤ rm0.frames) (hlo : (st.map fun v => v.category).sum + 12 ≤ rm0.locals) (hp : pc + 3 = pc') (kk : XV G k kS pc' L st n h) : XV G k kS pc L (.ref a :: st) n h := by
  obtain ⟨p, e, R, s, m, args, below, meth, c, ⟨l, D, cx, b⟩, H0, maxL, Q⟩ := G
  obtain ⟨⟨hx, hb, hml, hown, hts⟩, hK, rfl, hbs, rfl, rfl, hN⟩ := hF
  subst hp
  intro H locs ls hok hS hl
  exact W.objInit hx hb hown (hts _ hl9) (hts _ hi9) (hts _ hc9) rfl (by rw [hml]; exact hl.1) rfl hd hfr (by show 2 * 0 + _ + 12 ≤ _; omega) (kk H locs ls hok hS hl)
theorem xv_mmax {G : xG} {K : xK} {cc : ByteArray} {own : String} {rm0 : Room} {mL k kS pc pc' n : Nat} {L : List (Nat × Value)} {st : List Value} {h : xH} {idx : Nat} {x y : Int32} (hF : XF G K cc own rm0 mL) (hl9 : Cond.methodLink own idx Lib.Math.max.name ∈ x_T) (hs9 : Cond.static Lib.Math.max.name ∈ x_T) (hi9 : Cond.initialized "java/lang/Math" ∈ x_T) (hc9 : Cond.code Lib.Math.max.name Lib.Math.max.code 2 (some .int) ∈ x_T) (hfr : 1 ≤ rm0.frames) (hlo : (st.map fun v => v.category).sum + 13 ≤ rm0.locals) (hk : k ≤ rm0.cells) (hkS : kS ≤ rm0.slots) (hd : decode cc pc = .ok (.invokestatic idx, 3)) (hp : pc + 3 = pc') (kk : XV G k kS pc' L (.int (if x < y then y else x) :: st) n h) : XV G k kS pc L (.int y :: .int x :: st) n h := by
  obtain ⟨p, e, R, s, m, args, below, meth, c, ⟨l, D, cx, b⟩, H0, maxL, Q⟩ := G
  obtain ⟨⟨hx, hb, hml, hown, hts⟩, hK, rfl, hbs, rfl, rfl, hN⟩ := hF
  subst hp
  intro H locs ls hok hS hl
  exact va_mmax hx hb (hml.trans hl.1.symm) hown (hts _ hl9) (hts _ hs9) (hts _ hi9) (hts _ hc9) hfr hlo hk hkS hd (kk H locs ls hok hS hl)
theorem xv_mmin {G : xG} {K : xK} {cc : ByteArray} {own : String} {rm0 : Room} {mL k kS pc pc' n : Nat} {L : List (Nat × Value)} {st : List Value} {h : xH} {idx : Nat} {x y : Int32} (hF : XF G K cc own rm0 mL) (hl9 : Cond.methodLink own idx Lib.Math.min.name ∈ x_T) (hs9 : Cond.static Lib.Math.min.name ∈ x_T) (hi9 : Cond.initialized "java/lang/Math" ∈ x_T) (hc9 : Cond.code Lib.Math.min.name Lib.Math.min.code 2 (some .int) ∈ x_T) (hfr : 1 ≤ rm0.frames) (hlo : (st.map fun v => v.category).sum + 13 ≤ rm0.locals) (hk : k ≤ rm0.cells) (hkS : kS ≤ rm0.slots) (hd : decode cc pc = .ok (.invokestatic idx, 3)) (hp : pc + 3 = pc') (kk : XV G k kS pc' L (.int (if y < x then y else x) :: st) n h) : XV G k kS pc L (.int y :: .int x :: st) n h := by
  obtain ⟨p, e, R, s, m, args, below, meth, c, ⟨l, D, cx, b⟩, H0, maxL, Q⟩ := G
  obtain ⟨⟨hx, hb, hml, hown, hts⟩, hK, rfl, hbs, rfl, rfl, hN⟩ := hF
  subst hp
  intro H locs ls hok hS hl
  exact va_mmin hx hb (hml.trans hl.1.symm) hown (hts _ hl9) (hts _ hs9) (hts _ hi9) (hts _ hc9) hfr hlo hk hkS hd (kk H locs ls hok hS hl)
theorem xv_ldc {G : xG} {K : xK} {cc : ByteArray} {own : String} {rm0 : Room} {mL k kS pc pc' n : Nat} {L : List (Nat × Value)} {st : List Value} {h : xH} {idx : Nat} {v : Int32} (hF : XF G K cc own rm0 mL) (hl9 : Cond.constant own idx v ∈ x_T) (hd : decode cc pc = .ok (.ldc idx, 2)) (hp : pc + 2 = pc') (kk : XV G k kS pc' L (.int v :: st) n h) : XV G k kS pc L st n h := by
  obtain ⟨p, e, R, s, m, args, below, meth, c, ⟨l, D, cx, b⟩, H0, maxL, Q⟩ := G
  obtain ⟨⟨hx, hb, hml, hown, hts⟩, hK, rfl, hbs, rfl, rfl, hN⟩ := hF
  subst hp
  intro H locs ls hok hS hl
  exact lv_ldc hx hb hown (hts _ hl9) hd (kk H locs ls hok hS hl)
theorem xv_ldc2 {G : xG} {K : xK} {cc : ByteArray} {own : String} {rm0 : Room} {mL k kS pc pc' n : Nat} {L : List (Nat × Value)} {st : List Value} {h : xH} {idx : Nat} {v : Int64} (hF : XF G K cc own rm0 mL) (hl9 : Cond.constantLong own idx v ∈ x_T) (hd : decode cc pc = .ok (.ldc2_w idx, 3)) (hp : pc + 3 = pc') (kk : XV G k kS pc' L (.long v :: st) n h) : XV G k kS pc L st n h := by
  obtain ⟨p, e, R, s, m, args, below, meth, c, ⟨l, D, cx, b⟩, H0, maxL, Q⟩ := G
  obtain ⟨⟨hx, hb, hml, hown, hts⟩, hK, rfl, hbs, rfl, rfl, hN⟩ := hF
  subst hp
  intro H locs ls hok hS hl
  exact lv_ldc2 hx hb hown (hts _ hl9) hd (kk H locs ls hok hS hl)
theorem xm_v {K : xK} {y : MethodName} {cc : ByteArray} {maxL d w mc ms n : Nat} {av : List Value} {h : xH} {P : Nat → xH → Prop} (hy : plainName y.cls = true) (hlen : (lg_sl av).length ≤ maxL)
    (body : ∀ G, XF G K cc y.cls (xrm d w mc ms) maxL → (∀ k kS pc L n' h', k ≤ mc → kS ≤ ms → P n' h' → decode cc pc = .ok (.return_, 1) → XV G k kS pc L [] n' h') → XV G 0 0 0 (lv_args 0 av) [] n h) : XM K y (Cond.code y cc maxL none :: x_T) (xrm d w mc ms) av n h (x_pv P) mc ms := by
  refine Met.ofW (cc := cc) (maxL := maxL) (ret := none) hy rfl ?_
  intro p e s m args below meth c s₁ B hml hv
  obtain ⟨l, D, cx, b⟩ := K
  obtain ⟨rfl, hok, hK, hN⟩ := hv
  have hx := B.exec
  have hb := B.bytes
  have hr := B.returns
  have hts := atoms_spec (ws := Cond.code y cc maxL none :: x_T) B.pre
  have hown : s.vm.findClass y.cls = some m.cls := findClass_of_methodNamed B.named
  have hlocks := B.notSynchronized
  have hin := (name_of_methodNamed B.named B.method).1
  have hl := lv_entry av (n := maxL) hlen
  rw [lg_entry_eq]
  refine body (p, e, xrm d w mc ms, s, m, av.toArray, below, meth, c, (l, D, cx, b), s.heap, maxL, MQ below (x_Q (l, D, cx, b) (x_pv P)) av.toArray s mc ms (fun q => b ≤ q)) ⟨⟨hx, hb, hml, hown, fun w hw => hts w (List.mem_cons_of_mem _ hw)⟩, hK, rfl, ?_, rfl, rfl, hN⟩ (fun k kS pc L n' h'  hk hkS hp hd H locs ls hok hS hl => W.widen hk hkS (W.vret hx hb hr (fun t ht hW => ⟨⟨none, n', h', rfl, ⟨rfl, hp⟩, by rw [ht]; exact hok, va_K.moved hW.alike hK, x_N.warm hW hN⟩, hS.F ht⟩) hS.2.2 hd hlocks)) s.heap [] _ hok va_S.rf hl
  · obtain ⟨_, _, _, h1, h2, _⟩ := hok
    have h3 : b ≤ n := h2
    show b ≤ s.heap.size
    omega
theorem xm_i {K : xK} {y : MethodName} {cc : ByteArray} {maxL d w mc ms n : Nat} {av : List Value} {h : xH} {P : Int32 → Nat → xH → Prop} (hy : plainName y.cls = true) (hlen : (lg_sl av).length ≤ maxL)
    (body : ∀ G, XF G K cc y.cls (xrm d w mc ms) maxL → (∀ k kS pc L n' h' r, k ≤ mc → kS ≤ ms → P r n' h' → decode cc pc = .ok (.ireturn, 1) → XV G k kS pc L [.int r] n' h') → XV G 0 0 0 (lv_args 0 av) [] n h) : XM K y (Cond.code y cc maxL (some .int) :: x_T) (xrm d w mc ms) av n h (x_pi P) mc ms := by
  refine Met.ofW (cc := cc) (maxL := maxL) (ret := (some .int)) hy rfl ?_
  intro p e s m args below meth c s₁ B hml hv
  obtain ⟨l, D, cx, b⟩ := K
  obtain ⟨rfl, hok, hK, hN⟩ := hv
  have hx := B.exec
  have hb := B.bytes
  have hr := B.returns
  have hts := atoms_spec (ws := Cond.code y cc maxL (some .int) :: x_T) B.pre
  have hown : s.vm.findClass y.cls = some m.cls := findClass_of_methodNamed B.named
  have hlocks := B.notSynchronized
  have hin := (name_of_methodNamed B.named B.method).1
  have hl := lv_entry av (n := maxL) hlen
  rw [lg_entry_eq]
  refine body (p, e, xrm d w mc ms, s, m, av.toArray, below, meth, c, (l, D, cx, b), s.heap, maxL, MQ below (x_Q (l, D, cx, b) (x_pi P)) av.toArray s mc ms (fun q => b ≤ q)) ⟨⟨hx, hb, hml, hown, fun w hw => hts w (List.mem_cons_of_mem _ hw)⟩, hK, rfl, ?_, rfl, rfl, hN⟩ (fun k kS pc L n' h' r hk hkS hp hd H locs ls hok hS hl => W.widen hk hkS (W.iret hx hb hr (fun t ht hW => ⟨⟨some (.int r), n', h', rfl, ⟨r, rfl, hp⟩, by rw [ht]; exact hok, va_K.moved hW.alike hK, x_N.warm hW hN⟩, hS.F ht⟩) hS.2.2 hd hlocks)) s.heap [] _ hok va_S.rf hl
  · obtain ⟨_, _, _, h1, h2, _⟩ := hok
    have h3 : b ≤ n := h2
    show b ≤ s.heap.size
    omega
theorem xm_z {K : xK} {y : MethodName} {cc : ByteArray} {maxL d w mc ms n : Nat} {av : List Value} {h : xH} {P : Int32 → Nat → xH → Prop} (hy : plainName y.cls = true) (hlen : (lg_sl av).length ≤ maxL)
    (body : ∀ G, XF G K cc y.cls (xrm d w mc ms) maxL → (∀ k kS pc L n' h' r, k ≤ mc → kS ≤ ms → P r n' h' → narrow .boolean (.int r) = .int r → decode cc pc = .ok (.ireturn, 1) → XV G k kS pc L [.int r] n' h') → XV G 0 0 0 (lv_args 0 av) [] n h) : XM K y (Cond.code y cc maxL (some .boolean) :: x_T) (xrm d w mc ms) av n h (x_pi P) mc ms := by
  refine Met.ofW (cc := cc) (maxL := maxL) (ret := (some .boolean)) hy rfl ?_
  intro p e s m args below meth c s₁ B hml hv
  obtain ⟨l, D, cx, b⟩ := K
  obtain ⟨rfl, hok, hK, hN⟩ := hv
  have hx := B.exec
  have hb := B.bytes
  have hr := B.returns
  have hts := atoms_spec (ws := Cond.code y cc maxL (some .boolean) :: x_T) B.pre
  have hown : s.vm.findClass y.cls = some m.cls := findClass_of_methodNamed B.named
  have hlocks := B.notSynchronized
  have hin := (name_of_methodNamed B.named B.method).1
  have hl := lv_entry av (n := maxL) hlen
  rw [lg_entry_eq]
  refine body (p, e, xrm d w mc ms, s, m, av.toArray, below, meth, c, (l, D, cx, b), s.heap, maxL, MQ below (x_Q (l, D, cx, b) (x_pi P)) av.toArray s mc ms (fun q => b ≤ q)) ⟨⟨hx, hb, hml, hown, fun w hw => hts w (List.mem_cons_of_mem _ hw)⟩, hK, rfl, ?_, rfl, rfl, hN⟩ (fun k kS pc L n' h' r hk hkS hp hnw hd H locs ls hok hS hl => W.widen hk hkS (W.zret hx hb hr hnw (fun t ht hW => ⟨⟨some (.int r), n', h', rfl, ⟨r, rfl, hp⟩, by rw [ht]; exact hok, va_K.moved hW.alike hK, x_N.warm hW hN⟩, hS.F ht⟩) hS.2.2 hd hlocks)) s.heap [] _ hok va_S.rf hl
  · obtain ⟨_, _, _, h1, h2, _⟩ := hok
    have h3 : b ≤ n := h2
    show b ≤ s.heap.size
    omega
theorem xm_r {K : xK} {y : MethodName} {cc : ByteArray} {maxL d w mc ms n : Nat} {av : List Value} {h : xH} {P : Nat → Nat → xH → Prop} {Cr : String} (hy : plainName y.cls = true) (hlen : (lg_sl av).length ≤ maxL)
    (body : ∀ G, XF G K cc y.cls (xrm d w mc ms) maxL → (∀ k kS pc L n' h' r, k ≤ mc → kS ≤ ms → P r n' h' → decode cc pc = .ok (.areturn, 1) → XV G k kS pc L [.ref r] n' h') → XV G 0 0 0 (lv_args 0 av) [] n h) : XM K y (Cond.code y cc maxL (some (.object Cr)) :: x_T) (xrm d w mc ms) av n h (x_pr P) mc ms := by
  refine Met.ofW (cc := cc) (maxL := maxL) (ret := (some (.object Cr))) hy rfl ?_
  intro p e s m args below meth c s₁ B hml hv
  obtain ⟨l, D, cx, b⟩ := K
  obtain ⟨rfl, hok, hK, hN⟩ := hv
  have hx := B.exec
  have hb := B.bytes
  have hr := B.returns
  have hts := atoms_spec (ws := Cond.code y cc maxL (some (.object Cr)) :: x_T) B.pre
  have hown : s.vm.findClass y.cls = some m.cls := findClass_of_methodNamed B.named
  have hlocks := B.notSynchronized
  have hin := (name_of_methodNamed B.named B.method).1
  have hl := lv_entry av (n := maxL) hlen
  rw [lg_entry_eq]
  refine body (p, e, xrm d w mc ms, s, m, av.toArray, below, meth, c, (l, D, cx, b), s.heap, maxL, MQ below (x_Q (l, D, cx, b) (x_pr P)) av.toArray s mc ms (fun q => b ≤ q)) ⟨⟨hx, hb, hml, hown, fun w hw => hts w (List.mem_cons_of_mem _ hw)⟩, hK, rfl, ?_, rfl, rfl, hN⟩ (fun k kS pc L n' h' r hk hkS hp hd H locs ls hok hS hl => W.widen hk hkS (W.aret hx hb hr (Or.inl ⟨_, rfl⟩) (Or.inr ⟨_, rfl⟩) (fun t ht hW => ⟨⟨some (.ref r), n', h', rfl, ⟨r, rfl, hp⟩, by rw [ht]; exact hok, va_K.moved hW.alike hK, x_N.warm hW hN⟩, hS.F ht⟩) hS.2.2 hd hlocks)) s.heap [] _ hok va_S.rf hl
  · obtain ⟨_, _, _, h1, h2, _⟩ := hok
    have h3 : b ≤ n := h2
    show b ≤ s.heap.size
    omega
theorem xm_c {K : xK} {y : MethodName} {cc : ByteArray} {maxL d w mc ms n : Nat} {av : List Value} {h : xH} {P : Nat → xH → Prop} (hy : plainName y.cls = true) (hnm : y.name = "<init>") (hlen : (lg_sl av).length ≤ maxL)
    (body : ∀ G, XF G K cc y.cls (xrm d w mc ms) maxL → G.2.2.2.2.2.2.2.1.name = "<init>" → (∀ k kS pc L n' h', k ≤ mc → kS ≤ ms → P n' h' → decode cc pc = .ok (.return_, 1) → XV G k kS pc L [] n' h') → XV G 0 0 0 (lv_args 0 av) [] n h) : XM K y (Cond.code y cc maxL none :: x_T) (xrm d w mc ms) av n h (x_pv P) mc ms := by
  refine Met.ofW (cc := cc) (maxL := maxL) (ret := none) hy rfl ?_
  intro p e s m args below meth c s₁ B hml hv
  obtain ⟨l, D, cx, b⟩ := K
  obtain ⟨rfl, hok, hK, hN⟩ := hv
  have hx := B.exec
  have hb := B.bytes
  have hr := B.returns
  have hts := atoms_spec (ws := Cond.code y cc maxL none :: x_T) B.pre
  have hown : s.vm.findClass y.cls = some m.cls := findClass_of_methodNamed B.named
  have hlocks := B.notSynchronized
  have hin := (name_of_methodNamed B.named B.method).1
  have hl := lv_entry av (n := maxL) hlen
  rw [lg_entry_eq]
  refine body (p, e, xrm d w mc ms, s, m, av.toArray, below, meth, c, (l, D, cx, b), s.heap, maxL, MQ below (x_Q (l, D, cx, b) (x_pv P)) av.toArray s mc ms (fun q => b ≤ q)) ⟨⟨hx, hb, hml, hown, fun w hw => hts w (List.mem_cons_of_mem _ hw)⟩, hK, rfl, ?_, rfl, rfl, hN⟩ (hin.trans hnm) (fun k kS pc L n' h'  hk hkS hp hd H locs ls hok hS hl => W.widen hk hkS (W.vret hx hb hr (fun t ht hW => ⟨⟨none, n', h', rfl, ⟨rfl, hp⟩, by rw [ht]; exact hok, va_K.moved hW.alike hK, x_N.warm hW hN⟩, hS.F ht⟩) hS.2.2 hd hlocks)) s.heap [] _ hok va_S.rf hl
  · obtain ⟨_, _, _, h1, h2, _⟩ := hok
    have h3 : b ≤ n := h2
    show b ≤ s.heap.size
    omega
theorem xv_iconstN {G : xG} {K : xK} {cc : ByteArray} {own : String} {rm0 : Room} {mL k kS pc pc' n : Nat} {L : List (Nat × Value)} {st : List Value} {h : xH} (i : Nat) {z : Int} (hF : XF G K cc own rm0 mL) (hd : decode cc pc = .ok (.iconst z, 1)) (hv : Int32.ofInt z = nI i) (hp : pc + 1 = pc') (kk : XV G k kS pc' L (.int (nI i) :: st) n h) : XV G k kS pc L st n h := xv_iconst hF hd hv hp kk
theorem xv_bipushN {G : xG} {K : xK} {cc : ByteArray} {own : String} {rm0 : Room} {mL k kS pc pc' n : Nat} {L : List (Nat × Value)} {st : List Value} {h : xH} (i : Nat) {z : Int} (hF : XF G K cc own rm0 mL) (hd : decode cc pc = .ok (.bipush z, 2)) (hv : (Int8.ofInt z).toInt32 = nI i) (hp : pc + 2 = pc') (kk : XV G k kS pc' L (.int (nI i) :: st) n h) : XV G k kS pc L st n h := xv_bipush hF hd hv hp kk
theorem xv_sipushN {G : xG} {K : xK} {cc : ByteArray} {own : String} {rm0 : Room} {mL k kS pc pc' n : Nat} {L : List (Nat × Value)} {st : List Value} {h : xH} (i : Nat) {z : Int} (hF : XF G K cc own rm0 mL) (hd : decode cc pc = .ok (.sipush z, 3)) (hv : (Int16.ofInt z).toInt32 = nI i) (hp : pc + 3 = pc') (kk : XV G k kS pc' L (.int (nI i) :: st) n h) : XV G k kS pc L st n h := xv_sipush hF hd hv hp kk
theorem xv_top {G : xG} {k kS pc n : Nat} {L : List (Nat × Value)} {st : List Value} {h : xH} {v v' : Value} (he : v = v') (kk : XV G k kS pc L (v' :: st) n h) : XV G k kS pc L (v :: st) n h := by subst he; exact kk
theorem xv_topi {G : xG} {k kS pc n : Nat} {L : List (Nat × Value)} {st : List Value} {h : xH} {v v' : Int32} (he : v = v') (kk : XV G k kS pc L (.int v' :: st) n h) : XV G k kS pc L (.int v :: st) n h := by subst he; exact kk
theorem xv_iaddN {G : xG} {K : xK} {cc : ByteArray} {own : String} {rm0 : Room} {mL k kS pc pc' n : Nat} {L : List (Nat × Value)} {st : List Value} {h : xH} {x y : Nat} (hF : XF G K cc own rm0 mL) (hd : decode cc pc = .ok (.iadd, 1)) (hp : pc + 1 = pc') (kk : XV G k kS pc' L (.int (nI (x + y)) :: st) n h) : XV G k kS pc L (.int (nI y) :: .int (nI x) :: st) n h := xv_iadd hF hd hp (xv_topi (nI_add x y) kk)
theorem xv_imulN {G : xG} {K : xK} {cc : ByteArray} {own : String} {rm0 : Room} {mL k kS pc pc' n : Nat} {L : List (Nat × Value)} {st : List Value} {h : xH} {x y : Nat} (hF : XF G K cc own rm0 mL) (hd : decode cc pc = .ok (.imul, 1)) (hp : pc + 1 = pc') (kk : XV G k kS pc' L (.int (nI (x * y)) :: st) n h) : XV G k kS pc L (.int (nI y) :: .int (nI x) :: st) n h := xv_imul hF hd hp (xv_topi (pk_mul x y) kk)
theorem xv_isubN {G : xG} {K : xK} {cc : ByteArray} {own : String} {rm0 : Room} {mL k kS pc pc' n : Nat} {L : List (Nat × Value)} {st : List Value} {h : xH} {x y : Nat} (hF : XF G K cc own rm0 mL) (hle : y ≤ x) (hd : decode cc pc = .ok (.isub, 1)) (hp : pc + 1 = pc') (kk : XV G k kS pc' L (.int (nI (x - y)) :: st) n h) : XV G k kS pc L (.int (nI y) :: .int (nI x) :: st) n h := xv_isub hF hd hp (xv_topi (pk_sub hle) kk)
theorem xv_idivN {G : xG} {K : xK} {cc : ByteArray} {own : String} {rm0 : Room} {mL k kS pc pc' n : Nat} {L : List (Nat × Value)} {st : List Value} {h : xH} {x y : Nat} (hF : XF G K cc own rm0 mL) (hx : x < 2 ^ 31) (h0 : 0 < y) (hy : y < 2 ^ 31) (hd : decode cc pc = .ok (.idiv, 1)) (hp : pc + 1 = pc') (kk : XV G k kS pc' L (.int (nI (x / y)) :: st) n h) : XV G k kS pc L (.int (nI y) :: .int (nI x) :: st) n h := xv_idiv hF hd (nI_ne0 h0 hy) hp (xv_topi (pk_div hx h0 hy) kk)
theorem xv_iremN {G : xG} {K : xK} {cc : ByteArray} {own : String} {rm0 : Room} {mL k kS pc pc' n : Nat} {L : List (Nat × Value)} {st : List Value} {h : xH} {x y : Nat} (hF : XF G K cc own rm0 mL) (hx : x < 2 ^ 31) (h0 : 0 < y) (hy : y < 2 ^ 31) (hd : decode cc pc = .ok (.irem, 1)) (hp : pc + 1 = pc') (kk : XV G k kS pc' L (.int (nI (x % y)) :: st) n h) : XV G k kS pc L (.int (nI y) :: .int (nI x) :: st) n h := xv_irem hF hd (nI_ne0 h0 hy) hp (xv_topi (pk_rem hx h0 hy) kk)
theorem xv_iincN {G : xG} {K : xK} {cc : ByteArray} {own : String} {rm0 : Room} {mL k kS pc pc' n : Nat} {L : List (Nat × Value)} {st : List Value} {h : xH} {i x : Nat} {z : Int} {L' : List (Nat × Value)} (hF : XF G K cc own rm0 mL) (hd : decode cc pc = .ok (.iinc i z, 3)) (hk : xl L i = some (.int (nI x))) (hz : z = 1) (hn : i < mL) (hL : (i, Value.int (nI (x + 1))) :: L.filter (fun q => !(q.1 == i) && !(q.1 + 1 == i && q.2.category == 2)) = L') (hp : pc + 3 = pc') (kk : XV G k kS pc' L' st n h) : XV G k kS pc L st n h := by
  subst hz
  exact xv_iinc hF hd hk (nI_1 x) hn hL hp kk
theorem xv_ialdN {G : xG} {K : xK} {cc : ByteArray} {own : String} {rm0 : Room} {mL k kS pc pc' n : Nat} {L : List (Nat × Value)} {st : List Value} {h : xH} {a N i : Nat} {f : Nat → Int32} (hF : XF G K cc own rm0 mL) (hh : h a = some (.inl (K.2.2.1 0, N, .inl f))) (hi : i < N) (hN : N < 2 ^ 31) (hd : decode cc pc = .ok (.iaload, 1)) (hp : pc + 1 = pc') (kk : XV G k kS pc' L (.int (f i) :: st) n h) : XV G k kS pc L (.int (nI i) :: .ref a :: st) n h := xv_iald hF hh (vp_in_nI hi hN) hd hp (xv_top (by rw [nI_clamp (Nat.lt_trans hi hN)]) kk)
theorem xv_zaldN {G : xG} {K : xK} {cc : ByteArray} {own : String} {rm0 : Room} {mL k kS pc pc' n : Nat} {L : List (Nat × Value)} {st : List Value} {h : xH} {a N i : Nat} {f : Nat → Int32} (hF : XF G K cc own rm0 mL) (hh : h a = some (.inl (K.2.2.1 1, N, .inl f))) (hi : i < N) (hN : N < 2 ^ 31) (hd : decode cc pc = .ok (.baload, 1)) (hp : pc + 1 = pc') (kk : XV G k kS pc' L (.int (f i) :: st) n h) : XV G k kS pc L (.int (nI i) :: .ref a :: st) n h := xv_zald hF hh (vp_in_nI hi hN) hd hp (xv_top (by rw [nI_clamp (Nat.lt_trans hi hN)]) kk)
theorem xv_laldN {G : xG} {K : xK} {cc : ByteArray} {own : String} {rm0 : Room} {mL k kS pc pc' n : Nat} {L : List (Nat × Value)} {st : List Value} {h : xH} {a N i : Nat} {f : Nat → Int64} (hF : XF G K cc own rm0 mL) (hh : h a = some (.inl (K.2.2.1 2, N, .inr (.inl f)))) (hi : i < N) (hN : N < 2 ^ 31) (hd : decode cc pc = .ok (.laload, 1)) (hp : pc + 1 = pc') (kk : XV G k kS pc' L (.long (f i) :: st) n h) : XV G k kS pc L (.int (nI i) :: .ref a :: st) n h := xv_lald hF hh (vp_in_nI hi hN) hd hp (xv_top (by rw [nI_clamp (Nat.lt_trans hi hN)]) kk)
theorem xv_aaldN {G : xG} {K : xK} {cc : ByteArray} {own : String} {rm0 : Room} {mL k kS pc pc' n : Nat} {L : List (Nat × Value)} {st : List Value} {h : xH} {a N i : Nat} {C : String} {f : Nat → Option Nat} (t : Nat) (hF : XF G K cc own rm0 mL) (hh : h a = some (.inl (K.2.2.1 t, N, .inr (.inr (.inr (.inr f)))))) (ht : (x_tys K.2.2.1)[t]? = some (K.2.2.1 t, .object C)) (hi : i < N) (hN : N < 2 ^ 31) (hd : decode cc pc = .ok (.aaload, 1)) (hp : pc + 1 = pc') (kk : XV G k kS pc' L (va_rf (f i) :: st) n h) : XV G k kS pc L (.int (nI i) :: .ref a :: st) n h := xv_aald t hF hh ht (vp_in_nI hi hN) hd hp (xv_top (by rw [nI_clamp (Nat.lt_trans hi hN)]) kk)
theorem xv_iastN {G : xG} {K : xK} {cc : ByteArray} {own : String} {rm0 : Room} {mL k kS pc pc' n : Nat} {L : List (Nat × Value)} {st : List Value} {h : xH} {a N i : Nat} {f : Nat → Int32} {x : Int32} (hF : XF G K cc own rm0 mL) (hh : h a = some (.inl (K.2.2.1 0, N, .inl f))) (hi : i < N) (hN : N < 2 ^ 31) (hd : decode cc pc = .ok (.iastore, 1)) (hp : pc + 1 = pc') (kk : XV G k kS pc' L st n (xu h a (.inl (K.2.2.1 0, N, .inl (upd f i x))))) : XV G k kS pc L (.int x :: .int (nI i) :: .ref a :: st) n h := xv_iast hF hh (vp_in_nI hi hN) hd hp (by rw [nI_clamp (Nat.lt_trans hi hN)]; exact kk)
theorem xv_zastN {G : xG} {K : xK} {cc : ByteArray} {own : String} {rm0 : Room} {mL k kS pc pc' n : Nat} {L : List (Nat × Value)} {st : List Value} {h : xH} {a N i : Nat} {f : Nat → Int32} {x : Int32} (hF : XF G K cc own rm0 mL) (hh : h a = some (.inl (K.2.2.1 1, N, .inl f))) (hi : i < N) (hN : N < 2 ^ 31) (hd : decode cc pc = .ok (.bastore, 1)) (hp : pc + 1 = pc') (kk : XV G k kS pc' L st n (xu h a (.inl (K.2.2.1 1, N, .inl (upd f i (vp_nar .boolean x)))))) : XV G k kS pc L (.int x :: .int (nI i) :: .ref a :: st) n h := xv_zast hF hh (vp_in_nI hi hN) hd hp (by rw [nI_clamp (Nat.lt_trans hi hN)]; exact kk)
theorem xv_lastN {G : xG} {K : xK} {cc : ByteArray} {own : String} {rm0 : Room} {mL k kS pc pc' n : Nat} {L : List (Nat × Value)} {st : List Value} {h : xH} {a N i : Nat} {f : Nat → Int64} {x : Int64} (hF : XF G K cc own rm0 mL) (hh : h a = some (.inl (K.2.2.1 2, N, .inr (.inl f)))) (hi : i < N) (hN : N < 2 ^ 31) (hd : decode cc pc = .ok (.lastore, 1)) (hp : pc + 1 = pc') (kk : XV G k kS pc' L st n (xu h a (.inl (K.2.2.1 2, N, .inr (.inl (vp_updL f i x)))))) : XV G k kS pc L (.long x :: .int (nI i) :: .ref a :: st) n h := xv_last hF hh (vp_in_nI hi hN) hd hp (by rw [nI_clamp (Nat.lt_trans hi hN)]; exact kk)
theorem xv_aastN {G : xG} {K : xK} {cc : ByteArray} {own : String} {rm0 : Room} {mL k kS pc pc' n : Nat} {L : List (Nat × Value)} {st : List Value} {h : xH} {a N v ci i : Nat} {r : vw_C} {vs : List Value} {f : Nat → Option Nat} (t : Nat) (hF : XF G K cc own rm0 mL) (hh : h a = some (.inl (K.2.2.1 t, N, .inr (.inr (.inr (.inr f)))))) (ht : (x_tys K.2.2.1)[t]? = some (K.2.2.1 t, .object r.1)) (hv : h v = some (.inr (ci, vs))) (hc : x_cl[ci]? = some r) (hi : i < N) (hN : N < 2 ^ 31) (hd : decode cc pc = .ok (.aastore, 1)) (hp : pc + 1 = pc') (kk : XV G k kS pc' L st n (xu h a (.inl (K.2.2.1 t, N, .inr (.inr (.inr (.inr (va_up f i (some v))))))))) : XV G k kS pc L (.ref v :: .int (nI i) :: .ref a :: st) n h := xv_aast t hF hh ht hv hc (vp_in_nI hi hN) hd hp (by rw [nI_clamp (Nat.lt_trans hi hN)]; exact kk)
theorem xv_icmp_eqN {G : xG} {K : xK} {cc : ByteArray} {own : String} {rm0 : Room} {mL k kS pc pc' n : Nat} {L : List (Nat × Value)} {st : List Value} {h : xH} {x y : Nat} {off : Int} {tgt : Nat} (hF : XF G K cc own rm0 mL) (hx : x < 2 ^ 31) (hy : y < 2 ^ 31) (hd : decode cc pc = .ok (.if_icmp .eq off, 3)) (ht : (pc : Int) + off = (tgt : Int)) (hp : pc + 3 = pc') (kt : x = y → XV G k kS tgt L st n h) (kf : ¬ x = y → XV G k kS pc' L st n h) : XV G k kS pc L (.int (nI y) :: .int (nI x) :: st) n h := xv_icmp_eq hF hd ht hp (fun q => kt ((nI_eq hx hy).mp q)) (fun q => kf (fun e => q ((nI_eq hx hy).mpr e)))
theorem xv_icmp_neN {G : xG} {K : xK} {cc : ByteArray} {own : String} {rm0 : Room} {mL k kS pc pc' n : Nat} {L : List (Nat × Value)} {st : List Value} {h : xH} {x y : Nat} {off : Int} {tgt : Nat} (hF : XF G K cc own rm0 mL) (hx : x < 2 ^ 31) (hy : y < 2 ^ 31) (hd : decode cc pc = .ok (.if_icmp .ne off, 3)) (ht : (pc : Int) + off = (tgt : Int)) (hp : pc + 3 = pc') (kt : ¬ x = y → XV G k kS tgt L st n h) (kf : x = y → XV G k kS pc' L st n h) : XV G k kS pc L (.int (nI y) :: .int (nI x) :: st) n h := xv_icmp_ne hF hd ht hp (fun q => kt (fun e => q ((nI_eq hx hy).mpr e))) (fun q => kf ((nI_eq hx hy).mp q))
theorem xv_icmp_ltN {G : xG} {K : xK} {cc : ByteArray} {own : String} {rm0 : Room} {mL k kS pc pc' n : Nat} {L : List (Nat × Value)} {st : List Value} {h : xH} {x y : Nat} {off : Int} {tgt : Nat} (hF : XF G K cc own rm0 mL) (hx : x < 2 ^ 31) (hy : y < 2 ^ 31) (hd : decode cc pc = .ok (.if_icmp .lt off, 3)) (ht : (pc : Int) + off = (tgt : Int)) (hp : pc + 3 = pc') (kt : x < y → XV G k kS tgt L st n h) (kf : y ≤ x → XV G k kS pc' L st n h) : XV G k kS pc L (.int (nI y) :: .int (nI x) :: st) n h := xv_icmp_lt hF hd ht hp (fun q => kt ((nI_ltI hx hy).mp q)) (fun q => kf (Nat.not_lt.mp fun e => q ((nI_ltI hx hy).mpr e)))
theorem xv_icmp_geN {G : xG} {K : xK} {cc : ByteArray} {own : String} {rm0 : Room} {mL k kS pc pc' n : Nat} {L : List (Nat × Value)} {st : List Value} {h : xH} {x y : Nat} {off : Int} {tgt : Nat} (hF : XF G K cc own rm0 mL) (hx : x < 2 ^ 31) (hy : y < 2 ^ 31) (hd : decode cc pc = .ok (.if_icmp .ge off, 3)) (ht : (pc : Int) + off = (tgt : Int)) (hp : pc + 3 = pc') (kt : y ≤ x → XV G k kS tgt L st n h) (kf : x < y → XV G k kS pc' L st n h) : XV G k kS pc L (.int (nI y) :: .int (nI x) :: st) n h := xv_icmp_ge hF hd ht hp (fun q => kt ((nI_leI hy hx).mp q)) (fun q => kf (Nat.not_le.mp fun e => q ((nI_leI hy hx).mpr e)))
theorem xv_icmp_gtN {G : xG} {K : xK} {cc : ByteArray} {own : String} {rm0 : Room} {mL k kS pc pc' n : Nat} {L : List (Nat × Value)} {st : List Value} {h : xH} {x y : Nat} {off : Int} {tgt : Nat} (hF : XF G K cc own rm0 mL) (hx : x < 2 ^ 31) (hy : y < 2 ^ 31) (hd : decode cc pc = .ok (.if_icmp .gt off, 3)) (ht : (pc : Int) + off = (tgt : Int)) (hp : pc + 3 = pc') (kt : y < x → XV G k kS tgt L st n h) (kf : x ≤ y → XV G k kS pc' L st n h) : XV G k kS pc L (.int (nI y) :: .int (nI x) :: st) n h := xv_icmp_gt hF hd ht hp (fun q => kt ((nI_ltI hy hx).mp q)) (fun q => kf (Nat.not_lt.mp fun e => q ((nI_ltI hy hx).mpr e)))
theorem xv_icmp_leN {G : xG} {K : xK} {cc : ByteArray} {own : String} {rm0 : Room} {mL k kS pc pc' n : Nat} {L : List (Nat × Value)} {st : List Value} {h : xH} {x y : Nat} {off : Int} {tgt : Nat} (hF : XF G K cc own rm0 mL) (hx : x < 2 ^ 31) (hy : y < 2 ^ 31) (hd : decode cc pc = .ok (.if_icmp .le off, 3)) (ht : (pc : Int) + off = (tgt : Int)) (hp : pc + 3 = pc') (kt : x ≤ y → XV G k kS tgt L st n h) (kf : y < x → XV G k kS pc' L st n h) : XV G k kS pc L (.int (nI y) :: .int (nI x) :: st) n h := xv_icmp_le hF hd ht hp (fun q => kt ((nI_leI hx hy).mp q)) (fun q => kf (Nat.not_le.mp fun e => q ((nI_leI hx hy).mpr e)))
theorem xv_if_eqN {G : xG} {K : xK} {cc : ByteArray} {own : String} {rm0 : Room} {mL k kS pc pc' n : Nat} {L : List (Nat × Value)} {st : List Value} {h : xH} {x : Nat} {off : Int} {tgt : Nat} (hF : XF G K cc own rm0 mL) (hx : x < 2 ^ 31) (hd : decode cc pc = .ok (.ifCond .eq off, 3)) (ht : (pc : Int) + off = (tgt : Int)) (hp : pc + 3 = pc') (kt : x = 0 → XV G k kS tgt L st n h) (kf : 0 < x → XV G k kS pc' L st n h) : XV G k kS pc L (.int (nI x) :: st) n h := xv_if_eq hF hd ht hp (fun q => kt ((nI_eq hx (by decide)).mp (q.trans nI_0.symm))) (fun q => kf (Nat.pos_of_ne_zero fun e => q (by rw [e]; exact nI_0)))
theorem xv_if_neN {G : xG} {K : xK} {cc : ByteArray} {own : String} {rm0 : Room} {mL k kS pc pc' n : Nat} {L : List (Nat × Value)} {st : List Value} {h : xH} {x : Nat} {off : Int} {tgt : Nat} (hF : XF G K cc own rm0 mL) (hx : x < 2 ^ 31) (hd : decode cc pc = .ok (.ifCond .ne off, 3)) (ht : (pc : Int) + off = (tgt : Int)) (hp : pc + 3 = pc') (kt : 0 < x → XV G k kS tgt L st n h) (kf : x = 0 → XV G k kS pc' L st n h) : XV G k kS pc L (.int (nI x) :: st) n h := xv_if_ne hF hd ht hp (fun q => kt (Nat.pos_of_ne_zero fun e => q (by rw [e]; exact nI_0))) (fun q => kf ((nI_eq hx (by decide)).mp (q.trans nI_0.symm)))
theorem xv_if_ltN {G : xG} {K : xK} {cc : ByteArray} {own : String} {rm0 : Room} {mL k kS pc pc' n : Nat} {L : List (Nat × Value)} {st : List Value} {h : xH} {x : Nat} {off : Int} (hF : XF G K cc own rm0 mL) (hx : x < 2 ^ 31) (hd : decode cc pc = .ok (.ifCond .lt off, 3)) {tgt : Nat} (ht : (pc : Int) + off = (tgt : Int)) (hp : pc + 3 = pc') (kf : XV G k kS pc' L st n h) : XV G k kS pc L (.int (nI x) :: st) n h := xv_if_lt hF hd ht hp (fun q => absurd q (nI_pos hx)) (fun _ => kf)
theorem xv_if_geN {G : xG} {K : xK} {cc : ByteArray} {own : String} {rm0 : Room} {mL k kS pc pc' n : Nat} {L : List (Nat × Value)} {st : List Value} {h : xH} {x : Nat} {off : Int} (hF : XF G K cc own rm0 mL) (hx : x < 2 ^ 31) (hd : decode cc pc = .ok (.ifCond .ge off, 3)) {tgt : Nat} (ht : (pc : Int) + off = (tgt : Int)) (hp : pc + 3 = pc') (kt : XV G k kS tgt L st n h) : XV G k kS pc L (.int (nI x) :: st) n h := xv_if_ge hF hd ht hp (fun _ => kt) (fun q => absurd (nI_pos' hx) q)
theorem xv_if_leN {G : xG} {K : xK} {cc : ByteArray} {own : String} {rm0 : Room} {mL k kS pc pc' n : Nat} {L : List (Nat × Value)} {st : List Value} {h : xH} {x : Nat} {off : Int} {tgt : Nat} (hF : XF G K cc own rm0 mL) (hx : x < 2 ^ 31) (hd : decode cc pc = .ok (.ifCond .le off, 3)) (ht : (pc : Int) + off = (tgt : Int)) (hp : pc + 3 = pc') (kt : x = 0 → XV G k kS tgt L st n h) (kf : 0 < x → XV G k kS pc' L st n h) : XV G k kS pc L (.int (nI x) :: st) n h := xv_if_le hF hd ht hp (fun q => kt (by rw [← nI_0, nI_leI hx (by decide)] at q; omega)) (fun q => kf (by rw [← nI_0, nI_leI hx (by decide)] at q; omega))
theorem xv_if_gtN {G : xG} {K : xK} {cc : ByteArray} {own : String} {rm0 : Room} {mL k kS pc pc' n : Nat} {L : List (Nat × Value)} {st : List Value} {h : xH} {x : Nat} {off : Int} {tgt : Nat} (hF : XF G K cc own rm0 mL) (hx : x < 2 ^ 31) (hd : decode cc pc = .ok (.ifCond .gt off, 3)) (ht : (pc : Int) + off = (tgt : Int)) (hp : pc + 3 = pc') (kt : 0 < x → XV G k kS tgt L st n h) (kf : x = 0 → XV G k kS pc' L st n h) : XV G k kS pc L (.int (nI x) :: st) n h := xv_if_gt hF hd ht hp (fun q => kt (by rw [← nI_0, nI_ltI (by decide) hx] at q; exact q)) (fun q => kf (by rw [← nI_0, nI_ltI (by decide) hx] at q; omega))
def xb (B : Bool) : Int32 := if B then 1 else 0
theorem xb_nar (B : Bool) : vp_nar .boolean (xb B) = xb B := by cases B <;> decide +kernel
theorem xb_nw (B : Bool) : narrow .boolean (.int (xb B)) = .int (xb B) := by cases B <;> decide +kernel
theorem xb_ft (B : Bool) : fits .boolean (.int (xb B)) = true := by cases B <;> decide +kernel
theorem xv_if_eqB {G : xG} {K : xK} {cc : ByteArray} {own : String} {rm0 : Room} {mL k kS pc pc' n : Nat} {L : List (Nat × Value)} {st : List Value} {h : xH} {B : Bool} {off : Int} {tgt : Nat} (hF : XF G K cc own rm0 mL) (hd : decode cc pc = .ok (.ifCond .eq off, 3)) (ht : (pc : Int) + off = (tgt : Int)) (hp : pc + 3 = pc') (kt : B = false → XV G k kS tgt L st n h) (kf : B = true → XV G k kS pc' L st n h) : XV G k kS pc L (.int (xb B) :: st) n h := xv_if_eq hF hd ht hp (fun q => kt (by cases B with | false => rfl | true => exact absurd q (by decide))) (fun q => kf (by cases B with | false => exact absurd rfl q | true => rfl))
theorem xv_if_neB {G : xG} {K : xK} {cc : ByteArray} {own : String} {rm0 : Room} {mL k kS pc pc' n : Nat} {L : List (Nat × Value)} {st : List Value} {h : xH} {B : Bool} {off : Int} {tgt : Nat} (hF : XF G K cc own rm0 mL) (hd : decode cc pc = .ok (.ifCond .ne off, 3)) (ht : (pc : Int) + off = (tgt : Int)) (hp : pc + 3 = pc') (kt : B = true → XV G k kS tgt L st n h) (kf : B = false → XV G k kS pc' L st n h) : XV G k kS pc L (.int (xb B) :: st) n h := xv_if_ne hF hd ht hp (fun q => kt (by cases B with | false => exact absurd rfl q | true => rfl)) (fun q => kf (by cases B with | false => rfl | true => exact absurd q (by decide)))
def xsub (L : List (Nat × Value)) : List (Nat × Value) → Prop
  | [] => True
  | q :: r => xl L q.1 = some q.2 ∧ xsub L r
theorem xsub_mem {L : List (Nat × Value)} : ∀ {L' : List (Nat × Value)}, xsub L L' → ∀ q ∈ L', xl L q.1 = some q.2
  | [], _, q, hq => by cases hq
  | a :: r, h, q, hq => by
    rcases List.mem_cons.mp hq with rfl | hq
    · exact h.1
    · exact xsub_mem h.2 q hq
theorem xv_loc {G : xG} {k kS pc n : Nat} {L : List (Nat × Value)} {st : List Value} {h : xH} (L' : List (Nat × Value)) (hs : xsub L L') (kk : XV G k kS pc L' st n h) : XV G k kS pc L st n h := by
  obtain ⟨p, e, R, s, m, args, below, meth, c, ⟨l, D, cx, b⟩, H0, maxL, Q⟩ := G
  intro H locs ls hh hS hl
  exact kk H locs ls hh hS ⟨hl.1, hl.2.1, fun q hq => xl_at hl (xsub_mem hs q hq)⟩
theorem xv_room {G : xG} {k kS k' kS' pc n : Nat} {L : List (Nat × Value)} {st : List Value} {h : xH} (h1 : k ≤ k') (h2 : kS ≤ kS') (kk : XV G k' kS' pc L st n h) : XV G k kS pc L st n h := by
  obtain ⟨p, e, R, s, m, args, below, meth, c, ⟨l, D, cx, b⟩, H0, maxL, Q⟩ := G
  intro H locs ls hh hS hl
  exact W.widen h1 h2 (kk H locs ls hh hS hl)
end
section
theorem xq_PD_init : x_cal xy_PD_init xc_PD_init 2 none 0 := ⟨xk_c_PD_init, xk_n_PD, by decide +kernel, by decide +kernel, by decide +kernel⟩
theorem xq_GR_init : x_cal xy_GR_init xc_GR_init 1 none 0 := ⟨xk_c_GR_init, xk_n_GR, by decide +kernel, by decide +kernel, by decide +kernel⟩
theorem xq_RD_init : x_cal xy_RD_init xc_RD_init 1 none 0 := ⟨xk_c_RD_init, xk_n_RD, by decide +kernel, by decide +kernel, by decide +kernel⟩
theorem xq_EX_init : x_cal xy_EX_init xc_EX_init 1 none 0 := ⟨xk_c_EX_init, xk_n_EX, by decide +kernel, by decide +kernel, by decide +kernel⟩
theorem xq_BE_init : x_cal xy_BE_init xc_BE_init 1 none 0 := ⟨xk_c_BE_init, xk_n_BE, by decide +kernel, by decide +kernel, by decide +kernel⟩
theorem xq_RE_init : x_cal xy_RE_init xc_RE_init 1 none 0 := ⟨xk_c_RE_init, xk_n_RE, by decide +kernel, by decide +kernel, by decide +kernel⟩
theorem xq_PD_count : x_cal xy_PD_count xc_PD_count 2 (some .int) 1 := ⟨xk_c_PD_count, xk_n_PD, by decide +kernel, by decide +kernel, by decide +kernel⟩
theorem xq_GR_edgesOf : x_cal xy_GR_edgesOf xc_GR_edgesOf 4 (some .int) 1 := ⟨xk_c_GR_edgesOf, xk_n_GR, by decide +kernel, by decide +kernel, by decide +kernel⟩
theorem xq_JI_bitCount : x_cal xy_JI_bitCount xc_JI_bitCount 1 (some .int) 1 := ⟨xk_c_JI_bitCount, xk_n_JI, by decide +kernel, by decide +kernel, by decide +kernel⟩
theorem xq_GR_nodesWith : x_cal xy_GR_nodesWith xc_GR_nodesWith 2 (some .int) 1 := ⟨xk_c_GR_nodesWith, xk_n_GR, by decide +kernel, by decide +kernel, by decide +kernel⟩
theorem xq_PD_edge : x_cal xy_PD_edge xc_PD_edge 4 (some .boolean) 3 := ⟨xk_c_PD_edge, xk_n_PD, by decide +kernel, by decide +kernel, by decide +kernel⟩
theorem xq_PD_needNode : x_cal xy_PD_needNode xc_PD_needNode 1 none 1 := ⟨xk_c_PD_needNode, xk_n_PD, by decide +kernel, by decide +kernel, by decide +kernel⟩
theorem xq_PD_needLabel : x_cal xy_PD_needLabel xc_PD_needLabel 1 none 1 := ⟨xk_c_PD_needLabel, xk_n_PD, by decide +kernel, by decide +kernel, by decide +kernel⟩
theorem xq_GR_hasEdge : x_cal xy_GR_hasEdge xc_GR_hasEdge 4 (some .boolean) 3 := ⟨xk_c_GR_hasEdge, xk_n_GR, by decide +kernel, by decide +kernel, by decide +kernel⟩
theorem xq_PD_isIn : x_cal xy_PD_isIn xc_PD_isIn 2 (some .boolean) 2 := ⟨xk_c_PD_isIn, xk_n_PD, by decide +kernel, by decide +kernel, by decide +kernel⟩
theorem xq_GR_putEdge : x_cal xy_GR_putEdge xc_GR_putEdge 4 none 3 := ⟨xk_c_GR_putEdge, xk_n_GR, by decide +kernel, by decide +kernel, by decide +kernel⟩
theorem xq_PD_forgetRelations : x_cal xy_PD_forgetRelations xc_PD_forgetRelations 2 none 0 := ⟨xk_c_PD_forgetRelations, xk_n_PD, by decide +kernel, by decide +kernel, by decide +kernel⟩
theorem xq_PD_cut : x_cal xy_PD_cut xc_PD_cut 4 (some .boolean) 3 := ⟨xk_c_PD_cut, xk_n_PD, by decide +kernel, by decide +kernel, by decide +kernel⟩
theorem xq_GR_dropEdge : x_cal xy_GR_dropEdge xc_GR_dropEdge 4 none 3 := ⟨xk_c_GR_dropEdge, xk_n_GR, by decide +kernel, by decide +kernel, by decide +kernel⟩
theorem xq_PD_tag : x_cal xy_PD_tag xc_PD_tag 4 none 3 := ⟨xk_c_PD_tag, xk_n_PD, by decide +kernel, by decide +kernel, by decide +kernel⟩
theorem xq_GR_setTag : x_cal xy_GR_setTag xc_GR_setTag 4 none 3 := ⟨xk_c_GR_setTag, xk_n_GR, by decide +kernel, by decide +kernel, by decide +kernel⟩
theorem xq_PD_feed : x_cal xy_PD_feed xc_PD_feed 5 (some .int) 2 := ⟨xk_c_PD_feed, xk_n_PD, by decide +kernel, by decide +kernel, by decide +kernel⟩
theorem xq_PD_load : x_cal xy_PD_load xc_PD_load 4 (some .int) 1 := ⟨xk_c_PD_load, xk_n_PD, by decide +kernel, by decide +kernel, by decide +kernel⟩
theorem xq_PD_needSlot : x_cal xy_PD_needSlot xc_PD_needSlot 1 none 1 := ⟨xk_c_PD_needSlot, xk_n_PD, by decide +kernel, by decide +kernel, by decide +kernel⟩
theorem xq_RD_read : x_cal xy_RD_read xc_RD_read 6 (some .int) 3 := ⟨xk_c_RD_read, xk_n_RD, by decide +kernel, by decide +kernel, by decide +kernel⟩
theorem xq_RD_start : x_cal xy_RD_start xc_RD_start 2 none 1 := ⟨xk_c_RD_start, xk_n_RD, by decide +kernel, by decide +kernel, by decide +kernel⟩
theorem xq_EX_clear : x_cal xy_EX_clear xc_EX_clear 1 none 0 := ⟨xk_c_EX_clear, xk_n_EX, by decide +kernel, by decide +kernel, by decide +kernel⟩
theorem xq_RD_startAlternative : x_cal xy_RD_startAlternative xc_RD_startAlternative 1 none 0 := ⟨xk_c_RD_startAlternative, xk_n_RD, by decide +kernel, by decide +kernel, by decide +kernel⟩
theorem xq_EX_append : x_cal xy_EX_append xc_EX_append 3 none 2 := ⟨xk_c_EX_append, xk_n_EX, by decide +kernel, by decide +kernel, by decide +kernel⟩
theorem xq_RD_takeInRow : x_cal xy_RD_takeInRow xc_RD_takeInRow 2 (some .boolean) 1 := ⟨xk_c_RD_takeInRow, xk_n_RD, by decide +kernel, by decide +kernel, by decide +kernel⟩
theorem xq_RD_openGroup : x_cal xy_RD_openGroup xc_RD_openGroup 1 (some .boolean) 0 := ⟨xk_c_RD_openGroup, xk_n_RD, by decide +kernel, by decide +kernel, by decide +kernel⟩
theorem xq_RD_endRepeat : x_cal xy_RD_endRepeat xc_RD_endRepeat 1 none 0 := ⟨xk_c_RD_endRepeat, xk_n_RD, by decide +kernel, by decide +kernel, by decide +kernel⟩
theorem xq_RD_closeGroup : x_cal xy_RD_closeGroup xc_RD_closeGroup 1 (some .boolean) 0 := ⟨xk_c_RD_closeGroup, xk_n_RD, by decide +kernel, by decide +kernel, by decide +kernel⟩
theorem xq_RD_endRow : x_cal xy_RD_endRow xc_RD_endRow 1 none 0 := ⟨xk_c_RD_endRow, xk_n_RD, by decide +kernel, by decide +kernel, by decide +kernel⟩
theorem xq_RD_startRepeat : x_cal xy_RD_startRepeat xc_RD_startRepeat 2 none 1 := ⟨xk_c_RD_startRepeat, xk_n_RD, by decide +kernel, by decide +kernel, by decide +kernel⟩
theorem xq_RD_goOnTo : x_cal xy_RD_goOnTo xc_RD_goOnTo 2 (some .boolean) 1 := ⟨xk_c_RD_goOnTo, xk_n_RD, by decide +kernel, by decide +kernel, by decide +kernel⟩
theorem xq_RD_changeRepeat : x_cal xy_RD_changeRepeat xc_RD_changeRepeat 2 (some .boolean) 1 := ⟨xk_c_RD_changeRepeat, xk_n_RD, by decide +kernel, by decide +kernel, by decide +kernel⟩
theorem xq_RD_takeStep : x_cal xy_RD_takeStep xc_RD_takeStep 4 (some .boolean) 2 := ⟨xk_c_RD_takeStep, xk_n_RD, by decide +kernel, by decide +kernel, by decide +kernel⟩
theorem xq_RD_addStep : x_cal xy_RD_addStep xc_RD_addStep 3 none 2 := ⟨xk_c_RD_addStep, xk_n_RD, by decide +kernel, by decide +kernel, by decide +kernel⟩
theorem xq_RD_takeInside : x_cal xy_RD_takeInside xc_RD_takeInside 2 (some .boolean) 1 := ⟨xk_c_RD_takeInside, xk_n_RD, by decide +kernel, by decide +kernel, by decide +kernel⟩
theorem xq_RD_takeTag : x_cal xy_RD_takeTag xc_RD_takeTag 4 (some .boolean) 2 := ⟨xk_c_RD_takeTag, xk_n_RD, by decide +kernel, by decide +kernel, by decide +kernel⟩
theorem xq_RD_takeLeast : x_cal xy_RD_takeLeast xc_RD_takeLeast 2 (some .boolean) 1 := ⟨xk_c_RD_takeLeast, xk_n_RD, by decide +kernel, by decide +kernel, by decide +kernel⟩
theorem xq_RD_isDigit : x_cal xy_RD_isDigit xc_RD_isDigit 1 (some .boolean) 1 := ⟨xk_c_RD_isDigit, xk_n_RD, by decide +kernel, by decide +kernel, by decide +kernel⟩
theorem xq_RD_takeBraceEnd : x_cal xy_RD_takeBraceEnd xc_RD_takeBraceEnd 2 (some .boolean) 1 := ⟨xk_c_RD_takeBraceEnd, xk_n_RD, by decide +kernel, by decide +kernel, by decide +kernel⟩
theorem xq_RD_takeMost : x_cal xy_RD_takeMost xc_RD_takeMost 2 (some .boolean) 1 := ⟨xk_c_RD_takeMost, xk_n_RD, by decide +kernel, by decide +kernel, by decide +kernel⟩
theorem xq_EX_makeEmptyRow : x_cal xy_EX_makeEmptyRow xc_EX_makeEmptyRow 1 none 0 := ⟨xk_c_EX_makeEmptyRow, xk_n_EX, by decide +kernel, by decide +kernel, by decide +kernel⟩
theorem xq_PD_reach : x_cal xy_PD_reach xc_PD_reach 5 (some .int) 3 := ⟨xk_c_PD_reach, xk_n_PD, by decide +kernel, by decide +kernel, by decide +kernel⟩
theorem xq_PD_relationOf : x_cal xy_PD_relationOf xc_PD_relationOf 5 (some (.object "PathDesk$Relation")) 1 := ⟨xk_c_PD_relationOf, xk_n_PD, by decide +kernel, by decide +kernel, by decide +kernel⟩
theorem xq_BE_clear : x_cal xy_BE_clear xc_BE_clear 1 none 0 := ⟨xk_c_BE_clear, xk_n_BE, by decide +kernel, by decide +kernel, by decide +kernel⟩
theorem xq_BE_carryOut : x_cal xy_BE_carryOut xc_BE_carryOut 4 none 2 := ⟨xk_c_BE_carryOut, xk_n_BE, by decide +kernel, by decide +kernel, by decide +kernel⟩
theorem xq_BE_layDown : x_cal xy_BE_layDown xc_BE_layDown 2 (some (.object "PathDesk$Relation")) 0 := ⟨xk_c_BE_layDown, xk_n_BE, by decide +kernel, by decide +kernel, by decide +kernel⟩
theorem xq_BE_at : x_cal xy_BE_at xc_BE_at 3 (some (.object "PathDesk$Relation")) 1 := ⟨xk_c_BE_at, xk_n_BE, by decide +kernel, by decide +kernel, by decide +kernel⟩
theorem xq_RE_clear : x_cal xy_RE_clear xc_RE_clear 1 none 0 := ⟨xk_c_RE_clear, xk_n_RE, by decide +kernel, by decide +kernel, by decide +kernel⟩
theorem xq_JA_fill : x_cal xy_JA_fill xc_JA_fill 4 none 2 := ⟨xk_c_JA_fill, xk_n_JA, by decide +kernel, by decide +kernel, by decide +kernel⟩
theorem xq_RE_addStays : x_cal xy_RE_addStays xc_RE_addStays 3 none 1 := ⟨xk_c_RE_addStays, xk_n_RE, by decide +kernel, by decide +kernel, by decide +kernel⟩
theorem xq_RE_offer : x_cal xy_RE_offer xc_RE_offer 6 none 3 := ⟨xk_c_RE_offer, xk_n_RE, by decide +kernel, by decide +kernel, by decide +kernel⟩
theorem xq_RE_addEdges : x_cal xy_RE_addEdges xc_RE_addEdges 7 none 3 := ⟨xk_c_RE_addEdges, xk_n_RE, by decide +kernel, by decide +kernel, by decide +kernel⟩
theorem xq_GR_nextOf : x_cal xy_GR_nextOf xc_GR_nextOf 5 (some .int) 2 := ⟨xk_c_GR_nextOf, xk_n_GR, by decide +kernel, by decide +kernel, by decide +kernel⟩
theorem xq_BE_chainTwo : x_cal xy_BE_chainTwo xc_BE_chainTwo 2 none 0 := ⟨xk_c_BE_chainTwo, xk_n_BE, by decide +kernel, by decide +kernel, by decide +kernel⟩
theorem xq_BE_top : x_cal xy_BE_top xc_BE_top 1 (some (.object "PathDesk$Relation")) 0 := ⟨xk_c_BE_top, xk_n_BE, by decide +kernel, by decide +kernel, by decide +kernel⟩
theorem xq_RE_setToChain : x_cal xy_RE_setToChain xc_RE_setToChain 6 none 2 := ⟨xk_c_RE_setToChain, xk_n_RE, by decide +kernel, by decide +kernel, by decide +kernel⟩
theorem xq_RE_addGoingOn : x_cal xy_RE_addGoingOn xc_RE_addGoingOn 7 none 4 := ⟨xk_c_RE_addGoingOn, xk_n_RE, by decide +kernel, by decide +kernel, by decide +kernel⟩
theorem xq_BE_joinTwo : x_cal xy_BE_joinTwo xc_BE_joinTwo 1 none 0 := ⟨xk_c_BE_joinTwo, xk_n_BE, by decide +kernel, by decide +kernel, by decide +kernel⟩
theorem xq_RE_addAll : x_cal xy_RE_addAll xc_RE_addAll 3 none 1 := ⟨xk_c_RE_addAll, xk_n_RE, by decide +kernel, by decide +kernel, by decide +kernel⟩
theorem xq_RE_repeatAtWill : x_cal xy_RE_repeatAtWill xc_RE_repeatAtWill 3 none 0 := ⟨xk_c_RE_repeatAtWill, xk_n_RE, by decide +kernel, by decide +kernel, by decide +kernel⟩
theorem xq_BE_copyTop : x_cal xy_BE_copyTop xc_BE_copyTop 7 none 2 := ⟨xk_c_BE_copyTop, xk_n_BE, by decide +kernel, by decide +kernel, by decide +kernel⟩
theorem xq_RE_sourcesOf : x_cal xy_RE_sourcesOf xc_RE_sourcesOf 4 (some .int) 1 := ⟨xk_c_RE_sourcesOf, xk_n_RE, by decide +kernel, by decide +kernel, by decide +kernel⟩
theorem xq_PD_distance : x_cal xy_PD_distance xc_PD_distance 4 (some .int) 3 := ⟨xk_c_PD_distance, xk_n_PD, by decide +kernel, by decide +kernel, by decide +kernel⟩
theorem xq_RE_lengthOf : x_cal xy_RE_lengthOf xc_RE_lengthOf 3 (some .int) 2 := ⟨xk_c_RE_lengthOf, xk_n_RE, by decide +kernel, by decide +kernel, by decide +kernel⟩
theorem xq_PD_span : x_cal xy_PD_span xc_PD_span 2 (some .int) 1 := ⟨xk_c_PD_span, xk_n_PD, by decide +kernel, by decide +kernel, by decide +kernel⟩
theorem xq_RE_greatestLength : x_cal xy_RE_greatestLength xc_RE_greatestLength 4 (some .int) 0 := ⟨xk_c_RE_greatestLength, xk_n_RE, by decide +kernel, by decide +kernel, by decide +kernel⟩
theorem xq_PD_pairs : x_cal xy_PD_pairs xc_PD_pairs 6 (some .int) 3 := ⟨xk_c_PD_pairs, xk_n_PD, by decide +kernel, by decide +kernel, by decide +kernel⟩
theorem xq_RE_pairCount : x_cal xy_RE_pairCount xc_RE_pairCount 3 (some .int) 0 := ⟨xk_c_RE_pairCount, xk_n_RE, by decide +kernel, by decide +kernel, by decide +kernel⟩
theorem xq_RE_pairsSharedWith : x_cal xy_RE_pairsSharedWith xc_RE_pairsSharedWith 4 (some .int) 1 := ⟨xk_c_RE_pairsSharedWith, xk_n_RE, by decide +kernel, by decide +kernel, by decide +kernel⟩
theorem xq_RE_pairsTurnedIn : x_cal xy_RE_pairsTurnedIn xc_RE_pairsTurnedIn 4 (some .int) 1 := ⟨xk_c_RE_pairsTurnedIn, xk_n_RE, by decide +kernel, by decide +kernel, by decide +kernel⟩
theorem xq_RE_pairsLedOnBy : x_cal xy_RE_pairsLedOnBy xc_RE_pairsLedOnBy 6 (some .int) 1 := ⟨xk_c_RE_pairsLedOnBy, xk_n_RE, by decide +kernel, by decide +kernel, by decide +kernel⟩
theorem xq_PD_circle : x_cal xy_PD_circle xc_PD_circle 2 (some .int) 1 := ⟨xk_c_PD_circle, xk_n_PD, by decide +kernel, by decide +kernel, by decide +kernel⟩
theorem xq_RE_leastOnCircle : x_cal xy_RE_leastOnCircle xc_RE_leastOnCircle 2 (some .int) 0 := ⟨xk_c_RE_leastOnCircle, xk_n_RE, by decide +kernel, by decide +kernel, by decide +kernel⟩
theorem xq_PD_best : x_cal xy_PD_best xc_PD_best 2 (some .int) 1 := ⟨xk_c_PD_best, xk_n_PD, by decide +kernel, by decide +kernel, by decide +kernel⟩
theorem xq_RE_richestNode : x_cal xy_RE_richestNode xc_RE_richestNode 5 (some .int) 0 := ⟨xk_c_RE_richestNode, xk_n_RE, by decide +kernel, by decide +kernel, by decide +kernel⟩
theorem xq_MO_init : x_cal xy_MO_init xc_MO_init 1 none 0 := ⟨xk_c_MO_init, xk_n_MO, by decide +kernel, by decide +kernel, by decide +kernel⟩
theorem xq_MO_thrown : x_cal xy_MO_thrown xc_MO_thrown 1 (some .int) 0 := ⟨xk_c_MO_thrown, xk_n_MO, by decide +kernel, by decide +kernel, by decide +kernel⟩
theorem xq_MO_edge : x_cal xy_MO_edge xc_MO_edge 5 (some .boolean) 3 := ⟨xk_c_MO_edge, xk_n_MO, by decide +kernel, by decide +kernel, by decide +kernel⟩
theorem xq_MO_in : x_cal xy_MO_in xc_MO_in 2 (some .boolean) 2 := ⟨xk_c_MO_in, xk_n_MO, by decide +kernel, by decide +kernel, by decide +kernel⟩
theorem xq_MO_fails : x_cal xy_MO_fails xc_MO_fails 3 (some .boolean) 2 := ⟨xk_c_MO_fails, xk_n_MO, by decide +kernel, by decide +kernel, by decide +kernel⟩
theorem xq_MO_place : x_cal xy_MO_place xc_MO_place 3 (some .int) 3 := ⟨xk_c_MO_place, xk_n_MO, by decide +kernel, by decide +kernel, by decide +kernel⟩
theorem xq_MO_cut : x_cal xy_MO_cut xc_MO_cut 6 (some .boolean) 3 := ⟨xk_c_MO_cut, xk_n_MO, by decide +kernel, by decide +kernel, by decide +kernel⟩
theorem xq_MO_tag : x_cal xy_MO_tag xc_MO_tag 4 none 3 := ⟨xk_c_MO_tag, xk_n_MO, by decide +kernel, by decide +kernel, by decide +kernel⟩
theorem xq_MO_feed : x_cal xy_MO_feed xc_MO_feed 5 (some .int) 2 := ⟨xk_c_MO_feed, xk_n_MO, by decide +kernel, by decide +kernel, by decide +kernel⟩
theorem xq_MO_load : x_cal xy_MO_load xc_MO_load 3 (some .int) 1 := ⟨xk_c_MO_load, xk_n_MO, by decide +kernel, by decide +kernel, by decide +kernel⟩
theorem xq_MO_begin : x_cal xy_MO_begin xc_MO_begin 2 none 1 := ⟨xk_c_MO_begin, xk_n_MO, by decide +kernel, by decide +kernel, by decide +kernel⟩
theorem xq_MO_bracket : x_cal xy_MO_bracket xc_MO_bracket 1 none 0 := ⟨xk_c_MO_bracket, xk_n_MO, by decide +kernel, by decide +kernel, by decide +kernel⟩
theorem xq_MO_plain : x_cal xy_MO_plain xc_MO_plain 4 none 2 := ⟨xk_c_MO_plain, xk_n_MO, by decide +kernel, by decide +kernel, by decide +kernel⟩
theorem xq_MO_read : x_cal xy_MO_read xc_MO_read 3 none 0 := ⟨xk_c_MO_read, xk_n_MO, by decide +kernel, by decide +kernel, by decide +kernel⟩
theorem xq_MO_goes : x_cal xy_MO_goes xc_MO_goes 1 (some .boolean) 0 := ⟨xk_c_MO_goes, xk_n_MO, by decide +kernel, by decide +kernel, by decide +kernel⟩
theorem xq_MO_now : x_cal xy_MO_now xc_MO_now 1 (some .int) 0 := ⟨xk_c_MO_now, xk_n_MO, by decide +kernel, by decide +kernel, by decide +kernel⟩
theorem xq_MO_opens : x_cal xy_MO_opens xc_MO_opens 1 none 0 := ⟨xk_c_MO_opens, xk_n_MO, by decide +kernel, by decide +kernel, by decide +kernel⟩
theorem xq_MO_fail : x_cal xy_MO_fail xc_MO_fail 1 none 0 := ⟨xk_c_MO_fail, xk_n_MO, by decide +kernel, by decide +kernel, by decide +kernel⟩
theorem xq_MO_shuts : x_cal xy_MO_shuts xc_MO_shuts 1 none 0 := ⟨xk_c_MO_shuts, xk_n_MO, by decide +kernel, by decide +kernel, by decide +kernel⟩
theorem xq_MO_bar : x_cal xy_MO_bar xc_MO_bar 1 none 0 := ⟨xk_c_MO_bar, xk_n_MO, by decide +kernel, by decide +kernel, by decide +kernel⟩
theorem xq_MO_either : x_cal xy_MO_either xc_MO_either 5 none 2 := ⟨xk_c_MO_either, xk_n_MO, by decide +kernel, by decide +kernel, by decide +kernel⟩
theorem xq_MO_copy : x_cal xy_MO_copy xc_MO_copy 4 none 2 := ⟨xk_c_MO_copy, xk_n_MO, by decide +kernel, by decide +kernel, by decide +kernel⟩
theorem xq_MO_signs : x_cal xy_MO_signs xc_MO_signs 3 none 0 := ⟨xk_c_MO_signs, xk_n_MO, by decide +kernel, by decide +kernel, by decide +kernel⟩
theorem xq_MO_counted : x_cal xy_MO_counted xc_MO_counted 5 none 1 := ⟨xk_c_MO_counted, xk_n_MO, by decide +kernel, by decide +kernel, by decide +kernel⟩
theorem xq_MO_digit : x_cal xy_MO_digit xc_MO_digit 3 (some .int) 1 := ⟨xk_c_MO_digit, xk_n_MO, by decide +kernel, by decide +kernel, by decide +kernel⟩
theorem xq_MO_must : x_cal xy_MO_must xc_MO_must 2 none 1 := ⟨xk_c_MO_must, xk_n_MO, by decide +kernel, by decide +kernel, by decide +kernel⟩
theorem xq_MO_behind : x_cal xy_MO_behind xc_MO_behind 5 none 2 := ⟨xk_c_MO_behind, xk_n_MO, by decide +kernel, by decide +kernel, by decide +kernel⟩
theorem xq_MO_spread : x_cal xy_MO_spread xc_MO_spread 6 none 3 := ⟨xk_c_MO_spread, xk_n_MO, by decide +kernel, by decide +kernel, by decide +kernel⟩
theorem xq_MO_again : x_cal xy_MO_again xc_MO_again 6 none 1 := ⟨xk_c_MO_again, xk_n_MO, by decide +kernel, by decide +kernel, by decide +kernel⟩
theorem xq_MO_isLetter : x_cal xy_MO_isLetter xc_MO_isLetter 1 (some .boolean) 1 := ⟨xk_c_MO_isLetter, xk_n_MO, by decide +kernel, by decide +kernel, by decide +kernel⟩
theorem xq_MO_atom : x_cal xy_MO_atom xc_MO_atom 7 none 0 := ⟨xk_c_MO_atom, xk_n_MO, by decide +kernel, by decide +kernel, by decide +kernel⟩
theorem xq_MO_test : x_cal xy_MO_test xc_MO_test 5 none 1 := ⟨xk_c_MO_test, xk_n_MO, by decide +kernel, by decide +kernel, by decide +kernel⟩
theorem xq_MO_reach : x_cal xy_MO_reach xc_MO_reach 7 (some .int) 3 := ⟨xk_c_MO_reach, xk_n_MO, by decide +kernel, by decide +kernel, by decide +kernel⟩
theorem xq_MO_lengths : x_cal xy_MO_lengths xc_MO_lengths 4 none 2 := ⟨xk_c_MO_lengths, xk_n_MO, by decide +kernel, by decide +kernel, by decide +kernel⟩
theorem xq_MO_distance : x_cal xy_MO_distance xc_MO_distance 6 (some .int) 3 := ⟨xk_c_MO_distance, xk_n_MO, by decide +kernel, by decide +kernel, by decide +kernel⟩
theorem xq_MO_span : x_cal xy_MO_span xc_MO_span 4 (some .int) 1 := ⟨xk_c_MO_span, xk_n_MO, by decide +kernel, by decide +kernel, by decide +kernel⟩
theorem xq_MO_pairs : x_cal xy_MO_pairs xc_MO_pairs 9 (some .int) 3 := ⟨xk_c_MO_pairs, xk_n_MO, by decide +kernel, by decide +kernel, by decide +kernel⟩
theorem xq_MO_circle : x_cal xy_MO_circle xc_MO_circle 3 (some .int) 1 := ⟨xk_c_MO_circle, xk_n_MO, by decide +kernel, by decide +kernel, by decide +kernel⟩
theorem xq_MO_best : x_cal xy_MO_best xc_MO_best 7 (some .int) 1 := ⟨xk_c_MO_best, xk_n_MO, by decide +kernel, by decide +kernel, by decide +kernel⟩
theorem xq_MO_count : x_cal xy_MO_count xc_MO_count 4 (some .int) 1 := ⟨xk_c_MO_count, xk_n_MO, by decide +kernel, by decide +kernel, by decide +kernel⟩
end
section
theorem nx_andN (a b : Nat) : nI a &&& nI b = nI (a &&& b) := by
  apply Int32.toBitVec_inj.1
  show BitVec.ofNat 32 a &&& BitVec.ofNat 32 b = BitVec.ofNat 32 (a &&& b)
  apply BitVec.eq_of_getLsbD_eq
  intro i hi
  simp [hi]
theorem nx_orN (a b : Nat) : nI a ||| nI b = nI (a ||| b) := by
  apply Int32.toBitVec_inj.1
  show BitVec.ofNat 32 a ||| BitVec.ofNat 32 b = BitVec.ofNat 32 (a ||| b)
  apply BitVec.eq_of_getLsbD_eq
  intro i hi
  simp [hi]
theorem nx_of (x : Int32) : ∃ X : Nat, X < 2 ^ 32 ∧ x = nI X := by
  refine ⟨x.toBitVec.toNat, x.toBitVec.isLt, Int32.toBitVec_inj.1 ?_⟩
  show x.toBitVec = BitVec.ofNat 32 x.toBitVec.toNat
  simp
theorem xv_iandN {G : xG} {K : xK} {cc : ByteArray} {own : String} {rm0 : Room} {mL k kS pc pc' n : Nat} {L : List (Nat × Value)} {st : List Value} {h : xH} {x y : Nat} (hF : XF G K cc own rm0 mL) (hd : decode cc pc = .ok (.iand, 1)) (hp : pc + 1 = pc') (kk : XV G k kS pc' L (.int (nI (x &&& y)) :: st) n h) : XV G k kS pc L (.int (nI y) :: .int (nI x) :: st) n h := xv_iand hF hd hp (xv_topi (nx_andN x y) kk)
theorem xv_iushrN {G : xG} {K : xK} {cc : ByteArray} {own : String} {rm0 : Room} {mL k kS pc pc' n : Nat} {L : List (Nat × Value)} {st : List Value} {h : xH} {x y : Nat} (hF : XF G K cc own rm0 mL) (hx : x < 2 ^ 32) (hy : y < 32) (hd : decode cc pc = .ok (.iushr, 1)) (hp : pc + 1 = pc') (kk : XV G k kS pc' L (.int (nI (x / 2 ^ y)) :: st) n h) : XV G k kS pc L (.int (nI y) :: .int (nI x) :: st) n h := xv_iushr hF hd (pk_ushrN hx (nI y) y (s_u y hy)) hp kk
theorem xv_ldcw {G : xG} {K : xK} {cc : ByteArray} {own : String} {rm0 : Room} {mL k kS pc pc' n : Nat} {L : List (Nat × Value)} {st : List Value} {h : xH} {idx : Nat} {v : Int32} (hF : XF G K cc own rm0 mL) (hl9 : Cond.constant own idx v ∈ x_T) (hd : decode cc pc = .ok (.ldc_w idx, 3)) (hp : pc + 3 = pc') (kk : XV G k kS pc' L (.int v :: st) n h) : XV G k kS pc L st n h := by
  obtain ⟨p, e, R, s, m, args, below, meth, c, ⟨l, D, cx, b⟩, H0, maxL, Q⟩ := G
  obtain ⟨⟨hx, hb, hml, hown, hts⟩, hK, rfl, hbs, rfl, rfl, hN⟩ := hF
  subst hp
  intro H locs ls hok hS hl
  exact lv_ldcw hx hb hown (hts _ hl9) hd (kk H locs ls hok hS hl)
/-- -1 for 0, else the number below -/
def xm1 (s : Nat) : Int32 := if s = 0 then -1 else nI (s - 1)
end
section
/-! relations: a matrix M of least lengths (1000000: none), as bits and lengths -/
theorem bt_inN (x : Int32) {t : Nat} (ht : t < 32) : ((x.toUInt32 >>> ((nI t).toUInt32 &&& Int32.toUInt32 31)).toInt32 &&& nI 1) = 0 ↔ bt x t = false := bt_in x ht
theorem bt_oneN (t : Nat) (ht : t < 32) (i : Nat) (hi : i < 32) : bt (nI 1 <<< (nI t &&& 31)) i = decide (i = t) := bt_one t ht i hi
theorem bt_maskN (x : Int32) {t : Nat} (ht : t < 32) : (x &&& (nI 1 <<< (nI t &&& 31))) = 0 ↔ bt x t = false := bt_mask x ht
def re_at (K : xK) (h : xH) (a : Nat) (f g : Nat → Int32) : Prop := h a = some (.inr (2, [.ref (a + 1), .ref (a + 2)])) ∧ h (a + 1) = some (.inl (K.2.2.1 0, 32, .inl f)) ∧ h (a + 2) = some (.inl (K.2.2.1 0, 1024, .inl g))
def re_is (f g : Nat → Int32) (M : Nat → Nat → Nat) : Prop := ∀ i j, i < 32 → j < 32 → bt (f i) j = decide (M i j < 1000000) ∧ (M i j < 1000000 → g (i * 32 + j) = nI (M i j))
def re_R (K : xK) (h : xH) (a : Nat) (M : Nat → Nat → Nat) : Prop := ∃ f g, re_at K h a f g ∧ re_is f g M
def re_fr (h h' : xH) (a : Nat) : Prop := ∀ q, q ≠ a + 1 → q ≠ a + 2 → h' q = h q
theorem re_fr.rf {h : xH} {a : Nat} : re_fr h h a := fun _ _ _ => rfl
theorem re_fr.tr {h h1 h2 : xH} {a : Nat} (p : re_fr h h1 a) (q : re_fr h1 h2 a) : re_fr h h2 a := fun x h1 h2 => (q x h1 h2).trans (p x h1 h2)
theorem re_R.congr {K : xK} {h : xH} {a : Nat} {M M' : Nat → Nat → Nat} (p : re_R K h a M) (he : ∀ i j, i < 32 → j < 32 → M' i j = M i j) : re_R K h a M' := by
  obtain ⟨f, g, h1, h2⟩ := p
  exact ⟨f, g, h1, fun i j hi hj => by rw [he i j hi hj]; exact h2 i j hi hj⟩
/-- two relations are one, or have no cell in common -/
def re_ap (a c : Nat) : Prop := a + 3 ≤ c ∨ c + 3 ≤ a
theorem re_R.keep {K : xK} {h h' : xH} {a c : Nat} {N : Nat → Nat → Nat} (hfr : re_fr h h' a) (hap : re_ap a c) (p : re_R K h c N) : re_R K h' c N := by
  obtain ⟨f, g, ⟨h1, h2, h3⟩, h4⟩ := p
  unfold re_ap at hap
  exact ⟨f, g, ⟨(hfr _ (by omega) (by omega)).trans h1, (hfr _ (by omega) (by omega)).trans h2, (hfr _ (by omega) (by omega)).trans h3⟩, h4⟩
def md_set (M : Nat → Nat → Nat) (i j w : Nat) : Nat → Nat → Nat := fun x y => if x = i ∧ y = j then w else M x y
theorem md_set_s {M : Nat → Nat → Nat} {i j w : Nat} : md_set M i j w i j = w := by simp [md_set]
theorem md_set_n {M : Nat → Nat → Nat} {i j w x y : Nat} (h : ¬ (x = i ∧ y = j)) : md_set M i j w x y = M x y := by simp [md_set, h]
theorem md_set_id {M : Nat → Nat → Nat} {i j : Nat} : md_set M i j (M i j) = M := by
  funext x y
  unfold md_set
  split
  · rename_i h; rw [h.1, h.2]
  · rfl
/-! PathDesk.isIn -/
set_option maxHeartbeats 4000000 in
set_option maxRecDepth 100000 in
theorem c_PD_isIn (K : xK) (n : Nat) (h : xH) (x : Int32) (t : Nat) (ht : t < 32) : XM K xy_PD_isIn xw_PD_isIn (xrm 0 0 0 0) [.int x, .int (nI t)] n h (x_pi fun r n' h' => r = xb (bt x t) ∧ n = n' ∧ h = h') 0 0 := by
  refine xm_z (by decide +kernel) (Nat.le_of_ble_eq_true rfl) (fun G hF hR => ?_)
  refine xv_iload_n (pc' := 1) (i := 0) hF xd_PD_isIn_0 rfl rfl rfl ?_
  refine xv_iload_n (pc' := 2) (i := 1) hF xd_PD_isIn_1 rfl rfl rfl ?_
  refine xv_iushr (pc' := 3) hF xd_PD_isIn_2 rfl rfl ?_
  refine xv_iconstN (pc' := 4) 1 hF xd_PD_isIn_3 (by decide +kernel) rfl ?_
  refine xv_iand (pc' := 5) hF xd_PD_isIn_4 rfl ?_
  refine xv_if_eq (pc' := 8) (tgt := 12) hF xd_PD_isIn_5 (by decide) rfl (fun e => ?_) (fun e => ?_)
  · rw [bt_inN x ht] at e
    refine xv_iconstN (pc' := 13) 0 hF xd_PD_isIn_12 (by decide +kernel) rfl ?_
    refine hR _ _ _ _ _ _ _ (by omega) (by omega) ?_ (by first | rfl | exact xb_nw _ | decide +kernel) xd_PD_isIn_13
    exact ⟨by rw [e]; decide +kernel, rfl, rfl⟩
  · rw [bt_inN x ht] at e
    refine xv_iconstN (pc' := 9) 1 hF xd_PD_isIn_8 (by decide +kernel) rfl ?_
    refine xv_goto (tgt := 13) hF xd_PD_isIn_9 (by decide) ?_
    refine hR _ _ _ _ _ _ _ (by omega) (by omega) ?_ (by first | rfl | exact xb_nw _ | decide +kernel) xd_PD_isIn_13
    exact ⟨by rw [Bool.not_eq_false] at e; rw [e]; decide +kernel, rfl, rfl⟩
/-! Relation.offer -/
theorem re_off {f g : Nat → Int32} {M : Nat → Nat → Nat} {i j w : Nat} (hM : re_is f g M) (hi : i < 32) (hj : j < 32) (hw : w < 1000000) (hlt : w ≤ M i j) : re_is (upd f i (f i ||| nI 1 <<< (nI j &&& 31))) (upd g (i * 32 + j) (nI w)) (md_set M i j w) := by
  intro x y hx hy
  obtain ⟨h1, h2⟩ := hM x y hx hy
  by_cases e : x = i
  · subst e
    by_cases e2 : y = j
    · subst e2
      rw [md_set_s, pk_us, pk_us, b_or, bt_oneN y hj y hj]
      simp [hw]
    · rw [md_set_n (by omega), pk_us, pk_un (by omega), b_or, bt_oneN j hj y hy, h1]
      simp [e2]
      exact h2
  · rw [md_set_n (by omega), pk_un e, pk_un (by omega)]
    exact ⟨h1, h2⟩
set_option maxHeartbeats 4000000 in
set_option maxRecDepth 100000 in
theorem c_RE_offer (K : xK) (n : Nat) (h : xH) (a i j w : Nat) (M : Nat → Nat → Nat) (hr : re_R K h a M) (hi : i < 32) (hj : j < 32) (hw : w < 1000000) : XM K xy_RE_offer xw_RE_offer (xrm 0 0 0 0) [.ref a, .int (nI i), .int (nI j), .int (nI w)] n h (x_pv fun n' h' => n = n' ∧ re_fr h h' a ∧ re_R K h' a (md_set M i j (min (M i j) w))) 0 0 := by
  obtain ⟨f, g, ⟨ha, hf, hg⟩, hM⟩ := hr
  obtain ⟨m1, m2⟩ := hM i j hi hj
  refine xm_v (by decide +kernel) (Nat.le_of_ble_eq_true rfl) (fun G hF hR => ?_)
  refine xv_iload_n (pc' := 1) (i := 1) hF xd_RE_offer_0 rfl rfl rfl ?_
  refine xv_bipushN (pc' := 3) 32 hF xd_RE_offer_1 (by decide +kernel) rfl ?_
  first | refine xv_imulN (pc' := 4) hF xd_RE_offer_3 rfl ?_ | refine xv_imul (pc' := 4) hF xd_RE_offer_3 rfl ?_
  refine xv_iload_n (pc' := 5) (i := 2) hF xd_RE_offer_4 rfl rfl rfl ?_
  first | refine xv_iaddN (pc' := 6) hF xd_RE_offer_5 rfl ?_ | refine xv_iadd (pc' := 6) hF xd_RE_offer_5 rfl ?_
  refine xv_istore (pc' := 8) hF xd_RE_offer_6 (Nat.le_of_ble_eq_true rfl) rfl rfl ?_
  refine xv_iconstN (pc' := 9) 1 hF xd_RE_offer_8 (by decide +kernel) rfl ?_
  refine xv_iload_n (pc' := 10) (i := 2) hF xd_RE_offer_9 rfl rfl rfl ?_
  refine xv_ishl (pc' := 11) hF xd_RE_offer_10 rfl ?_
  refine xv_istore (pc' := 13) hF xd_RE_offer_11 (Nat.le_of_ble_eq_true rfl) rfl rfl ?_
  refine xv_aload_n (pc' := 14) (i := 0) hF xd_RE_offer_13 rfl rfl rfl ?_
  refine xv_get (pc' := 17) (ci := 2) hF (by first | assumption | exact xu_self | (refine (xu_ne (by omega)).trans ?_; first | assumption | exact xu_self | (refine (xu_ne (by omega)).trans ?_; first | assumption | exact xu_self | (refine (xu_ne (by omega)).trans ?_; first | assumption | exact xu_self | (refine (xu_ne (by omega)).trans ?_; first | assumption | exact xu_self))))) rfl xu_RE 0 (by decide) xk_RE_f9 (by rfl) xd_RE_offer_14 rfl ?_
  refine xv_iload_n (pc' := 18) (i := 1) hF xd_RE_offer_17 rfl rfl rfl ?_
  first | refine xv_ialdN (pc' := 19) hF (by first | assumption | exact xu_self | (refine (xu_ne (by omega)).trans ?_; first | assumption | exact xu_self | (refine (xu_ne (by omega)).trans ?_; first | assumption | exact xu_self | (refine (xu_ne (by omega)).trans ?_; first | assumption | exact xu_self | (refine (xu_ne (by omega)).trans ?_; first | assumption | exact xu_self))))) (by omega) (by decide) xd_RE_offer_18 rfl ?_ | refine xv_iald (pc' := 19) hF (by first | assumption | exact xu_self | (refine (xu_ne (by omega)).trans ?_; first | assumption | exact xu_self | (refine (xu_ne (by omega)).trans ?_; first | assumption | exact xu_self | (refine (xu_ne (by omega)).trans ?_; first | assumption | exact xu_self | (refine (xu_ne (by omega)).trans ?_; first | assumption | exact xu_self))))) (by omega) xd_RE_offer_18 rfl ?_
  refine xv_iload (pc' := 21) hF xd_RE_offer_19 rfl rfl ?_
  refine xv_iand (pc' := 22) hF xd_RE_offer_21 rfl ?_
  have fin : w ≤ M i j → XV G 0 0 36 [(5, .int (nI 1 <<< (nI j &&& 31))), (4, .int (nI (i * 32 + j))), (0, .ref a), (1, .int (nI i)), (2, .int (nI j)), (3, .int (nI w))] [] n h := by
    intro hle
    refine xv_aload_n (pc' := 37) (i := 0) hF xd_RE_offer_36 rfl rfl rfl ?_
    refine xv_get (pc' := 40) (ci := 2) hF (by first | assumption | exact xu_self | (refine (xu_ne (by omega)).trans ?_; first | assumption | exact xu_self | (refine (xu_ne (by omega)).trans ?_; first | assumption | exact xu_self | (refine (xu_ne (by omega)).trans ?_; first | assumption | exact xu_self | (refine (xu_ne (by omega)).trans ?_; first | assumption | exact xu_self))))) rfl xu_RE 0 (by decide) xk_RE_f9 (by rfl) xd_RE_offer_37 rfl ?_
    refine xv_iload_n (pc' := 41) (i := 1) hF xd_RE_offer_40 rfl rfl rfl ?_
    refine xv_dup2 (pc' := 42) hF xd_RE_offer_41 rfl rfl rfl ?_
    first | refine xv_ialdN (pc' := 43) hF (by first | assumption | exact xu_self | (refine (xu_ne (by omega)).trans ?_; first | assumption | exact xu_self | (refine (xu_ne (by omega)).trans ?_; first | assumption | exact xu_self | (refine (xu_ne (by omega)).trans ?_; first | assumption | exact xu_self | (refine (xu_ne (by omega)).trans ?_; first | assumption | exact xu_self))))) (by omega) (by decide) xd_RE_offer_42 rfl ?_ | refine xv_iald (pc' := 43) hF (by first | assumption | exact xu_self | (refine (xu_ne (by omega)).trans ?_; first | assumption | exact xu_self | (refine (xu_ne (by omega)).trans ?_; first | assumption | exact xu_self | (refine (xu_ne (by omega)).trans ?_; first | assumption | exact xu_self | (refine (xu_ne (by omega)).trans ?_; first | assumption | exact xu_self))))) (by omega) xd_RE_offer_42 rfl ?_
    refine xv_iload (pc' := 45) hF xd_RE_offer_43 rfl rfl ?_
    refine xv_ior (pc' := 46) hF xd_RE_offer_45 rfl ?_
    refine xv_iastN (pc' := 47) hF (by first | assumption | exact xu_self | (refine (xu_ne (by omega)).trans ?_; first | assumption | exact xu_self | (refine (xu_ne (by omega)).trans ?_; first | assumption | exact xu_self | (refine (xu_ne (by omega)).trans ?_; first | assumption | exact xu_self | (refine (xu_ne (by omega)).trans ?_; first | assumption | exact xu_self))))) (by omega) (by decide) xd_RE_offer_46 rfl ?_
    refine xv_aload_n (pc' := 48) (i := 0) hF xd_RE_offer_47 rfl rfl rfl ?_
    refine xv_get (pc' := 51) (ci := 2) hF (by first | assumption | exact xu_self | (refine (xu_ne (by omega)).trans ?_; first | assumption | exact xu_self | (refine (xu_ne (by omega)).trans ?_; first | assumption | exact xu_self | (refine (xu_ne (by omega)).trans ?_; first | assumption | exact xu_self | (refine (xu_ne (by omega)).trans ?_; first | assumption | exact xu_self))))) rfl xu_RE 1 (by decide) xk_RE_f15 (by rfl) xd_RE_offer_48 rfl ?_
    refine xv_iload (pc' := 53) hF xd_RE_offer_51 rfl rfl ?_
    refine xv_iload_n (pc' := 54) (i := 3) hF xd_RE_offer_53 rfl rfl rfl ?_
    refine xv_iastN (pc' := 55) hF (by first | assumption | exact xu_self | (refine (xu_ne (by omega)).trans ?_; first | assumption | exact xu_self | (refine (xu_ne (by omega)).trans ?_; first | assumption | exact xu_self | (refine (xu_ne (by omega)).trans ?_; first | assumption | exact xu_self | (refine (xu_ne (by omega)).trans ?_; first | assumption | exact xu_self))))) (by omega) (by decide) xd_RE_offer_54 rfl ?_
    refine hR _ _ _ _ _ _ (by omega) (by omega) ?_ xd_RE_offer_55
    refine ⟨rfl, fun q h1 h2 => ?_, ?_⟩
    · rw [xu_ne h2, xu_ne h1]
    · rw [Nat.min_eq_right hle]
      exact ⟨_, _, ⟨by rw [xu_ne (by omega), xu_ne (by omega)]; exact ha, by rw [xu_ne (by omega)]; exact xu_self, xu_self⟩, re_off hM hi hj hw hle⟩
  refine xv_if_eq (pc' := 25) (tgt := 36) hF xd_RE_offer_22 (by decide) rfl (fun e => ?_) (fun e => ?_)
  · rw [bt_maskN _ hj, m1] at e
    have e : ¬ M i j < 1000000 := of_decide_eq_false e
    refine xv_loc _ ?_ (fin (by omega))
    exact ⟨rfl, rfl, rfl, rfl, rfl, rfl, trivial⟩
  · rw [bt_maskN _ hj, m1, Bool.not_eq_false] at e
    have e : M i j < 1000000 := of_decide_eq_true e
    refine xv_iload_n (pc' := 26) (i := 3) hF xd_RE_offer_25 rfl rfl rfl ?_
    refine xv_aload_n (pc' := 27) (i := 0) hF xd_RE_offer_26 rfl rfl rfl ?_
    refine xv_get (pc' := 30) (ci := 2) hF (by first | assumption | exact xu_self | (refine (xu_ne (by omega)).trans ?_; first | assumption | exact xu_self | (refine (xu_ne (by omega)).trans ?_; first | assumption | exact xu_self | (refine (xu_ne (by omega)).trans ?_; first | assumption | exact xu_self | (refine (xu_ne (by omega)).trans ?_; first | assumption | exact xu_self))))) rfl xu_RE 1 (by decide) xk_RE_f15 (by rfl) xd_RE_offer_27 rfl ?_
    refine xv_iload (pc' := 32) hF xd_RE_offer_30 rfl rfl ?_
    first | refine xv_ialdN (pc' := 33) hF (by first | assumption | exact xu_self | (refine (xu_ne (by omega)).trans ?_; first | assumption | exact xu_self | (refine (xu_ne (by omega)).trans ?_; first | assumption | exact xu_self | (refine (xu_ne (by omega)).trans ?_; first | assumption | exact xu_self | (refine (xu_ne (by omega)).trans ?_; first | assumption | exact xu_self))))) (by omega) (by decide) xd_RE_offer_32 rfl ?_ | refine xv_iald (pc' := 33) hF (by first | assumption | exact xu_self | (refine (xu_ne (by omega)).trans ?_; first | assumption | exact xu_self | (refine (xu_ne (by omega)).trans ?_; first | assumption | exact xu_self | (refine (xu_ne (by omega)).trans ?_; first | assumption | exact xu_self | (refine (xu_ne (by omega)).trans ?_; first | assumption | exact xu_self))))) (by omega) xd_RE_offer_32 rfl ?_
    refine xv_topi (m2 e) ?_
    refine xv_icmp_geN (pc' := 36) (tgt := 55) hF (by omega) (by omega) xd_RE_offer_33 (by decide) rfl (fun e2 => ?_) (fun e2 => ?_)
    · refine hR _ _ _ _ _ _ (by omega) (by omega) ?_ xd_RE_offer_55
      exact ⟨rfl, re_fr.rf, f, g, ⟨ha, hf, hg⟩, by rw [Nat.min_eq_left e2, md_set_id]; exact hM⟩
    · refine xv_loc _ ?_ (fin (by omega))
      exact ⟨rfl, rfl, rfl, rfl, rfl, rfl, trivial⟩
end
section
theorem xu_same {h : xH} {a : Nat} {e : va_E} (ha : h a = some e) : xu h a e = h := by
  funext q
  unfold xu
  split
  · rename_i e1; rw [e1, ha]
  · rfl
/-! Arrays.fill -/
set_option maxHeartbeats 4000000 in
set_option maxRecDepth 100000 in
theorem c_JA_fill (K : xK) (n : Nat) (h : xH) (q N : Nat) (v : Int32) (f : Nat → Int32) (hq : h q = some (.inl (K.2.2.1 0, N, .inl f))) (hN : N < 2 ^ 30) : XM K xy_JA_fill xw_JA_fill (xrm 0 0 0 0) [.ref q, .int v] n h (x_pv fun n' h' => n = n' ∧ ∃ f', h' = xu h q (.inl (K.2.2.1 0, N, .inl f')) ∧ ∀ j, j < N → f' j = v) 0 0 := by
  refine xm_v (by decide +kernel) (Nat.le_of_ble_eq_true rfl) (fun G hF hR => ?_)
  refine xv_iconstN (pc' := 1) 0 hF xd_JA_fill_0 (by decide +kernel) rfl ?_
  refine xv_istore_n (pc' := 2) (i := 2) hF xd_JA_fill_1 rfl (Nat.le_of_ble_eq_true rfl) rfl rfl ?_
  refine xv_aload_n (pc' := 3) (i := 0) hF xd_JA_fill_2 rfl rfl rfl ?_
  refine xv_alen (pc' := 4) (v := nI N) 0 hF (by assumption) rfl rfl xd_JA_fill_3 rfl ?_
  refine xv_istore_n (pc' := 5) (i := 3) hF xd_JA_fill_4 rfl (Nat.le_of_ble_eq_true rfl) rfl rfl ?_
  have loop : ∀ d i f1, N - i = d → i ≤ N → (∀ j, j < i → f1 j = v) → XV G 0 0 5 [(3, .int (nI N)), (2, .int (nI i)), (0, .ref q), (1, .int v)] [] n (xu h q (.inl (K.2.2.1 0, N, .inl f1))) := by
    intro d
    induction d using Nat.strongRecOn with
    | ind d ih =>
      intro i f1 hd hi hf
      refine xv_iload_n (pc' := 6) (i := 2) hF xd_JA_fill_5 rfl rfl rfl ?_
      refine xv_iload_n (pc' := 7) (i := 3) hF xd_JA_fill_6 rfl rfl rfl ?_
      refine xv_icmp_geN (pc' := 10) (tgt := 20) hF (by omega) (by omega) xd_JA_fill_7 (by decide) rfl (fun e => ?_) (fun e => ?_)
      · refine hR _ _ _ _ _ _ (by omega) (by omega) ?_ xd_JA_fill_20
        exact ⟨rfl, f1, rfl, fun j hj => hf j (by omega)⟩
      · refine xv_aload_n (pc' := 11) (i := 0) hF xd_JA_fill_10 rfl rfl rfl ?_
        refine xv_iload_n (pc' := 12) (i := 2) hF xd_JA_fill_11 rfl rfl rfl ?_
        refine xv_iload_n (pc' := 13) (i := 1) hF xd_JA_fill_12 rfl rfl rfl ?_
        refine xv_iastN (pc' := 14) hF xu_self (by omega) (by omega) xd_JA_fill_13 rfl ?_
        first | refine xv_iincN (pc' := 17) hF xd_JA_fill_14 rfl rfl (Nat.le_of_ble_eq_true rfl) rfl rfl ?_ | refine xv_iinc (pc' := 17) hF xd_JA_fill_14 rfl rfl (Nat.le_of_ble_eq_true rfl) rfl rfl ?_
        refine xv_goto (tgt := 5) hF xd_JA_fill_17 (by decide) ?_
        rw [xu_xu]
        refine xv_loc _ (by repeat (first | exact trivial | refine ⟨rfl, ?_⟩)) (ih _ (by omega) (i + 1) _ rfl (by omega) ?_)
        intro j hj
        by_cases e2 : j = i
        · rw [e2, pk_us]
        · rw [pk_un e2]; exact hf j (by omega)
  have h0 := loop N 0 f (by omega) (by omega) (fun j hj => by omega)
  rw [xu_same hq] at h0
  exact xv_loc _ (by repeat (first | exact trivial | refine ⟨rfl, ?_⟩)) h0
/-! Relation.clear -/
def md_no : Nat → Nat → Nat := fun _ _ => 1000000
set_option maxHeartbeats 4000000 in
set_option maxRecDepth 100000 in
theorem c_RE_clear (K : xK) (n : Nat) (h : xH) (a : Nat) (M : Nat → Nat → Nat) (hr : re_R K h a M) : XM K xy_RE_clear xw_RE_clear (xrm 1 23 0 0) [.ref a] n h (x_pv fun n' h' => n = n' ∧ re_fr h h' a ∧ re_R K h' a md_no) 0 0 := by
  obtain ⟨f, g, ⟨ha, hf, hg⟩, hM⟩ := hr
  refine xm_v (by decide +kernel) (Nat.le_of_ble_eq_true rfl) (fun G hF hR => ?_)
  refine xv_aload_n (pc' := 1) (i := 0) hF xd_RE_clear_0 rfl rfl rfl ?_
  refine xv_get (pc' := 4) (ci := 2) hF (by first | assumption | exact xu_self | (refine (xu_ne (by omega)).trans ?_; first | assumption | exact xu_self | (refine (xu_ne (by omega)).trans ?_; first | assumption | exact xu_self | (refine (xu_ne (by omega)).trans ?_; first | assumption | exact xu_self | (refine (xu_ne (by omega)).trans ?_; first | assumption | exact xu_self))))) rfl xu_RE 0 (by decide) xk_RE_f9 (by rfl) xd_RE_clear_1 rfl ?_
  refine xv_iconstN (pc' := 5) 0 hF xd_RE_clear_4 (by decide +kernel) rfl ?_
  refine xv_callSv (pc' := 8) hF (c_JA_fill K n h (a + 1) 32 (nI 0) f hf (by decide)) xq_JA_fill xk_RE_m18 xk_t_JA_fill ⟨(Nat.le_of_ble_eq_true rfl), (Nat.le_of_ble_eq_true rfl)⟩ rfl rfl (Nat.le_of_ble_eq_true rfl) ⟨(Nat.le_of_ble_eq_true rfl), (Nat.le_of_ble_eq_true rfl)⟩ xd_RE_clear_5 rfl (fun n1 h1 p1 => ?_)
  obtain ⟨rfl, f', rfl, hz⟩ := p1
  refine hR _ _ _ _ _ _ (by omega) (by omega) ?_ xd_RE_clear_8
  refine ⟨rfl, fun q h1 h2 => xu_ne h1, f', g, ⟨by rw [xu_ne (by omega)]; exact ha, xu_self, by rw [xu_ne (by omega)]; exact hg⟩, fun i j hi hj => ⟨?_, fun hx => absurd hx (by unfold md_no; omega)⟩⟩
  rw [hz i hi]
  exact (b_0 j).trans (by unfold md_no; decide)
/-! Relation.addStays -/
def md_st (M : Nat → Nat → Nat) (x : Int32) (t : Nat) : Nat → Nat → Nat := fun i j => if i = j ∧ i < t ∧ bt x i = true then 0 else M i j
set_option maxHeartbeats 4000000 in
set_option maxRecDepth 100000 in
theorem c_RE_addStays (K : xK) (n : Nat) (h : xH) (a : Nat) (x : Int32) (M : Nat → Nat → Nat) (hr : re_R K h a M) : XM K xy_RE_addStays xw_RE_addStays (xrm 1 25 0 0) [.ref a, .int x] n h (x_pv fun n' h' => n = n' ∧ re_fr h h' a ∧ re_R K h' a (md_st M x 32)) 0 0 := by
  refine xm_v (by decide +kernel) (Nat.le_of_ble_eq_true rfl) (fun G hF hR => ?_)
  refine xv_iconstN (pc' := 1) 0 hF xd_RE_addStays_0 (by decide +kernel) rfl ?_
  refine xv_istore_n (pc' := 2) (i := 2) hF xd_RE_addStays_1 rfl (Nat.le_of_ble_eq_true rfl) rfl rfl ?_
  have loop : ∀ d i h1, 32 - i = d → i ≤ 32 → re_fr h h1 a → re_R K h1 a (md_st M x i) → XV G 0 0 2 [(2, .int (nI i)), (0, .ref a), (1, .int x)] [] n h1 := by
    intro d
    induction d using Nat.strongRecOn with
    | ind d ih =>
      intro i h1 hd hi hfr hr1
      refine xv_iload_n (pc' := 3) (i := 2) hF xd_RE_addStays_2 rfl rfl rfl ?_
      refine xv_bipushN (pc' := 5) 32 hF xd_RE_addStays_3 (by decide +kernel) rfl ?_
      refine xv_icmp_geN (pc' := 8) (tgt := 29) hF (by omega) (by omega) xd_RE_addStays_5 (by decide) rfl (fun e => ?_) (fun e => ?_)
      · refine hR _ _ _ _ _ _ (by omega) (by omega) ?_ xd_RE_addStays_29
        have : i = 32 := by omega
        subst this
        exact ⟨rfl, hfr, hr1⟩
      · refine xv_iload_n (pc' := 9) (i := 1) hF xd_RE_addStays_8 rfl rfl rfl ?_
        refine xv_iload_n (pc' := 10) (i := 2) hF xd_RE_addStays_9 rfl rfl rfl ?_
        refine xv_callSNi (pc' := 13) hF (c_PD_isIn K n h1 x i (by omega)) xq_PD_isIn xk_RE_m24 xk_t_PD_isIn ⟨(Nat.le_of_ble_eq_true rfl), (Nat.le_of_ble_eq_true rfl)⟩ rfl rfl (Nat.le_of_ble_eq_true rfl) ⟨(Nat.le_of_ble_eq_true rfl), (Nat.le_of_ble_eq_true rfl)⟩ xd_RE_addStays_10 rfl (fun r n2 h2 p2 => ?_)
        obtain ⟨rfl, rfl, rfl⟩ := p2
        refine xv_if_eqB (pc' := 16) (tgt := 23) hF xd_RE_addStays_13 (by decide) rfl (fun e2 => ?_) (fun e2 => ?_)
        · first | refine xv_iincN (pc' := 26) hF xd_RE_addStays_23 rfl rfl (Nat.le_of_ble_eq_true rfl) rfl rfl ?_ | refine xv_iinc (pc' := 26) hF xd_RE_addStays_23 rfl rfl (Nat.le_of_ble_eq_true rfl) rfl rfl ?_
          refine xv_goto (tgt := 2) hF xd_RE_addStays_26 (by decide) ?_
          refine xv_loc _ (by repeat (first | exact trivial | refine ⟨rfl, ?_⟩)) (ih _ (by omega) (i + 1) _ rfl (by omega) hfr (hr1.congr ?_))
          intro y z hy hz
          unfold md_st
          by_cases c : y = i
          · subst c; simp [e2]
          · have : (y < i + 1) ↔ (y < i) := by omega
            simp only [this]
        · refine xv_aload_n (pc' := 17) (i := 0) hF xd_RE_addStays_16 rfl rfl rfl ?_
          refine xv_iload_n (pc' := 18) (i := 2) hF xd_RE_addStays_17 rfl rfl rfl ?_
          refine xv_iload_n (pc' := 19) (i := 2) hF xd_RE_addStays_18 rfl rfl rfl ?_
          refine xv_iconstN (pc' := 20) 0 hF xd_RE_addStays_19 (by decide +kernel) rfl ?_
          have hr2 := hr1
          obtain ⟨f, g, ⟨ha, hf, hg⟩, hM⟩ := hr2
          refine xv_callVv (pc' := 23) (ci := 2) hF (c_RE_offer K n h1 a i i 0 _ hr1 (by omega) (by omega) (by decide)) xq_RE_offer xk_RE_m28 xk_i_RE_offer xk_s_RE_offer (by first | assumption | exact xu_self | (refine (xu_ne (by omega)).trans ?_; first | assumption | exact xu_self | (refine (xu_ne (by omega)).trans ?_; first | assumption | exact xu_self | (refine (xu_ne (by omega)).trans ?_; first | assumption | exact xu_self | (refine (xu_ne (by omega)).trans ?_; first | assumption | exact xu_self))))) rfl ⟨(Nat.le_of_ble_eq_true rfl), (Nat.le_of_ble_eq_true rfl)⟩ rfl rfl (Nat.le_of_ble_eq_true rfl) ⟨(Nat.le_of_ble_eq_true rfl), (Nat.le_of_ble_eq_true rfl)⟩ xd_RE_addStays_20 rfl (fun n3 h3 p3 => ?_)
          obtain ⟨rfl, hfr3, hr3⟩ := p3
          first | refine xv_iincN (pc' := 26) hF xd_RE_addStays_23 rfl rfl (Nat.le_of_ble_eq_true rfl) rfl rfl ?_ | refine xv_iinc (pc' := 26) hF xd_RE_addStays_23 rfl rfl (Nat.le_of_ble_eq_true rfl) rfl rfl ?_
          refine xv_goto (tgt := 2) hF xd_RE_addStays_26 (by decide) ?_
          refine xv_loc _ (by repeat (first | exact trivial | refine ⟨rfl, ?_⟩)) (ih _ (by omega) (i + 1) _ rfl (by omega) (hfr.tr hfr3) (hr3.congr ?_))
          intro y z hy hz
          unfold md_set md_st
          by_cases c : y = i
          · subst c
            by_cases c2 : z = y
            · subst c2; simp [e2]
            · have c3 : ¬ y = z := fun h => c2 h.symm
              simp [c2, c3]
          · have : (y < i + 1) ↔ (y < i) := by omega
            simp [c, this]
  refine xv_loc _ (by repeat (first | exact trivial | refine ⟨rfl, ?_⟩)) (loop 32 0 h (by omega) (by omega) re_fr.rf (hr.congr ?_))
  intro y z hy hz
  unfold md_st
  simp
end
section
/-! Relation.addGoingOn: row i of M is led on from v by N, behind a length w -/
def md_go (M N : Nat → Nat → Nat) (i w v t : Nat) : Nat → Nat → Nat := fun x y => if x = i ∧ y < t ∧ N v y < 1000000 then min (M x y) (w + N v y) else M x y
set_option maxHeartbeats 4000000 in
set_option maxRecDepth 100000 in
theorem c_RE_addGoingOn (K : xK) (n : Nat) (h : xH) (a i w c v : Nat) (M N : Nat → Nat → Nat) (hr : re_R K h a M) (hc : re_R K h c N) (hal : (c = a ∧ N = M) ∨ re_ap a c) (hi : i < 32) (hv : v < 32) (hw : w < 1000000) (hb : ∀ j, j < 32 → N v j < 1000000 → w + N v j < 1000000) : XM K xy_RE_addGoingOn xw_RE_addGoingOn (xrm 1 25 0 0) [.ref a, .int (nI i), .int (nI w), .ref c, .int (nI v)] n h (x_pv fun n' h' => n = n' ∧ re_fr h h' a ∧ re_R K h' a (md_go M N i w v 32)) 0 0 := by
  obtain ⟨fN, gN, ⟨hc1, hc2, hc3⟩, hcN⟩ := id hc
  refine xm_v (by decide +kernel) (Nat.le_of_ble_eq_true rfl) (fun G hF hR => ?_)
  refine xv_aload_n (pc' := 1) (i := 3) hF xd_RE_addGoingOn_0 rfl rfl rfl ?_
  refine xv_get (pc' := 4) (ci := 2) hF (by first | assumption | exact xu_self | (refine (xu_ne (by omega)).trans ?_; first | assumption | exact xu_self | (refine (xu_ne (by omega)).trans ?_; first | assumption | exact xu_self | (refine (xu_ne (by omega)).trans ?_; first | assumption | exact xu_self | (refine (xu_ne (by omega)).trans ?_; first | assumption | exact xu_self))))) rfl xu_RE 0 (by decide) xk_RE_f9 (by rfl) xd_RE_addGoingOn_1 rfl ?_
  refine xv_iload (pc' := 6) hF xd_RE_addGoingOn_4 rfl rfl ?_
  first | refine xv_ialdN (pc' := 7) hF (by first | assumption | exact xu_self | (refine (xu_ne (by omega)).trans ?_; first | assumption | exact xu_self | (refine (xu_ne (by omega)).trans ?_; first | assumption | exact xu_self | (refine (xu_ne (by omega)).trans ?_; first | assumption | exact xu_self | (refine (xu_ne (by omega)).trans ?_; first | assumption | exact xu_self))))) (by omega) (by decide) xd_RE_addGoingOn_6 rfl ?_ | refine xv_iald (pc' := 7) hF (by first | assumption | exact xu_self | (refine (xu_ne (by omega)).trans ?_; first | assumption | exact xu_self | (refine (xu_ne (by omega)).trans ?_; first | assumption | exact xu_self | (refine (xu_ne (by omega)).trans ?_; first | assumption | exact xu_self | (refine (xu_ne (by omega)).trans ?_; first | assumption | exact xu_self))))) (by omega) xd_RE_addGoingOn_6 rfl ?_
  refine xv_istore (pc' := 9) hF xd_RE_addGoingOn_7 (Nat.le_of_ble_eq_true rfl) rfl rfl ?_
  refine xv_iconstN (pc' := 10) 0 hF xd_RE_addGoingOn_9 (by decide +kernel) rfl ?_
  refine xv_istore (pc' := 12) hF xd_RE_addGoingOn_10 (Nat.le_of_ble_eq_true rfl) rfl rfl ?_
  have hx : ∀ j, j < 32 → bt (fN v) j = decide (N v j < 1000000) := fun j hj => (hcN v j hv hj).1
  generalize fN v = x at hx ⊢
  have loop : ∀ d t h1, 32 - t = d → t ≤ 32 → re_fr h h1 a → re_R K h1 a (md_go M N i w v t) → (∃ N1, re_R K h1 c N1 ∧ ((c = a ∧ N1 = md_go M N i w v t) ∨ N1 = N)) → XV G 0 0 12 [(6, .int (nI t)), (5, .int x), (0, .ref a), (1, .int (nI i)), (2, .int (nI w)), (3, .ref c), (4, .int (nI v))] [] n h1 := by
    intro d
    induction d using Nat.strongRecOn with
    | ind d ih =>
      intro t h1 hd ht hfr hr1 hc1'
      have fin : (∀ j, t ≤ j → j < 32 → ¬ N v j < 1000000) → re_R K h1 a (md_go M N i w v 32) := by
        intro hz
        refine hr1.congr fun y z hy hz2 => ?_
        unfold md_go
        by_cases c0 : z < t
        · simp [c0, hz2]
        · have := hz z (by omega) hz2
          simp [this]
      refine xv_iload (pc' := 14) hF xd_RE_addGoingOn_12 rfl rfl ?_
      refine xv_bipushN (pc' := 16) 32 hF xd_RE_addGoingOn_14 (by decide +kernel) rfl ?_
      refine xv_icmp_geN (pc' := 19) (tgt := 65) hF (by omega) (by omega) xd_RE_addGoingOn_16 (by decide) rfl (fun e => ?_) (fun e => ?_)
      · refine hR _ _ _ _ _ _ (by omega) (by omega) ?_ xd_RE_addGoingOn_65
        exact ⟨rfl, hfr, fin fun j h1 h2 => by omega⟩
      · refine xv_iload (pc' := 21) hF xd_RE_addGoingOn_19 rfl rfl ?_
        refine xv_iload (pc' := 23) hF xd_RE_addGoingOn_21 rfl rfl ?_
        refine xv_iushr (pc' := 24) hF xd_RE_addGoingOn_23 rfl rfl ?_
        refine xv_if_eq (pc' := 27) (tgt := 65) hF xd_RE_addGoingOn_24 (by decide) rfl (fun e1 => ?_) (fun e1 => ?_)
        · rw [bt_ush x e] at e1
          refine hR _ _ _ _ _ _ (by omega) (by omega) ?_ xd_RE_addGoingOn_65
          refine ⟨rfl, hfr, fin fun j q1 q2 => ?_⟩
          have := e1 j q1 q2
          rw [hx j q2] at this
          exact of_decide_eq_false this
        · clear e1
          refine xv_iload (pc' := 29) hF xd_RE_addGoingOn_27 rfl rfl ?_
          refine xv_iload (pc' := 31) hF xd_RE_addGoingOn_29 rfl rfl ?_
          refine xv_callSNi (pc' := 34) hF (c_PD_isIn K n h1 x t e) xq_PD_isIn xk_RE_m24 xk_t_PD_isIn ⟨(Nat.le_of_ble_eq_true rfl), (Nat.le_of_ble_eq_true rfl)⟩ rfl rfl (Nat.le_of_ble_eq_true rfl) ⟨(Nat.le_of_ble_eq_true rfl), (Nat.le_of_ble_eq_true rfl)⟩ xd_RE_addGoingOn_31 rfl (fun r n2 h2 p2 => ?_)
          obtain ⟨rfl, rfl, rfl⟩ := p2
          refine xv_if_eqB (pc' := 37) (tgt := 59) hF xd_RE_addGoingOn_34 (by decide) rfl (fun e2 => ?_) (fun e2 => ?_)
          · rw [hx t e] at e2
            have e2 := of_decide_eq_false e2
            have same : md_go M N i w v (t + 1) = md_go M N i w v t := by
              funext y z
              unfold md_go
              by_cases c0 : z = t
              · subst c0; simp [e2]
              · have : z < t + 1 ↔ z < t := by omega
                simp only [this]
            first | refine xv_iincN (pc' := 62) hF xd_RE_addGoingOn_59 rfl rfl (Nat.le_of_ble_eq_true rfl) rfl rfl ?_ | refine xv_iinc (pc' := 62) hF xd_RE_addGoingOn_59 rfl rfl (Nat.le_of_ble_eq_true rfl) rfl rfl ?_
            refine xv_goto (tgt := 12) hF xd_RE_addGoingOn_62 (by decide) ?_
            refine xv_loc _ (by repeat (first | exact trivial | refine ⟨rfl, ?_⟩)) (ih _ (by omega) (t + 1) _ rfl (by omega) hfr (by rw [same]; exact hr1) (by rw [same]; exact hc1'))
          · rw [hx t e] at e2
            have e2 := of_decide_eq_true e2
            obtain ⟨N1, hcR, hN1⟩ := hc1'
            have hN1t : N1 v t = N v t := by
              rcases hN1 with ⟨q1, rfl⟩ | rfl
              · rcases hal with ⟨-, rfl⟩ | q
                · unfold md_go; simp
                · unfold re_ap at q; omega
              · rfl
            obtain ⟨f1, g1, ⟨k1, k2, k3⟩, k4⟩ := id hcR
            have k5 := (k4 v t hv e).2 (by rw [hN1t]; exact e2)
            rw [hN1t] at k5
            obtain ⟨fA, gA, ⟨j1, j2, j3⟩, j4⟩ := id hr1
            refine xv_aload_n (pc' := 38) (i := 0) hF xd_RE_addGoingOn_37 rfl rfl rfl ?_
            refine xv_iload_n (pc' := 39) (i := 1) hF xd_RE_addGoingOn_38 rfl rfl rfl ?_
            refine xv_iload (pc' := 41) hF xd_RE_addGoingOn_39 rfl rfl ?_
            refine xv_iload_n (pc' := 42) (i := 2) hF xd_RE_addGoingOn_41 rfl rfl rfl ?_
            refine xv_aload_n (pc' := 43) (i := 3) hF xd_RE_addGoingOn_42 rfl rfl rfl ?_
            refine xv_get (pc' := 46) (ci := 2) hF (by first | assumption | exact xu_self | (refine (xu_ne (by omega)).trans ?_; first | assumption | exact xu_self | (refine (xu_ne (by omega)).trans ?_; first | assumption | exact xu_self | (refine (xu_ne (by omega)).trans ?_; first | assumption | exact xu_self | (refine (xu_ne (by omega)).trans ?_; first | assumption | exact xu_self))))) rfl xu_RE 1 (by decide) xk_RE_f15 (by rfl) xd_RE_addGoingOn_43 rfl ?_
            refine xv_iload (pc' := 48) hF xd_RE_addGoingOn_46 rfl rfl ?_
            refine xv_bipushN (pc' := 50) 32 hF xd_RE_addGoingOn_48 (by decide +kernel) rfl ?_
            first | refine xv_imulN (pc' := 51) hF xd_RE_addGoingOn_50 rfl ?_ | refine xv_imul (pc' := 51) hF xd_RE_addGoingOn_50 rfl ?_
            refine xv_iload (pc' := 53) hF xd_RE_addGoingOn_51 rfl rfl ?_
            first | refine xv_iaddN (pc' := 54) hF xd_RE_addGoingOn_53 rfl ?_ | refine xv_iadd (pc' := 54) hF xd_RE_addGoingOn_53 rfl ?_
            first | refine xv_ialdN (pc' := 55) hF (by first | assumption | exact xu_self | (refine (xu_ne (by omega)).trans ?_; first | assumption | exact xu_self | (refine (xu_ne (by omega)).trans ?_; first | assumption | exact xu_self | (refine (xu_ne (by omega)).trans ?_; first | assumption | exact xu_self | (refine (xu_ne (by omega)).trans ?_; first | assumption | exact xu_self))))) (by omega) (by decide) xd_RE_addGoingOn_54 rfl ?_ | refine xv_iald (pc' := 55) hF (by first | assumption | exact xu_self | (refine (xu_ne (by omega)).trans ?_; first | assumption | exact xu_self | (refine (xu_ne (by omega)).trans ?_; first | assumption | exact xu_self | (refine (xu_ne (by omega)).trans ?_; first | assumption | exact xu_self | (refine (xu_ne (by omega)).trans ?_; first | assumption | exact xu_self))))) (by omega) xd_RE_addGoingOn_54 rfl ?_
            refine xv_topi k5 ?_
            first | refine xv_iaddN (pc' := 56) hF xd_RE_addGoingOn_55 rfl ?_ | refine xv_iadd (pc' := 56) hF xd_RE_addGoingOn_55 rfl ?_
            refine xv_callVv (pc' := 59) (ci := 2) hF (c_RE_offer K n h1 a i t (w + N v t) _ hr1 hi e (hb t e e2)) xq_RE_offer xk_RE_m28 xk_i_RE_offer xk_s_RE_offer (by first | assumption | exact xu_self | (refine (xu_ne (by omega)).trans ?_; first | assumption | exact xu_self | (refine (xu_ne (by omega)).trans ?_; first | assumption | exact xu_self | (refine (xu_ne (by omega)).trans ?_; first | assumption | exact xu_self | (refine (xu_ne (by omega)).trans ?_; first | assumption | exact xu_self))))) rfl ⟨(Nat.le_of_ble_eq_true rfl), (Nat.le_of_ble_eq_true rfl)⟩ rfl rfl (Nat.le_of_ble_eq_true rfl) ⟨(Nat.le_of_ble_eq_true rfl), (Nat.le_of_ble_eq_true rfl)⟩ xd_RE_addGoingOn_56 rfl (fun n3 h3 p3 => ?_)
            obtain ⟨rfl, hfr3, hr3⟩ := p3
            have same : ∀ y z, y < 32 → z < 32 → md_go M N i w v (t + 1) y z = md_set (md_go M N i w v t) i t (min (md_go M N i w v t i t) (w + N v t)) y z := by
              intro y z _ _
              unfold md_set md_go
              by_cases c0 : y = i
              · subst c0
                by_cases c1 : z = t
                · subst c1; simp [e2]
                · have : z < t + 1 ↔ z < t := by omega
                  simp [c1, this]
              · simp [c0]
            first | refine xv_iincN (pc' := 62) hF xd_RE_addGoingOn_59 rfl rfl (Nat.le_of_ble_eq_true rfl) rfl rfl ?_ | refine xv_iinc (pc' := 62) hF xd_RE_addGoingOn_59 rfl rfl (Nat.le_of_ble_eq_true rfl) rfl rfl ?_
            refine xv_goto (tgt := 12) hF xd_RE_addGoingOn_62 (by decide) ?_
            refine xv_loc _ (by repeat (first | exact trivial | refine ⟨rfl, ?_⟩)) (ih _ (by omega) (t + 1) _ rfl (by omega) (hfr.tr hfr3) (hr3.congr same) ?_)
            rcases hal with ⟨q, q2⟩ | q
            · subst q
              exact ⟨_, hr3.congr same, Or.inl ⟨rfl, rfl⟩⟩
            · rcases hN1 with ⟨q1, -⟩ | rfl
              · unfold re_ap at q; omega
              · exact ⟨_, hcR.keep hfr3 q, Or.inr rfl⟩
  refine xv_loc _ (by repeat (first | exact trivial | refine ⟨rfl, ?_⟩)) (loop 32 0 h (by omega) (by omega) re_fr.rf (hr.congr ?_) ⟨N, hc, Or.inr rfl⟩)
  intro y z hy hz
  unfold md_go
  simp
/-! Relation.addAll -/
def md_mi (M N : Nat → Nat → Nat) (t : Nat) : Nat → Nat → Nat := fun x y => if x < t ∧ N x y < 1000000 then min (M x y) (N x y) else M x y
set_option maxHeartbeats 4000000 in
set_option maxRecDepth 100000 in
theorem c_RE_addAll (K : xK) (n : Nat) (h : xH) (a c : Nat) (M N : Nat → Nat → Nat) (hr : re_R K h a M) (hc : re_R K h c N) (hap : re_ap a c) : XM K xy_RE_addAll xw_RE_addAll (xrm 2 51 0 0) [.ref a, .ref c] n h (x_pv fun n' h' => n = n' ∧ re_fr h h' a ∧ re_R K h' a (md_mi M N 32)) 0 0 := by
  refine xm_v (by decide +kernel) (Nat.le_of_ble_eq_true rfl) (fun G hF hR => ?_)
  refine xv_iconstN (pc' := 1) 0 hF xd_RE_addAll_0 (by decide +kernel) rfl ?_
  refine xv_istore_n (pc' := 2) (i := 2) hF xd_RE_addAll_1 rfl (Nat.le_of_ble_eq_true rfl) rfl rfl ?_
  have loop : ∀ d t h1, 32 - t = d → t ≤ 32 → re_fr h h1 a → re_R K h1 a (md_mi M N t) → XV G 0 0 2 [(2, .int (nI t)), (0, .ref a), (1, .ref c)] [] n h1 := by
    intro d
    induction d using Nat.strongRecOn with
    | ind d ih =>
      intro t h1 hd ht hfr hr1
      refine xv_iload_n (pc' := 3) (i := 2) hF xd_RE_addAll_2 rfl rfl rfl ?_
      refine xv_bipushN (pc' := 5) 32 hF xd_RE_addAll_3 (by decide +kernel) rfl ?_
      refine xv_icmp_geN (pc' := 8) (tgt := 22) hF (by omega) (by omega) xd_RE_addAll_5 (by decide) rfl (fun e => ?_) (fun e => ?_)
      · refine hR _ _ _ _ _ _ (by omega) (by omega) ?_ xd_RE_addAll_22
        have : t = 32 := by omega
        subst this
        exact ⟨rfl, hfr, hr1⟩
      · obtain ⟨f1, g1, ⟨k1, k2, k3⟩, k4⟩ := id hr1
        refine xv_aload_n (pc' := 9) (i := 0) hF xd_RE_addAll_8 rfl rfl rfl ?_
        refine xv_iload_n (pc' := 10) (i := 2) hF xd_RE_addAll_9 rfl rfl rfl ?_
        refine xv_iconstN (pc' := 11) 0 hF xd_RE_addAll_10 (by decide +kernel) rfl ?_
        refine xv_aload_n (pc' := 12) (i := 1) hF xd_RE_addAll_11 rfl rfl rfl ?_
        refine xv_iload_n (pc' := 13) (i := 2) hF xd_RE_addAll_12 rfl rfl rfl ?_
        refine xv_callVv (pc' := 16) (ci := 2) hF (c_RE_addGoingOn K n h1 a t 0 c t _ N hr1 (hc.keep hfr hap) (Or.inr hap) e e (by decide) (fun j hj hz => by omega)) xq_RE_addGoingOn xk_RE_m38 xk_i_RE_addGoingOn xk_s_RE_addGoingOn (by first | assumption | exact xu_self | (refine (xu_ne (by omega)).trans ?_; first | assumption | exact xu_self | (refine (xu_ne (by omega)).trans ?_; first | assumption | exact xu_self | (refine (xu_ne (by omega)).trans ?_; first | assumption | exact xu_self | (refine (xu_ne (by omega)).trans ?_; first | assumption | exact xu_self))))) rfl ⟨(Nat.le_of_ble_eq_true rfl), (Nat.le_of_ble_eq_true rfl)⟩ rfl rfl (Nat.le_of_ble_eq_true rfl) ⟨(Nat.le_of_ble_eq_true rfl), (Nat.le_of_ble_eq_true rfl)⟩ xd_RE_addAll_13 rfl (fun n2 h2 p2 => ?_)
        obtain ⟨rfl, hfr2, hr2⟩ := p2
        first | refine xv_iincN (pc' := 19) hF xd_RE_addAll_16 rfl rfl (Nat.le_of_ble_eq_true rfl) rfl rfl ?_ | refine xv_iinc (pc' := 19) hF xd_RE_addAll_16 rfl rfl (Nat.le_of_ble_eq_true rfl) rfl rfl ?_
        refine xv_goto (tgt := 2) hF xd_RE_addAll_19 (by decide) ?_
        refine xv_loc _ (by repeat (first | exact trivial | refine ⟨rfl, ?_⟩)) (ih _ (by omega) (t + 1) _ rfl (by omega) (hfr.tr hfr2) (hr2.congr ?_))
        intro y z hy hz
        unfold md_go md_mi
        by_cases c0 : y = t
        · subst c0; simp [hz]
        · have : y < t + 1 ↔ y < t := by omega
          simp [c0, this]
  refine xv_loc _ (by repeat (first | exact trivial | refine ⟨rfl, ?_⟩)) (loop 32 0 h (by omega) (by omega) re_fr.rf (hr.congr ?_))
  intro y z hy hz
  unfold md_mi
  simp
/-! Relation.setToChain -/
def md_ch (C D : Nat → Nat → Nat) (x : Nat) : Nat → Nat → Nat
  | 0, _ => 1000000
  | v + 1, y => if C x v < 1000000 ∧ D v y < 1000000 then min (md_ch C D x v y) (C x v + D v y) else md_ch C D x v y
def md_ct (C D : Nat → Nat → Nat) (i v : Nat) : Nat → Nat → Nat := fun x y => if x < i then md_ch C D x 32 y else if x = i then md_ch C D x v y else 1000000
theorem md_ct_lt {C D : Nat → Nat → Nat} {i v x y : Nat} (h : x < i) : md_ct C D i v x y = md_ch C D x 32 y := by unfold md_ct; rw [if_pos h]
theorem md_ct_eq {C D : Nat → Nat → Nat} {i v y : Nat} : md_ct C D i v i y = md_ch C D i v y := by unfold md_ct; rw [if_neg (Nat.lt_irrefl _), if_pos rfl]
theorem md_ct_gt {C D : Nat → Nat → Nat} {i v x y : Nat} (h : i < x) : md_ct C D i v x y = 1000000 := by unfold md_ct; rw [if_neg (by omega), if_neg (by omega)]
theorem md_ct_0 {C D : Nat → Nat → Nat} {i x y : Nat} (h : i ≤ x) : md_ct C D i 0 x y = 1000000 := by
  rcases Nat.lt_or_eq_of_le h with h | h
  · exact md_ct_gt h
  · subst h; exact md_ct_eq
theorem md_ch_sq (C D : Nat → Nat → Nat) : pd_sq C D (fun x y => md_ch C D x 32 y) := by
  intro x y hx hy
  have key : ∀ v, v ≤ 32 → md_ch C D x v y ≤ 1000000 ∧ (md_ch C D x v y < 1000000 → ∃ u, u < v ∧ C x u < 1000000 ∧ D u y < 1000000 ∧ md_ch C D x v y = C x u + D u y) ∧ ∀ u, u < v → C x u < 1000000 → D u y < 1000000 → md_ch C D x v y ≤ C x u + D u y := by
    intro v
    induction v with
    | zero => intro _; exact ⟨Nat.le_refl _, fun h => absurd h (Nat.lt_irrefl _), fun u hu => by omega⟩
    | succ v ih =>
      intro hv
      obtain ⟨a1, a2, a3⟩ := ih (by omega)
      unfold md_ch
      by_cases c : C x v < 1000000 ∧ D v y < 1000000
      · rw [if_pos c]
        refine ⟨by omega, fun h => ?_, fun u hu h1 h2 => ?_⟩
        · by_cases c2 : md_ch C D x v y ≤ C x v + D v y
          · rw [Nat.min_eq_left c2] at h ⊢
            obtain ⟨u, b1, b2, b3, b4⟩ := a2 h
            exact ⟨u, by omega, b2, b3, b4⟩
          · rw [Nat.min_eq_right (by omega)]
            exact ⟨v, by omega, c.1, c.2, rfl⟩
        · by_cases c3 : u = v
          · subst c3; exact Nat.min_le_right _ _
          · have := a3 u (by omega) h1 h2
            omega
      · rw [if_neg c]
        refine ⟨a1, fun h => ?_, fun u hu h1 h2 => ?_⟩
        · obtain ⟨u, b1, b2, b3, b4⟩ := a2 h
          exact ⟨u, by omega, b2, b3, b4⟩
        · by_cases c3 : u = v
          · subst c3; exact absurd ⟨h1, h2⟩ c
          · exact a3 u (by omega) h1 h2
  exact key 32 (Nat.le_refl _)
set_option maxHeartbeats 4000000 in
set_option maxRecDepth 100000 in
theorem c_RE_setToChain (K : xK) (n : Nat) (h : xH) (a c e0 : Nat) (M C D : Nat → Nat → Nat) (hr : re_R K h a M) (hc : re_R K h c C) (he : re_R K h e0 D) (h1p : re_ap a c) (h2p : re_ap a e0) (hb : ∀ x v y, x < 32 → v < 32 → y < 32 → C x v < 1000000 → D v y < 1000000 → C x v + D v y < 1000000) : XM K xy_RE_setToChain xw_RE_setToChain (xrm 2 51 0 0) [.ref a, .ref c, .ref e0] n h (x_pv fun n' h' => n = n' ∧ re_fr h h' a ∧ re_R K h' a (fun x y => md_ch C D x 32 y)) 0 0 := by
  obtain ⟨f0, g0, ⟨z1, z2, z3⟩, z4⟩ := id hr
  refine xm_v (by decide +kernel) (Nat.le_of_ble_eq_true rfl) (fun G hF hR => ?_)
  refine xv_aload_n (pc' := 1) (i := 0) hF xd_RE_setToChain_0 rfl rfl rfl ?_
  refine xv_callVv (pc' := 4) (ci := 2) hF (c_RE_clear K n h a M hr) xq_RE_clear xk_RE_m42 xk_i_RE_clear xk_s_RE_clear (by first | assumption | exact xu_self | (refine (xu_ne (by omega)).trans ?_; first | assumption | exact xu_self | (refine (xu_ne (by omega)).trans ?_; first | assumption | exact xu_self | (refine (xu_ne (by omega)).trans ?_; first | assumption | exact xu_self | (refine (xu_ne (by omega)).trans ?_; first | assumption | exact xu_self))))) rfl ⟨(Nat.le_of_ble_eq_true rfl), (Nat.le_of_ble_eq_true rfl)⟩ rfl rfl (Nat.le_of_ble_eq_true rfl) ⟨(Nat.le_of_ble_eq_true rfl), (Nat.le_of_ble_eq_true rfl)⟩ xd_RE_setToChain_1 rfl (fun n1 h1 p1 => ?_)
  obtain ⟨rfl, hfr1, hr1⟩ := p1
  refine xv_iconstN (pc' := 5) 0 hF xd_RE_setToChain_4 (by decide +kernel) rfl ?_
  refine xv_istore_n (pc' := 6) (i := 3) hF xd_RE_setToChain_5 rfl (Nat.le_of_ble_eq_true rfl) rfl rfl ?_
  have loop : ∀ d i h1, 32 - i = d → i ≤ 32 → re_fr h h1 a → re_R K h1 a (md_ct C D i 0) → XV G 0 0 6 [(3, .int (nI i)), (0, .ref a), (1, .ref c), (2, .ref e0)] [] n h1 := by
    intro d
    induction d using Nat.strongRecOn with
    | ind d ih =>
      intro i h1 hd hi hfr hr1
      refine xv_iload_n (pc' := 7) (i := 3) hF xd_RE_setToChain_6 rfl rfl rfl ?_
      refine xv_bipushN (pc' := 9) 32 hF xd_RE_setToChain_7 (by decide +kernel) rfl ?_
      refine xv_icmp_geN (pc' := 12) (tgt := 80) hF (by omega) (by omega) xd_RE_setToChain_9 (by decide) rfl (fun e => ?_) (fun e => ?_)
      · refine hR _ _ _ _ _ _ (by omega) (by omega) ?_ xd_RE_setToChain_80
        refine ⟨rfl, hfr, hr1.congr fun x y hx hy => ?_⟩
        rw [md_ct_lt (by omega)]
      · have hcK := hc.keep hfr h1p
        obtain ⟨fC, gC, ⟨k1, k2, k3⟩, k4⟩ := id hcK
        refine xv_aload_n (pc' := 13) (i := 1) hF xd_RE_setToChain_12 rfl rfl rfl ?_
        refine xv_get (pc' := 16) (ci := 2) hF (by first | assumption | exact xu_self | (refine (xu_ne (by omega)).trans ?_; first | assumption | exact xu_self | (refine (xu_ne (by omega)).trans ?_; first | assumption | exact xu_self | (refine (xu_ne (by omega)).trans ?_; first | assumption | exact xu_self | (refine (xu_ne (by omega)).trans ?_; first | assumption | exact xu_self))))) rfl xu_RE 0 (by decide) xk_RE_f9 (by rfl) xd_RE_setToChain_13 rfl ?_
        refine xv_iload_n (pc' := 17) (i := 3) hF xd_RE_setToChain_16 rfl rfl rfl ?_
        first | refine xv_ialdN (pc' := 18) hF (by first | assumption | exact xu_self | (refine (xu_ne (by omega)).trans ?_; first | assumption | exact xu_self | (refine (xu_ne (by omega)).trans ?_; first | assumption | exact xu_self | (refine (xu_ne (by omega)).trans ?_; first | assumption | exact xu_self | (refine (xu_ne (by omega)).trans ?_; first | assumption | exact xu_self))))) (by omega) (by decide) xd_RE_setToChain_17 rfl ?_ | refine xv_iald (pc' := 18) hF (by first | assumption | exact xu_self | (refine (xu_ne (by omega)).trans ?_; first | assumption | exact xu_self | (refine (xu_ne (by omega)).trans ?_; first | assumption | exact xu_self | (refine (xu_ne (by omega)).trans ?_; first | assumption | exact xu_self | (refine (xu_ne (by omega)).trans ?_; first | assumption | exact xu_self))))) (by omega) xd_RE_setToChain_17 rfl ?_
        refine xv_istore (pc' := 20) hF xd_RE_setToChain_18 (Nat.le_of_ble_eq_true rfl) rfl rfl ?_
        refine xv_iconstN (pc' := 21) 0 hF xd_RE_setToChain_20 (by decide +kernel) rfl ?_
        refine xv_istore (pc' := 23) hF xd_RE_setToChain_21 (Nat.le_of_ble_eq_true rfl) rfl rfl ?_
        have hx : ∀ j, j < 32 → bt (fC i) j = decide (C i j < 1000000) := fun j hj => (k4 i j e hj).1
        clear k1 k2 k3 k4 hcK
        generalize fC i = x at hx ⊢
        have loop2 : ∀ d2 v h2, 32 - v = d2 → v ≤ 32 → re_fr h h2 a → re_R K h2 a (md_ct C D i v) → XV G 0 0 23 [(5, .int (nI v)), (4, .int x), (3, .int (nI i)), (0, .ref a), (1, .ref c), (2, .ref e0)] [] n h2 := by
          intro d2
          induction d2 using Nat.strongRecOn with
          | ind d2 ih2 =>
            intro v h2 hd2 hv hfr2 hr2
            have fin : (∀ j, v ≤ j → j < 32 → ¬ C i j < 1000000) → XV G 0 0 74 [(5, .int (nI v)), (4, .int x), (3, .int (nI i)), (0, .ref a), (1, .ref c), (2, .ref e0)] [] n h2 := by
              intro hz
              first | refine xv_iincN (pc' := 77) hF xd_RE_setToChain_74 rfl rfl (Nat.le_of_ble_eq_true rfl) rfl rfl ?_ | refine xv_iinc (pc' := 77) hF xd_RE_setToChain_74 rfl rfl (Nat.le_of_ble_eq_true rfl) rfl rfl ?_
              refine xv_goto (tgt := 6) hF xd_RE_setToChain_77 (by decide) ?_
              refine xv_loc _ (by repeat (first | exact trivial | refine ⟨rfl, ?_⟩)) (ih _ (by omega) (i + 1) _ rfl (by omega) hfr2 (hr2.congr ?_))
              have key : ∀ q y, v + q ≤ 32 → md_ch C D i (v + q) y = md_ch C D i v y := by
                intro q y
                induction q with
                | zero => intro _; rfl
                | succ q ihq =>
                  intro hq
                  show md_ch C D i (v + q + 1) y = _
                  show (if C i (v + q) < 1000000 ∧ D (v + q) y < 1000000 then _ else _) = _
                  rw [if_neg (fun h => hz (v + q) (by omega) (by omega) h.1)]
                  exact ihq (by omega)
              intro y z hy hz2
              by_cases c0 : y < i
              · rw [md_ct_lt (by omega), md_ct_lt c0]
              · by_cases c1 : y = i
                · subst c1
                  rw [md_ct_lt (by omega), md_ct_eq]
                  have := key (32 - v) z (by omega)
                  rw [show v + (32 - v) = 32 by omega] at this
                  exact this
                · rw [md_ct_0 (by omega), md_ct_gt (by omega)]
            refine xv_iload (pc' := 25) hF xd_RE_setToChain_23 rfl rfl ?_
            refine xv_bipushN (pc' := 27) 32 hF xd_RE_setToChain_25 (by decide +kernel) rfl ?_
            refine xv_icmp_geN (pc' := 30) (tgt := 74) hF (by omega) (by omega) xd_RE_setToChain_27 (by decide) rfl (fun e3 => ?_) (fun e3 => ?_)
            · exact fin fun j q1 q2 => by omega
            · refine xv_iload (pc' := 32) hF xd_RE_setToChain_30 rfl rfl ?_
              refine xv_iload (pc' := 34) hF xd_RE_setToChain_32 rfl rfl ?_
              refine xv_iushr (pc' := 35) hF xd_RE_setToChain_34 rfl rfl ?_
              refine xv_if_eq (pc' := 38) (tgt := 74) hF xd_RE_setToChain_35 (by decide) rfl (fun e4 => ?_) (fun e4 => ?_)
              · rw [bt_ush x e3] at e4
                refine fin fun j q1 q2 => ?_
                have := e4 j q1 q2
                rw [hx j q2] at this
                exact of_decide_eq_false this
              · clear e4
                refine xv_iload (pc' := 40) hF xd_RE_setToChain_38 rfl rfl ?_
                refine xv_iload (pc' := 42) hF xd_RE_setToChain_40 rfl rfl ?_
                refine xv_callSNi (pc' := 45) hF (c_PD_isIn K n h2 x v e3) xq_PD_isIn xk_RE_m24 xk_t_PD_isIn ⟨(Nat.le_of_ble_eq_true rfl), (Nat.le_of_ble_eq_true rfl)⟩ rfl rfl (Nat.le_of_ble_eq_true rfl) ⟨(Nat.le_of_ble_eq_true rfl), (Nat.le_of_ble_eq_true rfl)⟩ xd_RE_setToChain_42 rfl (fun r n3 h3 p3 => ?_)
                obtain ⟨rfl, rfl, rfl⟩ := p3
                refine xv_if_eqB (pc' := 48) (tgt := 68) hF xd_RE_setToChain_45 (by decide) rfl (fun e5 => ?_) (fun e5 => ?_)
                · rw [hx v e3] at e5
                  have e5 := of_decide_eq_false e5
                  first | refine xv_iincN (pc' := 71) hF xd_RE_setToChain_68 rfl rfl (Nat.le_of_ble_eq_true rfl) rfl rfl ?_ | refine xv_iinc (pc' := 71) hF xd_RE_setToChain_68 rfl rfl (Nat.le_of_ble_eq_true rfl) rfl rfl ?_
                  refine xv_goto (tgt := 23) hF xd_RE_setToChain_71 (by decide) ?_
                  refine xv_loc _ (by repeat (first | exact trivial | refine ⟨rfl, ?_⟩)) (ih2 _ (by omega) (v + 1) _ rfl (by omega) hfr2 (hr2.congr ?_))
                  intro y z hy hz
                  by_cases c0 : y < i
                  · rw [md_ct_lt c0, md_ct_lt c0]
                  · by_cases c1 : y = i
                    · subst c1
                      rw [md_ct_eq, md_ct_eq]
                      show (if C y v < 1000000 ∧ D v z < 1000000 then _ else _) = _
                      rw [if_neg (fun h => e5 h.1)]
                    · rw [md_ct_gt (by omega), md_ct_gt (by omega)]
                · rw [hx v e3] at e5
                  have e5 := of_decide_eq_true e5
                  have hcK := hc.keep hfr2 h1p
                  obtain ⟨fC, gC, ⟨k1, k2, k3⟩, k4⟩ := id hcK
                  have k5 := (k4 i v e e3).2 e5
                  obtain ⟨fA, gA, ⟨j1, j2, j3⟩, j4⟩ := id hr2
                  refine xv_aload_n (pc' := 49) (i := 0) hF xd_RE_setToChain_48 rfl rfl rfl ?_
                  refine xv_iload_n (pc' := 50) (i := 3) hF xd_RE_setToChain_49 rfl rfl rfl ?_
                  refine xv_aload_n (pc' := 51) (i := 1) hF xd_RE_setToChain_50 rfl rfl rfl ?_
                  refine xv_get (pc' := 54) (ci := 2) hF (by first | assumption | exact xu_self | (refine (xu_ne (by omega)).trans ?_; first | assumption | exact xu_self | (refine (xu_ne (by omega)).trans ?_; first | assumption | exact xu_self | (refine (xu_ne (by omega)).trans ?_; first | assumption | exact xu_self | (refine (xu_ne (by omega)).trans ?_; first | assumption | exact xu_self))))) rfl xu_RE 1 (by decide) xk_RE_f15 (by rfl) xd_RE_setToChain_51 rfl ?_
                  refine xv_iload_n (pc' := 55) (i := 3) hF xd_RE_setToChain_54 rfl rfl rfl ?_
                  refine xv_bipushN (pc' := 57) 32 hF xd_RE_setToChain_55 (by decide +kernel) rfl ?_
                  first | refine xv_imulN (pc' := 58) hF xd_RE_setToChain_57 rfl ?_ | refine xv_imul (pc' := 58) hF xd_RE_setToChain_57 rfl ?_
                  refine xv_iload (pc' := 60) hF xd_RE_setToChain_58 rfl rfl ?_
                  first | refine xv_iaddN (pc' := 61) hF xd_RE_setToChain_60 rfl ?_ | refine xv_iadd (pc' := 61) hF xd_RE_setToChain_60 rfl ?_
                  first | refine xv_ialdN (pc' := 62) hF (by first | assumption | exact xu_self | (refine (xu_ne (by omega)).trans ?_; first | assumption | exact xu_self | (refine (xu_ne (by omega)).trans ?_; first | assumption | exact xu_self | (refine (xu_ne (by omega)).trans ?_; first | assumption | exact xu_self | (refine (xu_ne (by omega)).trans ?_; first | assumption | exact xu_self))))) (by omega) (by decide) xd_RE_setToChain_61 rfl ?_ | refine xv_iald (pc' := 62) hF (by first | assumption | exact xu_self | (refine (xu_ne (by omega)).trans ?_; first | assumption | exact xu_self | (refine (xu_ne (by omega)).trans ?_; first | assumption | exact xu_self | (refine (xu_ne (by omega)).trans ?_; first | assumption | exact xu_self | (refine (xu_ne (by omega)).trans ?_; first | assumption | exact xu_self))))) (by omega) xd_RE_setToChain_61 rfl ?_
                  refine xv_topi k5 ?_
                  refine xv_aload_n (pc' := 63) (i := 2) hF xd_RE_setToChain_62 rfl rfl rfl ?_
                  refine xv_iload (pc' := 65) hF xd_RE_setToChain_63 rfl rfl ?_
                  refine xv_callVv (pc' := 68) (ci := 2) hF (c_RE_addGoingOn K n h2 a i (C i v) e0 v _ D hr2 (he.keep hfr2 h2p) (Or.inr h2p) e e3 e5 (fun j hj hz => hb i v j e e3 hj e5 hz)) xq_RE_addGoingOn xk_RE_m38 xk_i_RE_addGoingOn xk_s_RE_addGoingOn (by first | assumption | exact xu_self | (refine (xu_ne (by omega)).trans ?_; first | assumption | exact xu_self | (refine (xu_ne (by omega)).trans ?_; first | assumption | exact xu_self | (refine (xu_ne (by omega)).trans ?_; first | assumption | exact xu_self | (refine (xu_ne (by omega)).trans ?_; first | assumption | exact xu_self))))) rfl ⟨(Nat.le_of_ble_eq_true rfl), (Nat.le_of_ble_eq_true rfl)⟩ rfl rfl (Nat.le_of_ble_eq_true rfl) ⟨(Nat.le_of_ble_eq_true rfl), (Nat.le_of_ble_eq_true rfl)⟩ xd_RE_setToChain_65 rfl (fun n4 h4 p4 => ?_)
                  obtain ⟨rfl, hfr4, hr4⟩ := p4
                  first | refine xv_iincN (pc' := 71) hF xd_RE_setToChain_68 rfl rfl (Nat.le_of_ble_eq_true rfl) rfl rfl ?_ | refine xv_iinc (pc' := 71) hF xd_RE_setToChain_68 rfl rfl (Nat.le_of_ble_eq_true rfl) rfl rfl ?_
                  refine xv_goto (tgt := 23) hF xd_RE_setToChain_71 (by decide) ?_
                  refine xv_loc _ (by repeat (first | exact trivial | refine ⟨rfl, ?_⟩)) (ih2 _ (by omega) (v + 1) _ rfl (by omega) (hfr2.tr hfr4) (hr4.congr ?_))
                  intro y z hy hz
                  unfold md_go
                  by_cases c0 : y < i
                  · rw [md_ct_lt c0, md_ct_lt c0, if_neg (by omega)]
                  · by_cases c1 : y = i
                    · subst c1
                      rw [md_ct_eq, md_ct_eq]
                      show (if C y v < 1000000 ∧ D v z < 1000000 then _ else _) = _
                      by_cases c2 : D v z < 1000000
                      · rw [if_pos ⟨e5, c2⟩, if_pos ⟨rfl, hz, c2⟩]
                      · rw [if_neg (fun h => c2 h.2), if_neg (fun h => c2 h.2.2)]
                    · rw [md_ct_gt (by omega), md_ct_gt (by omega), if_neg (fun h => c1 h.1)]
        exact xv_loc _ (by repeat (first | exact trivial | refine ⟨rfl, ?_⟩)) (loop2 32 0 h1 (by omega) (by omega) hfr hr1)
  refine xv_loc _ (by repeat (first | exact trivial | refine ⟨rfl, ?_⟩)) (loop 32 0 h1 (by omega) (by omega) hfr1 (hr1.congr ?_))
  intro y z hy hz
  rw [md_ct_0 (by omega)]
  rfl
end
section
/-! Integer.bitCount -/
set_option maxHeartbeats 4000000 in
set_option maxRecDepth 100000 in
theorem c_JI_bitCount (K : xK) (n : Nat) (h : xH) (x : Int32) : XM K xy_JI_bitCount xw_JI_bitCount (xrm 0 0 0 0) [.int x] n h (x_pi fun r n' h' => r = nI (bc_n (bt x) 32) ∧ n = n' ∧ h = h') 0 0 := by
  obtain ⟨X, hX, rfl⟩ := nx_of x
  obtain ⟨y, ey⟩ : ∃ y, y = X - (X / 2 &&& 0x55555555) := ⟨_, rfl⟩
  obtain ⟨z, ez⟩ : ∃ z, z = (y &&& 0x33333333) + (y / 4 &&& 0x33333333) := ⟨_, rfl⟩
  obtain ⟨w, ew⟩ : ∃ w, w = (z + z / 16) &&& 0x0f0f0f0f := ⟨_, rfl⟩
  obtain ⟨v, ev⟩ : ∃ v, v = w + w / 256 := ⟨_, rfl⟩
  obtain ⟨u, eu⟩ : ∃ u, u = v + v / 65536 := ⟨_, rfl⟩
  obtain ⟨r1, r2, r3, r4⟩ := bc_nat hX ey ez ew ev eu
  have hy : y ≤ X := by omega
  refine xm_i (by decide +kernel) (Nat.le_of_ble_eq_true rfl) (fun G hF hR => ?_)
  refine xv_iload_n (pc' := 1) (i := 0) hF xd_JI_bitCount_0 rfl rfl rfl ?_
  refine xv_iload_n (pc' := 2) (i := 0) hF xd_JI_bitCount_1 rfl rfl rfl ?_
  refine xv_iconstN (pc' := 3) 1 hF xd_JI_bitCount_2 (by decide +kernel) rfl ?_
  first | refine xv_iushrN (pc' := 4) hF (by omega) (by decide) xd_JI_bitCount_3 rfl ?_ | refine xv_iushr (pc' := 4) hF xd_JI_bitCount_3 rfl rfl ?_
  refine xv_ldcw (pc' := 7) hF xk_JI_k265 xd_JI_bitCount_4 rfl ?_
  refine xv_topi (v' := nI 1431655765) (by decide +kernel) ?_
  first | refine xv_iandN (pc' := 8) hF xd_JI_bitCount_7 rfl ?_ | refine xv_iand (pc' := 8) hF xd_JI_bitCount_7 rfl ?_
  refine xv_isubN (pc' := 9) hF r2 xd_JI_bitCount_8 rfl ?_
  refine xv_topi (v' := nI y) (by rw [ey]) ?_
  refine xv_istore_n (pc' := 10) (i := 0) hF xd_JI_bitCount_9 rfl (Nat.le_of_ble_eq_true rfl) rfl rfl ?_
  refine xv_iload_n (pc' := 11) (i := 0) hF xd_JI_bitCount_10 rfl rfl rfl ?_
  refine xv_ldcw (pc' := 14) hF xk_JI_k266 xd_JI_bitCount_11 rfl ?_
  refine xv_topi (v' := nI 858993459) (by decide +kernel) ?_
  first | refine xv_iandN (pc' := 15) hF xd_JI_bitCount_14 rfl ?_ | refine xv_iand (pc' := 15) hF xd_JI_bitCount_14 rfl ?_
  refine xv_iload_n (pc' := 16) (i := 0) hF xd_JI_bitCount_15 rfl rfl rfl ?_
  refine xv_iconstN (pc' := 17) 2 hF xd_JI_bitCount_16 (by decide +kernel) rfl ?_
  first | refine xv_iushrN (pc' := 18) hF (by omega) (by decide) xd_JI_bitCount_17 rfl ?_ | refine xv_iushr (pc' := 18) hF xd_JI_bitCount_17 rfl rfl ?_
  refine xv_ldcw (pc' := 21) hF xk_JI_k266 xd_JI_bitCount_18 rfl ?_
  refine xv_topi (v' := nI 858993459) (by decide +kernel) ?_
  first | refine xv_iandN (pc' := 22) hF xd_JI_bitCount_21 rfl ?_ | refine xv_iand (pc' := 22) hF xd_JI_bitCount_21 rfl ?_
  first | refine xv_iaddN (pc' := 23) hF xd_JI_bitCount_22 rfl ?_ | refine xv_iadd (pc' := 23) hF xd_JI_bitCount_22 rfl ?_
  refine xv_topi (v' := nI z) (by rw [ez]) ?_
  refine xv_istore_n (pc' := 24) (i := 0) hF xd_JI_bitCount_23 rfl (Nat.le_of_ble_eq_true rfl) rfl rfl ?_
  refine xv_iload_n (pc' := 25) (i := 0) hF xd_JI_bitCount_24 rfl rfl rfl ?_
  refine xv_iload_n (pc' := 26) (i := 0) hF xd_JI_bitCount_25 rfl rfl rfl ?_
  refine xv_iconstN (pc' := 27) 4 hF xd_JI_bitCount_26 (by decide +kernel) rfl ?_
  first | refine xv_iushrN (pc' := 28) hF (by omega) (by decide) xd_JI_bitCount_27 rfl ?_ | refine xv_iushr (pc' := 28) hF xd_JI_bitCount_27 rfl rfl ?_
  first | refine xv_iaddN (pc' := 29) hF xd_JI_bitCount_28 rfl ?_ | refine xv_iadd (pc' := 29) hF xd_JI_bitCount_28 rfl ?_
  refine xv_ldcw (pc' := 32) hF xk_JI_k267 xd_JI_bitCount_29 rfl ?_
  refine xv_topi (v' := nI 252645135) (by decide +kernel) ?_
  first | refine xv_iandN (pc' := 33) hF xd_JI_bitCount_32 rfl ?_ | refine xv_iand (pc' := 33) hF xd_JI_bitCount_32 rfl ?_
  refine xv_topi (v' := nI w) (by rw [ew]) ?_
  refine xv_istore_n (pc' := 34) (i := 0) hF xd_JI_bitCount_33 rfl (Nat.le_of_ble_eq_true rfl) rfl rfl ?_
  refine xv_iload_n (pc' := 35) (i := 0) hF xd_JI_bitCount_34 rfl rfl rfl ?_
  refine xv_iload_n (pc' := 36) (i := 0) hF xd_JI_bitCount_35 rfl rfl rfl ?_
  refine xv_bipushN (pc' := 38) 8 hF xd_JI_bitCount_36 (by decide +kernel) rfl ?_
  first | refine xv_iushrN (pc' := 39) hF (by omega) (by decide) xd_JI_bitCount_38 rfl ?_ | refine xv_iushr (pc' := 39) hF xd_JI_bitCount_38 rfl rfl ?_
  first | refine xv_iaddN (pc' := 40) hF xd_JI_bitCount_39 rfl ?_ | refine xv_iadd (pc' := 40) hF xd_JI_bitCount_39 rfl ?_
  refine xv_topi (v' := nI v) (by rw [ev]) ?_
  refine xv_istore_n (pc' := 41) (i := 0) hF xd_JI_bitCount_40 rfl (Nat.le_of_ble_eq_true rfl) rfl rfl ?_
  refine xv_iload_n (pc' := 42) (i := 0) hF xd_JI_bitCount_41 rfl rfl rfl ?_
  refine xv_iload_n (pc' := 43) (i := 0) hF xd_JI_bitCount_42 rfl rfl rfl ?_
  refine xv_bipushN (pc' := 45) 16 hF xd_JI_bitCount_43 (by decide +kernel) rfl ?_
  first | refine xv_iushrN (pc' := 46) hF (by omega) (by decide) xd_JI_bitCount_45 rfl ?_ | refine xv_iushr (pc' := 46) hF xd_JI_bitCount_45 rfl rfl ?_
  first | refine xv_iaddN (pc' := 47) hF xd_JI_bitCount_46 rfl ?_ | refine xv_iadd (pc' := 47) hF xd_JI_bitCount_46 rfl ?_
  refine xv_topi (v' := nI u) (by rw [eu]) ?_
  refine xv_istore_n (pc' := 48) (i := 0) hF xd_JI_bitCount_47 rfl (Nat.le_of_ble_eq_true rfl) rfl rfl ?_
  refine xv_iload_n (pc' := 49) (i := 0) hF xd_JI_bitCount_48 rfl rfl rfl ?_
  refine xv_bipushN (pc' := 51) 63 hF xd_JI_bitCount_49 (by decide +kernel) rfl ?_
  first | refine xv_iandN (pc' := 52) hF xd_JI_bitCount_51 rfl ?_ | refine xv_iand (pc' := 52) hF xd_JI_bitCount_51 rfl ?_
  refine hR _ _ _ _ _ _ _ (by omega) (by omega) ?_ xd_JI_bitCount_52
  refine ⟨?_, rfl, rfl⟩
  rw [show (63 : Nat) = 2 ^ 6 - 1 from rfl, Nat.and_two_pow_sub_one_eq_mod]
  have : u % 2 ^ 6 = u % 64 := rfl
  rw [this, r1]
  congr 1
  exact bc_congr fun i hi => (bt_nI hX).symm
/-! Relation.repeatAtWill -/
def md_fw (M : Nat → Nat → Nat) : Nat → Nat → Nat → Nat
  | 0 => M
  | k + 1 => fun x y => if md_fw M k x k < 1000000 ∧ md_fw M k k y < 1000000 then min (md_fw M k x y) (md_fw M k x k + md_fw M k k y) else md_fw M k x y
def md_ft (M : Nat → Nat → Nat) (k i : Nat) : Nat → Nat → Nat := fun x y => if x < i then md_fw M (k + 1) x y else md_fw M k x y
theorem md_fw_row {M : Nat → Nat → Nat} {k y : Nat} : md_fw M (k + 1) k y = md_fw M k k y := by
  show (if _ then _ else _) = _
  split
  · exact Nat.min_eq_left (Nat.le_add_left _ _)
  · rfl
set_option maxHeartbeats 4000000 in
set_option maxRecDepth 100000 in
theorem c_RE_repeatAtWill (K : xK) (n : Nat) (h : xH) (a : Nat) (M : Nat → Nat → Nat) (hr : re_R K h a M) (hb : ∀ k x y, k < 32 → x < 32 → y < 32 → md_fw M k x k < 1000000 → md_fw M k k y < 1000000 → md_fw M k x k + md_fw M k k y < 1000000) : XM K xy_RE_repeatAtWill xw_RE_repeatAtWill (xrm 2 51 0 0) [.ref a] n h (x_pv fun n' h' => n = n' ∧ re_fr h h' a ∧ re_R K h' a (md_fw M 32)) 0 0 := by
  refine xm_v (by decide +kernel) (Nat.le_of_ble_eq_true rfl) (fun G hF hR => ?_)
  refine xv_iconstN (pc' := 1) 0 hF xd_RE_repeatAtWill_0 (by decide +kernel) rfl ?_
  refine xv_istore_n (pc' := 2) (i := 1) hF xd_RE_repeatAtWill_1 rfl (Nat.le_of_ble_eq_true rfl) rfl rfl ?_
  have loop : ∀ d k h1, 32 - k = d → k ≤ 32 → re_fr h h1 a → re_R K h1 a (md_fw M k) → XV G 0 0 2 [(1, .int (nI k)), (0, .ref a)] [] n h1 := by
    intro d
    induction d using Nat.strongRecOn with
    | ind d ih =>
      intro k h1 hd hk hfr hr1
      refine xv_iload_n (pc' := 3) (i := 1) hF xd_RE_repeatAtWill_2 rfl rfl rfl ?_
      refine xv_bipushN (pc' := 5) 32 hF xd_RE_repeatAtWill_3 (by decide +kernel) rfl ?_
      refine xv_icmp_geN (pc' := 8) (tgt := 59) hF (by omega) (by omega) xd_RE_repeatAtWill_5 (by decide) rfl (fun e => ?_) (fun e => ?_)
      · refine hR _ _ _ _ _ _ (by omega) (by omega) ?_ xd_RE_repeatAtWill_59
        have : k = 32 := by omega
        subst this
        exact ⟨rfl, hfr, hr1⟩
      · refine xv_iconstN (pc' := 9) 0 hF xd_RE_repeatAtWill_8 (by decide +kernel) rfl ?_
        refine xv_istore_n (pc' := 10) (i := 2) hF xd_RE_repeatAtWill_9 rfl (Nat.le_of_ble_eq_true rfl) rfl rfl ?_
        have loop2 : ∀ d2 i h2, 32 - i = d2 → i ≤ 32 → re_fr h h2 a → re_R K h2 a (md_ft M k i) → XV G 0 0 10 [(2, .int (nI i)), (1, .int (nI k)), (0, .ref a)] [] n h2 := by
          intro d2
          induction d2 using Nat.strongRecOn with
          | ind d2 ih2 =>
            intro i h2 hd2 hi hfr2 hr2
            refine xv_iload_n (pc' := 11) (i := 2) hF xd_RE_repeatAtWill_10 rfl rfl rfl ?_
            refine xv_bipushN (pc' := 13) 32 hF xd_RE_repeatAtWill_11 (by decide +kernel) rfl ?_
            refine xv_icmp_geN (pc' := 16) (tgt := 53) hF (by omega) (by omega) xd_RE_repeatAtWill_13 (by decide) rfl (fun e3 => ?_) (fun e3 => ?_)
            · first | refine xv_iincN (pc' := 56) hF xd_RE_repeatAtWill_53 rfl rfl (Nat.le_of_ble_eq_true rfl) rfl rfl ?_ | refine xv_iinc (pc' := 56) hF xd_RE_repeatAtWill_53 rfl rfl (Nat.le_of_ble_eq_true rfl) rfl rfl ?_
              refine xv_goto (tgt := 2) hF xd_RE_repeatAtWill_56 (by decide) ?_
              refine xv_loc _ (by repeat (first | exact trivial | refine ⟨rfl, ?_⟩)) (ih _ (by omega) (k + 1) _ rfl (by omega) hfr2 (hr2.congr ?_))
              intro y z hy hz
              unfold md_ft
              rw [if_pos (by omega)]
            · obtain ⟨f1, g1, ⟨k1, k2, k3⟩, k4⟩ := id hr2
              refine xv_aload_n (pc' := 17) (i := 0) hF xd_RE_repeatAtWill_16 rfl rfl rfl ?_
              refine xv_get (pc' := 20) (ci := 2) hF (by first | assumption | exact xu_self | (refine (xu_ne (by omega)).trans ?_; first | assumption | exact xu_self | (refine (xu_ne (by omega)).trans ?_; first | assumption | exact xu_self | (refine (xu_ne (by omega)).trans ?_; first | assumption | exact xu_self | (refine (xu_ne (by omega)).trans ?_; first | assumption | exact xu_self))))) rfl xu_RE 0 (by decide) xk_RE_f9 (by rfl) xd_RE_repeatAtWill_17 rfl ?_
              refine xv_iload_n (pc' := 21) (i := 2) hF xd_RE_repeatAtWill_20 rfl rfl rfl ?_
              first | refine xv_ialdN (pc' := 22) hF (by first | assumption | exact xu_self | (refine (xu_ne (by omega)).trans ?_; first | assumption | exact xu_self | (refine (xu_ne (by omega)).trans ?_; first | assumption | exact xu_self | (refine (xu_ne (by omega)).trans ?_; first | assumption | exact xu_self | (refine (xu_ne (by omega)).trans ?_; first | assumption | exact xu_self))))) (by omega) (by decide) xd_RE_repeatAtWill_21 rfl ?_ | refine xv_iald (pc' := 22) hF (by first | assumption | exact xu_self | (refine (xu_ne (by omega)).trans ?_; first | assumption | exact xu_self | (refine (xu_ne (by omega)).trans ?_; first | assumption | exact xu_self | (refine (xu_ne (by omega)).trans ?_; first | assumption | exact xu_self | (refine (xu_ne (by omega)).trans ?_; first | assumption | exact xu_self))))) (by omega) xd_RE_repeatAtWill_21 rfl ?_
              refine xv_iload_n (pc' := 23) (i := 1) hF xd_RE_repeatAtWill_22 rfl rfl rfl ?_
              refine xv_callSNi (pc' := 26) hF (c_PD_isIn K n h2 (f1 i) k e) xq_PD_isIn xk_RE_m24 xk_t_PD_isIn ⟨(Nat.le_of_ble_eq_true rfl), (Nat.le_of_ble_eq_true rfl)⟩ rfl rfl (Nat.le_of_ble_eq_true rfl) ⟨(Nat.le_of_ble_eq_true rfl), (Nat.le_of_ble_eq_true rfl)⟩ xd_RE_repeatAtWill_23 rfl (fun r n3 h3 p3 => ?_)
              obtain ⟨rfl, rfl, rfl⟩ := p3
              have q1 := (k4 i k e3 e).1
              have q0 : md_ft M k i i k = md_fw M k i k := by unfold md_ft; rw [if_neg (Nat.lt_irrefl _)]
              rw [q0] at q1
              refine xv_if_eqB (pc' := 29) (tgt := 47) hF xd_RE_repeatAtWill_26 (by decide) rfl (fun e5 => ?_) (fun e5 => ?_)
              · rw [q1] at e5
                have e5 := of_decide_eq_false e5
                first | refine xv_iincN (pc' := 50) hF xd_RE_repeatAtWill_47 rfl rfl (Nat.le_of_ble_eq_true rfl) rfl rfl ?_ | refine xv_iinc (pc' := 50) hF xd_RE_repeatAtWill_47 rfl rfl (Nat.le_of_ble_eq_true rfl) rfl rfl ?_
                refine xv_goto (tgt := 10) hF xd_RE_repeatAtWill_50 (by decide) ?_
                refine xv_loc _ (by repeat (first | exact trivial | refine ⟨rfl, ?_⟩)) (ih2 _ (by omega) (i + 1) _ rfl (by omega) hfr2 (hr2.congr ?_))
                intro y z hy hz
                unfold md_ft
                by_cases c0 : y < i
                · rw [if_pos (by omega), if_pos c0]
                · by_cases c1 : y = i
                  · subst c1
                    rw [if_pos (by omega), if_neg c0]
                    show (if _ then _ else _) = _
                    rw [if_neg (fun h => e5 h.1)]
                  · rw [if_neg (by omega), if_neg c0]
              · rw [q1] at e5
                have e5 := of_decide_eq_true e5
                have k5 := (k4 i k e3 e).2 (by rw [q0]; exact e5)
                rw [q0] at k5
                refine xv_aload_n (pc' := 30) (i := 0) hF xd_RE_repeatAtWill_29 rfl rfl rfl ?_
                refine xv_iload_n (pc' := 31) (i := 2) hF xd_RE_repeatAtWill_30 rfl rfl rfl ?_
                refine xv_aload_n (pc' := 32) (i := 0) hF xd_RE_repeatAtWill_31 rfl rfl rfl ?_
                refine xv_get (pc' := 35) (ci := 2) hF (by first | assumption | exact xu_self | (refine (xu_ne (by omega)).trans ?_; first | assumption | exact xu_self | (refine (xu_ne (by omega)).trans ?_; first | assumption | exact xu_self | (refine (xu_ne (by omega)).trans ?_; first | assumption | exact xu_self | (refine (xu_ne (by omega)).trans ?_; first | assumption | exact xu_self))))) rfl xu_RE 1 (by decide) xk_RE_f15 (by rfl) xd_RE_repeatAtWill_32 rfl ?_
                refine xv_iload_n (pc' := 36) (i := 2) hF xd_RE_repeatAtWill_35 rfl rfl rfl ?_
                refine xv_bipushN (pc' := 38) 32 hF xd_RE_repeatAtWill_36 (by decide +kernel) rfl ?_
                first | refine xv_imulN (pc' := 39) hF xd_RE_repeatAtWill_38 rfl ?_ | refine xv_imul (pc' := 39) hF xd_RE_repeatAtWill_38 rfl ?_
                refine xv_iload_n (pc' := 40) (i := 1) hF xd_RE_repeatAtWill_39 rfl rfl rfl ?_
                first | refine xv_iaddN (pc' := 41) hF xd_RE_repeatAtWill_40 rfl ?_ | refine xv_iadd (pc' := 41) hF xd_RE_repeatAtWill_40 rfl ?_
                first | refine xv_ialdN (pc' := 42) hF (by first | assumption | exact xu_self | (refine (xu_ne (by omega)).trans ?_; first | assumption | exact xu_self | (refine (xu_ne (by omega)).trans ?_; first | assumption | exact xu_self | (refine (xu_ne (by omega)).trans ?_; first | assumption | exact xu_self | (refine (xu_ne (by omega)).trans ?_; first | assumption | exact xu_self))))) (by omega) (by decide) xd_RE_repeatAtWill_41 rfl ?_ | refine xv_iald (pc' := 42) hF (by first | assumption | exact xu_self | (refine (xu_ne (by omega)).trans ?_; first | assumption | exact xu_self | (refine (xu_ne (by omega)).trans ?_; first | assumption | exact xu_self | (refine (xu_ne (by omega)).trans ?_; first | assumption | exact xu_self | (refine (xu_ne (by omega)).trans ?_; first | assumption | exact xu_self))))) (by omega) xd_RE_repeatAtWill_41 rfl ?_
                refine xv_topi k5 ?_
                refine xv_aload_n (pc' := 43) (i := 0) hF xd_RE_repeatAtWill_42 rfl rfl rfl ?_
                refine xv_iload_n (pc' := 44) (i := 1) hF xd_RE_repeatAtWill_43 rfl rfl rfl ?_
                have hrow : ∀ y, md_ft M k i k y = md_fw M k k y := by
                  intro y
                  unfold md_ft
                  split
                  · exact md_fw_row
                  · rfl
                refine xv_callVv (pc' := 47) (ci := 2) hF (c_RE_addGoingOn K n h2 a i (md_fw M k i k) a k _ _ hr2 hr2 (Or.inl ⟨rfl, rfl⟩) e3 e e5 (fun j hj hz => by rw [hrow] at hz ⊢; exact hb k i j e e3 hj e5 hz)) xq_RE_addGoingOn xk_RE_m38 xk_i_RE_addGoingOn xk_s_RE_addGoingOn (by first | assumption | exact xu_self | (refine (xu_ne (by omega)).trans ?_; first | assumption | exact xu_self | (refine (xu_ne (by omega)).trans ?_; first | assumption | exact xu_self | (refine (xu_ne (by omega)).trans ?_; first | assumption | exact xu_self | (refine (xu_ne (by omega)).trans ?_; first | assumption | exact xu_self))))) rfl ⟨(Nat.le_of_ble_eq_true rfl), (Nat.le_of_ble_eq_true rfl)⟩ rfl rfl (Nat.le_of_ble_eq_true rfl) ⟨(Nat.le_of_ble_eq_true rfl), (Nat.le_of_ble_eq_true rfl)⟩ xd_RE_repeatAtWill_44 rfl (fun n4 h4 p4 => ?_)
                obtain ⟨rfl, hfr4, hr4⟩ := p4
                first | refine xv_iincN (pc' := 50) hF xd_RE_repeatAtWill_47 rfl rfl (Nat.le_of_ble_eq_true rfl) rfl rfl ?_ | refine xv_iinc (pc' := 50) hF xd_RE_repeatAtWill_47 rfl rfl (Nat.le_of_ble_eq_true rfl) rfl rfl ?_
                refine xv_goto (tgt := 10) hF xd_RE_repeatAtWill_50 (by decide) ?_
                refine xv_loc _ (by repeat (first | exact trivial | refine ⟨rfl, ?_⟩)) (ih2 _ (by omega) (i + 1) _ rfl (by omega) (hfr2.tr hfr4) (hr4.congr ?_))
                intro y z hy hz
                unfold md_go
                rw [hrow]
                unfold md_ft
                by_cases c0 : y < i
                · rw [if_pos (by omega), if_pos c0, if_neg (by omega)]
                · by_cases c1 : y = i
                  · subst c1
                    rw [if_pos (by omega), if_neg c0]
                    show (if _ then _ else _) = _
                    by_cases c2 : md_fw M k k z < 1000000
                    · rw [if_pos ⟨e5, c2⟩, if_pos ⟨rfl, hz, c2⟩]
                    · rw [if_neg (fun h => c2 h.2), if_neg (fun h => c2 h.2.2)]
                  · rw [if_neg (by omega), if_neg c0, if_neg (fun h => c1 h.1)]
        refine xv_loc _ (by repeat (first | exact trivial | refine ⟨rfl, ?_⟩)) (loop2 32 0 h1 (by omega) (by omega) hfr (hr1.congr ?_))
        intro y z hy hz
        unfold md_ft
        rw [if_neg (by omega)]
  exact xv_loc _ (by repeat (first | exact trivial | refine ⟨rfl, ?_⟩)) (loop 32 0 h (by omega) (by omega) re_fr.rf hr)
/-! Relation.lengthOf -/
def md_len (m : Nat) : Int32 := if m < 1000000 then nI m else -1
set_option maxHeartbeats 4000000 in
set_option maxRecDepth 100000 in
theorem c_RE_lengthOf (K : xK) (n : Nat) (h : xH) (a i j : Nat) (M : Nat → Nat → Nat) (hr : re_R K h a M) (hi : i < 32) (hj : j < 32) : XM K xy_RE_lengthOf xw_RE_lengthOf (xrm 1 21 0 0) [.ref a, .int (nI i), .int (nI j)] n h (x_pi fun r n' h' => r = md_len (M i j) ∧ n = n' ∧ h = h') 0 0 := by
  obtain ⟨f, g, ⟨ha, hf, hg⟩, hM⟩ := hr
  obtain ⟨m1, m2⟩ := hM i j hi hj
  refine xm_i (by decide +kernel) (Nat.le_of_ble_eq_true rfl) (fun G hF hR => ?_)
  refine xv_aload_n (pc' := 1) (i := 0) hF xd_RE_lengthOf_0 rfl rfl rfl ?_
  refine xv_get (pc' := 4) (ci := 2) hF (by first | assumption | exact xu_self | (refine (xu_ne (by omega)).trans ?_; first | assumption | exact xu_self | (refine (xu_ne (by omega)).trans ?_; first | assumption | exact xu_self | (refine (xu_ne (by omega)).trans ?_; first | assumption | exact xu_self | (refine (xu_ne (by omega)).trans ?_; first | assumption | exact xu_self))))) rfl xu_RE 0 (by decide) xk_RE_f9 (by rfl) xd_RE_lengthOf_1 rfl ?_
  refine xv_iload_n (pc' := 5) (i := 1) hF xd_RE_lengthOf_4 rfl rfl rfl ?_
  first | refine xv_ialdN (pc' := 6) hF (by first | assumption | exact xu_self | (refine (xu_ne (by omega)).trans ?_; first | assumption | exact xu_self | (refine (xu_ne (by omega)).trans ?_; first | assumption | exact xu_self | (refine (xu_ne (by omega)).trans ?_; first | assumption | exact xu_self | (refine (xu_ne (by omega)).trans ?_; first | assumption | exact xu_self))))) (by omega) (by decide) xd_RE_lengthOf_5 rfl ?_ | refine xv_iald (pc' := 6) hF (by first | assumption | exact xu_self | (refine (xu_ne (by omega)).trans ?_; first | assumption | exact xu_self | (refine (xu_ne (by omega)).trans ?_; first | assumption | exact xu_self | (refine (xu_ne (by omega)).trans ?_; first | assumption | exact xu_self | (refine (xu_ne (by omega)).trans ?_; first | assumption | exact xu_self))))) (by omega) xd_RE_lengthOf_5 rfl ?_
  refine xv_iload_n (pc' := 7) (i := 2) hF xd_RE_lengthOf_6 rfl rfl rfl ?_
  refine xv_callSNi (pc' := 10) hF (c_PD_isIn K n h (f i) j hj) xq_PD_isIn xk_RE_m24 xk_t_PD_isIn ⟨(Nat.le_of_ble_eq_true rfl), (Nat.le_of_ble_eq_true rfl)⟩ rfl rfl (Nat.le_of_ble_eq_true rfl) ⟨(Nat.le_of_ble_eq_true rfl), (Nat.le_of_ble_eq_true rfl)⟩ xd_RE_lengthOf_7 rfl (fun r n3 h3 p3 => ?_)
  obtain ⟨rfl, rfl, rfl⟩ := p3
  refine xv_if_eqB (pc' := 13) (tgt := 27) hF xd_RE_lengthOf_10 (by decide) rfl (fun e5 => ?_) (fun e5 => ?_)
  · rw [m1] at e5
    have e5 := of_decide_eq_false e5
    refine xv_iconst (pc' := 28) (v := -1) hF xd_RE_lengthOf_27 (by decide +kernel) rfl ?_
    refine hR _ _ _ _ _ _ _ (by omega) (by omega) ?_ xd_RE_lengthOf_28
    exact ⟨by unfold md_len; rw [if_neg e5], rfl, rfl⟩
  · rw [m1] at e5
    have e5 := of_decide_eq_true e5
    refine xv_aload_n (pc' := 14) (i := 0) hF xd_RE_lengthOf_13 rfl rfl rfl ?_
    refine xv_get (pc' := 17) (ci := 2) hF (by first | assumption | exact xu_self | (refine (xu_ne (by omega)).trans ?_; first | assumption | exact xu_self | (refine (xu_ne (by omega)).trans ?_; first | assumption | exact xu_self | (refine (xu_ne (by omega)).trans ?_; first | assumption | exact xu_self | (refine (xu_ne (by omega)).trans ?_; first | assumption | exact xu_self))))) rfl xu_RE 1 (by decide) xk_RE_f15 (by rfl) xd_RE_lengthOf_14 rfl ?_
    refine xv_iload_n (pc' := 18) (i := 1) hF xd_RE_lengthOf_17 rfl rfl rfl ?_
    refine xv_bipushN (pc' := 20) 32 hF xd_RE_lengthOf_18 (by decide +kernel) rfl ?_
    first | refine xv_imulN (pc' := 21) hF xd_RE_lengthOf_20 rfl ?_ | refine xv_imul (pc' := 21) hF xd_RE_lengthOf_20 rfl ?_
    refine xv_iload_n (pc' := 22) (i := 2) hF xd_RE_lengthOf_21 rfl rfl rfl ?_
    first | refine xv_iaddN (pc' := 23) hF xd_RE_lengthOf_22 rfl ?_ | refine xv_iadd (pc' := 23) hF xd_RE_lengthOf_22 rfl ?_
    first | refine xv_ialdN (pc' := 24) hF (by first | assumption | exact xu_self | (refine (xu_ne (by omega)).trans ?_; first | assumption | exact xu_self | (refine (xu_ne (by omega)).trans ?_; first | assumption | exact xu_self | (refine (xu_ne (by omega)).trans ?_; first | assumption | exact xu_self | (refine (xu_ne (by omega)).trans ?_; first | assumption | exact xu_self))))) (by omega) (by decide) xd_RE_lengthOf_23 rfl ?_ | refine xv_iald (pc' := 24) hF (by first | assumption | exact xu_self | (refine (xu_ne (by omega)).trans ?_; first | assumption | exact xu_self | (refine (xu_ne (by omega)).trans ?_; first | assumption | exact xu_self | (refine (xu_ne (by omega)).trans ?_; first | assumption | exact xu_self | (refine (xu_ne (by omega)).trans ?_; first | assumption | exact xu_self))))) (by omega) xd_RE_lengthOf_23 rfl ?_
    refine xv_goto (tgt := 28) hF xd_RE_lengthOf_24 (by decide) ?_
    refine hR _ _ _ _ _ _ _ (by omega) (by omega) ?_ xd_RE_lengthOf_28
    exact ⟨by unfold md_len; rw [if_pos e5, m2 e5], rfl, rfl⟩
end
section
/-! Relation: what is asked of it -/
set_option maxHeartbeats 4000000 in
set_option maxRecDepth 100000 in
theorem c_RE_sourcesOf (K : xK) (n : Nat) (h : xH) (a j : Nat) (M : Nat → Nat → Nat) (hr : re_R K h a M) (hj : j < 32) : XM K xy_RE_sourcesOf xw_RE_sourcesOf (xrm 1 21 0 0) [.ref a, .int (nI j)] n h (x_pi fun r n' h' => (∀ i, i < 32 → bt r i = decide (M i j < 1000000)) ∧ n = n' ∧ h = h') 0 0 := by
  obtain ⟨f, g, ⟨ha, hf, hg⟩, hM⟩ := hr
  refine xm_i (by decide +kernel) (Nat.le_of_ble_eq_true rfl) (fun G hF hR => ?_)
  refine xv_iconstN (pc' := 1) 0 hF xd_RE_sourcesOf_0 (by decide +kernel) rfl ?_
  refine xv_istore_n (pc' := 2) (i := 2) hF xd_RE_sourcesOf_1 rfl (Nat.le_of_ble_eq_true rfl) rfl rfl ?_
  refine xv_iconstN (pc' := 3) 0 hF xd_RE_sourcesOf_2 (by decide +kernel) rfl ?_
  refine xv_istore_n (pc' := 4) (i := 3) hF xd_RE_sourcesOf_3 rfl (Nat.le_of_ble_eq_true rfl) rfl rfl ?_
  have loop : ∀ d t r, 32 - t = d → t ≤ 32 → (∀ i, i < 32 → bt r i = (decide (i < t) && decide (M i j < 1000000))) → XV G 0 0 4 [(3, .int (nI t)), (2, .int r), (0, .ref a), (1, .int (nI j))] [] n h := by
    intro d
    induction d using Nat.strongRecOn with
    | ind d ih =>
      intro t r hd ht hb
      refine xv_iload_n (pc' := 5) (i := 3) hF xd_RE_sourcesOf_4 rfl rfl rfl ?_
      refine xv_bipushN (pc' := 7) 32 hF xd_RE_sourcesOf_5 (by decide +kernel) rfl ?_
      refine xv_icmp_geN (pc' := 10) (tgt := 35) hF (by omega) (by omega) xd_RE_sourcesOf_7 (by decide) rfl (fun e => ?_) (fun e => ?_)
      · refine xv_iload_n (pc' := 36) (i := 2) hF xd_RE_sourcesOf_35 rfl rfl rfl ?_
        refine hR _ _ _ _ _ _ _ (by omega) (by omega) ?_ xd_RE_sourcesOf_36
        refine ⟨fun i hi => ?_, rfl, rfl⟩
        rw [hb i hi]
        simp [show i < t by omega]
      · refine xv_aload_n (pc' := 11) (i := 0) hF xd_RE_sourcesOf_10 rfl rfl rfl ?_
        refine xv_get (pc' := 14) (ci := 2) hF (by first | assumption | exact xu_self | (refine (xu_ne (by omega)).trans ?_; first | assumption | exact xu_self | (refine (xu_ne (by omega)).trans ?_; first | assumption | exact xu_self | (refine (xu_ne (by omega)).trans ?_; first | assumption | exact xu_self | (refine (xu_ne (by omega)).trans ?_; first | assumption | exact xu_self))))) rfl xu_RE 0 (by decide) xk_RE_f9 (by rfl) xd_RE_sourcesOf_11 rfl ?_
        refine xv_iload_n (pc' := 15) (i := 3) hF xd_RE_sourcesOf_14 rfl rfl rfl ?_
        first | refine xv_ialdN (pc' := 16) hF (by first | assumption | exact xu_self | (refine (xu_ne (by omega)).trans ?_; first | assumption | exact xu_self | (refine (xu_ne (by omega)).trans ?_; first | assumption | exact xu_self | (refine (xu_ne (by omega)).trans ?_; first | assumption | exact xu_self | (refine (xu_ne (by omega)).trans ?_; first | assumption | exact xu_self))))) (by omega) (by decide) xd_RE_sourcesOf_15 rfl ?_ | refine xv_iald (pc' := 16) hF (by first | assumption | exact xu_self | (refine (xu_ne (by omega)).trans ?_; first | assumption | exact xu_self | (refine (xu_ne (by omega)).trans ?_; first | assumption | exact xu_self | (refine (xu_ne (by omega)).trans ?_; first | assumption | exact xu_self | (refine (xu_ne (by omega)).trans ?_; first | assumption | exact xu_self))))) (by omega) xd_RE_sourcesOf_15 rfl ?_
        refine xv_iload_n (pc' := 17) (i := 1) hF xd_RE_sourcesOf_16 rfl rfl rfl ?_
        refine xv_callSNi (pc' := 20) hF (c_PD_isIn K n h (f t) j hj) xq_PD_isIn xk_RE_m24 xk_t_PD_isIn ⟨(Nat.le_of_ble_eq_true rfl), (Nat.le_of_ble_eq_true rfl)⟩ rfl rfl (Nat.le_of_ble_eq_true rfl) ⟨(Nat.le_of_ble_eq_true rfl), (Nat.le_of_ble_eq_true rfl)⟩ xd_RE_sourcesOf_17 rfl (fun r2 n3 h3 p3 => ?_)
        obtain ⟨rfl, rfl, rfl⟩ := p3
        refine xv_if_eqB (pc' := 23) (tgt := 29) hF xd_RE_sourcesOf_20 (by decide) rfl (fun e5 => ?_) (fun e5 => ?_)
        · rw [(hM t j e hj).1] at e5
          have e5 := of_decide_eq_false e5
          first | refine xv_iincN (pc' := 32) hF xd_RE_sourcesOf_29 rfl rfl (Nat.le_of_ble_eq_true rfl) rfl rfl ?_ | refine xv_iinc (pc' := 32) hF xd_RE_sourcesOf_29 rfl rfl (Nat.le_of_ble_eq_true rfl) rfl rfl ?_
          refine xv_goto (tgt := 4) hF xd_RE_sourcesOf_32 (by decide) ?_
          refine xv_loc _ (by repeat (first | exact trivial | refine ⟨rfl, ?_⟩)) (ih _ (by omega) (t + 1) _ rfl (by omega) ?_)
          intro i hi
          rw [hb i hi]
          by_cases c0 : i = t
          · subst c0; simp [e5]
          · have : i < t + 1 ↔ i < t := by omega
            simp only [this]
        · rw [(hM t j e hj).1] at e5
          have e5 := of_decide_eq_true e5
          refine xv_iload_n (pc' := 24) (i := 2) hF xd_RE_sourcesOf_23 rfl rfl rfl ?_
          refine xv_iconstN (pc' := 25) 1 hF xd_RE_sourcesOf_24 (by decide +kernel) rfl ?_
          refine xv_iload_n (pc' := 26) (i := 3) hF xd_RE_sourcesOf_25 rfl rfl rfl ?_
          refine xv_ishl (pc' := 27) hF xd_RE_sourcesOf_26 rfl ?_
          refine xv_ior (pc' := 28) hF xd_RE_sourcesOf_27 rfl ?_
          refine xv_istore_n (pc' := 29) (i := 2) hF xd_RE_sourcesOf_28 rfl (Nat.le_of_ble_eq_true rfl) rfl rfl ?_
          first | refine xv_iincN (pc' := 32) hF xd_RE_sourcesOf_29 rfl rfl (Nat.le_of_ble_eq_true rfl) rfl rfl ?_ | refine xv_iinc (pc' := 32) hF xd_RE_sourcesOf_29 rfl rfl (Nat.le_of_ble_eq_true rfl) rfl rfl ?_
          refine xv_goto (tgt := 4) hF xd_RE_sourcesOf_32 (by decide) ?_
          refine xv_loc _ (by repeat (first | exact trivial | refine ⟨rfl, ?_⟩)) (ih _ (by omega) (t + 1) _ rfl (by omega) ?_)
          intro i hi
          rw [b_or, hb i hi, bt_oneN t e i hi]
          by_cases c0 : i = t
          · subst c0; simp [e5]
          · have : i < t + 1 ↔ i < t := by omega
            simp [this, c0]
  refine xv_loc _ (by repeat (first | exact trivial | refine ⟨rfl, ?_⟩)) (loop 32 0 _ (by omega) (by omega) ?_)
  intro i hi
  rw [show nI 0 = 0 from nI_0, b_0]
  simp
/-! the greatest length, one more (0: none) -/
def md_sp (M : Nat → Nat → Nat) : Nat → Nat
  | 0 => 0
  | k + 1 => if M (k / 32) (k % 32) < 1000000 then max (md_sp M k) (M (k / 32) (k % 32) + 1) else md_sp M k
theorem md_sp_le (M : Nat → Nat → Nat) : ∀ k, md_sp M k ≤ 1000000
  | 0 => Nat.zero_le _
  | k + 1 => by
    have := md_sp_le M k
    unfold md_sp
    split
    · exact Nat.max_le.mpr ⟨this, by omega⟩
    · exact this
theorem xm1_lt {s t : Nat} (hs : s ≤ 1000000) (ht : t ≤ 1000000) : xm1 s < xm1 t ↔ s < t := by
  have key : ∀ u, u ≤ 1000000 → (xm1 u).toInt = (u : Int) - 1 := by
    intro u hu
    unfold xm1
    split
    · rename_i h; rw [h]; decide +kernel
    · rw [nI_toInt (by omega)]; omega
  rw [Int32.lt_iff_toInt_lt, key s hs, key t ht]
  omega
theorem md_sp_s (M : Nat → Nat → Nat) (k : Nat) : (if xm1 (md_sp M k) < md_len (M (k / 32) (k % 32)) then md_len (M (k / 32) (k % 32)) else xm1 (md_sp M k)) = xm1 (md_sp M (k + 1)) := by
  have h0 := md_sp_le M k
  show _ = xm1 (if M (k / 32) (k % 32) < 1000000 then _ else _)
  by_cases c : M (k / 32) (k % 32) < 1000000
  · have e : md_len (M (k / 32) (k % 32)) = xm1 (M (k / 32) (k % 32) + 1) := by
      unfold md_len xm1
      rw [if_pos c, if_neg (by omega)]
      rfl
    rw [if_pos c, e]
    by_cases c2 : md_sp M k < M (k / 32) (k % 32) + 1
    · rw [if_pos ((xm1_lt h0 (by omega)).mpr c2), Nat.max_eq_right (by omega)]
    · rw [if_neg (fun h => c2 ((xm1_lt h0 (by omega)).mp h)), Nat.max_eq_left (by omega)]
  · have e : md_len (M (k / 32) (k % 32)) = xm1 0 := by
      unfold md_len xm1
      rw [if_neg c, if_pos rfl]
    rw [if_neg c, e, if_neg (fun h => by have := (xm1_lt h0 (by omega)).mp h; omega)]
set_option maxHeartbeats 4000000 in
set_option maxRecDepth 100000 in
theorem c_RE_greatestLength (K : xK) (n : Nat) (h : xH) (a : Nat) (M : Nat → Nat → Nat) (hr : re_R K h a M) : XM K xy_RE_greatestLength xw_RE_greatestLength (xrm 2 44 0 0) [.ref a] n h (x_pi fun r n' h' => r = xm1 (md_sp M 1024) ∧ n = n' ∧ h = h') 0 0 := by
  obtain ⟨f, g, ⟨ha, hf, hg⟩, hM⟩ := id hr
  refine xm_i (by decide +kernel) (Nat.le_of_ble_eq_true rfl) (fun G hF hR => ?_)
  refine xv_iconst (pc' := 1) (v := -1) hF xd_RE_greatestLength_0 (by decide +kernel) rfl ?_
  refine xv_istore_n (pc' := 2) (i := 1) hF xd_RE_greatestLength_1 rfl (Nat.le_of_ble_eq_true rfl) rfl rfl ?_
  refine xv_iconstN (pc' := 3) 0 hF xd_RE_greatestLength_2 (by decide +kernel) rfl ?_
  refine xv_istore_n (pc' := 4) (i := 2) hF xd_RE_greatestLength_3 rfl (Nat.le_of_ble_eq_true rfl) rfl rfl ?_
  have loop : ∀ d t, 32 - t = d → t ≤ 32 → XV G 0 0 4 [(2, .int (nI t)), (1, .int (xm1 (md_sp M (t * 32)))), (0, .ref a)] [] n h := by
    intro d
    induction d using Nat.strongRecOn with
    | ind d ih =>
      intro t hd ht
      refine xv_iload_n (pc' := 5) (i := 2) hF xd_RE_greatestLength_4 rfl rfl rfl ?_
      refine xv_bipushN (pc' := 7) 32 hF xd_RE_greatestLength_5 (by decide +kernel) rfl ?_
      refine xv_icmp_geN (pc' := 10) (tgt := 41) hF (by omega) (by omega) xd_RE_greatestLength_7 (by decide) rfl (fun e => ?_) (fun e => ?_)
      · refine xv_iload_n (pc' := 42) (i := 1) hF xd_RE_greatestLength_41 rfl rfl rfl ?_
        refine hR _ _ _ _ _ _ _ (by omega) (by omega) ?_ xd_RE_greatestLength_42
        have : t = 32 := by omega
        subst this
        exact ⟨rfl, rfl, rfl⟩
      · refine xv_iconstN (pc' := 11) 0 hF xd_RE_greatestLength_10 (by decide +kernel) rfl ?_
        refine xv_istore_n (pc' := 12) (i := 3) hF xd_RE_greatestLength_11 rfl (Nat.le_of_ble_eq_true rfl) rfl rfl ?_
        have loop2 : ∀ d2 u, 32 - u = d2 → u ≤ 32 → XV G 0 0 12 [(3, .int (nI u)), (2, .int (nI t)), (1, .int (xm1 (md_sp M (t * 32 + u)))), (0, .ref a)] [] n h := by
          intro d2
          induction d2 using Nat.strongRecOn with
          | ind d2 ih2 =>
            intro u hd2 hu
            refine xv_iload_n (pc' := 13) (i := 3) hF xd_RE_greatestLength_12 rfl rfl rfl ?_
            refine xv_bipushN (pc' := 15) 32 hF xd_RE_greatestLength_13 (by decide +kernel) rfl ?_
            refine xv_icmp_geN (pc' := 18) (tgt := 35) hF (by omega) (by omega) xd_RE_greatestLength_15 (by decide) rfl (fun e3 => ?_) (fun e3 => ?_)
            · first | refine xv_iincN (pc' := 38) hF xd_RE_greatestLength_35 rfl rfl (Nat.le_of_ble_eq_true rfl) rfl rfl ?_ | refine xv_iinc (pc' := 38) hF xd_RE_greatestLength_35 rfl rfl (Nat.le_of_ble_eq_true rfl) rfl rfl ?_
              refine xv_goto (tgt := 4) hF xd_RE_greatestLength_38 (by decide) ?_
              have : t * 32 + u = (t + 1) * 32 := by omega
              rw [this]
              exact xv_loc _ (by repeat (first | exact trivial | refine ⟨rfl, ?_⟩)) (ih _ (by omega) (t + 1) rfl (by omega))
            · refine xv_iload_n (pc' := 19) (i := 1) hF xd_RE_greatestLength_18 rfl rfl rfl ?_
              refine xv_aload_n (pc' := 20) (i := 0) hF xd_RE_greatestLength_19 rfl rfl rfl ?_
              refine xv_iload_n (pc' := 21) (i := 2) hF xd_RE_greatestLength_20 rfl rfl rfl ?_
              refine xv_iload_n (pc' := 22) (i := 3) hF xd_RE_greatestLength_21 rfl rfl rfl ?_
              refine xv_callVi (pc' := 25) (ci := 2) hF (c_RE_lengthOf K n h a t u M hr e e3) xq_RE_lengthOf xk_RE_m45 xk_i_RE_lengthOf xk_s_RE_lengthOf (by first | assumption | exact xu_self | (refine (xu_ne (by omega)).trans ?_; first | assumption | exact xu_self | (refine (xu_ne (by omega)).trans ?_; first | assumption | exact xu_self | (refine (xu_ne (by omega)).trans ?_; first | assumption | exact xu_self | (refine (xu_ne (by omega)).trans ?_; first | assumption | exact xu_self))))) rfl ⟨(Nat.le_of_ble_eq_true rfl), (Nat.le_of_ble_eq_true rfl)⟩ rfl rfl (Nat.le_of_ble_eq_true rfl) ⟨(Nat.le_of_ble_eq_true rfl), (Nat.le_of_ble_eq_true rfl)⟩ xd_RE_greatestLength_22 rfl (fun r n3 h3 p3 => ?_)
              obtain ⟨rfl, rfl, rfl⟩ := p3
              refine xv_mmax (pc' := 28) hF xk_RE_m48 xk_t_JM_max xk_n_JM xk_c_JM_max (Nat.le_of_ble_eq_true rfl) (Nat.le_of_ble_eq_true rfl) (Nat.le_of_ble_eq_true rfl) (Nat.le_of_ble_eq_true rfl) xd_RE_greatestLength_25 rfl ?_
              refine xv_topi (v' := xm1 (md_sp M (t * 32 + (u + 1)))) ?_ ?_
              · have := md_sp_s M (t * 32 + u)
                rw [show (t * 32 + u) / 32 = t by omega, show (t * 32 + u) % 32 = u by omega] at this
                exact this
              · refine xv_istore_n (pc' := 29) (i := 1) hF xd_RE_greatestLength_28 rfl (Nat.le_of_ble_eq_true rfl) rfl rfl ?_
                first | refine xv_iincN (pc' := 32) hF xd_RE_greatestLength_29 rfl rfl (Nat.le_of_ble_eq_true rfl) rfl rfl ?_ | refine xv_iinc (pc' := 32) hF xd_RE_greatestLength_29 rfl rfl (Nat.le_of_ble_eq_true rfl) rfl rfl ?_
                refine xv_goto (tgt := 12) hF xd_RE_greatestLength_32 (by decide) ?_
                exact xv_loc _ (by repeat (first | exact trivial | refine ⟨rfl, ?_⟩)) (ih2 _ (by omega) (u + 1) rfl (by omega))
        exact xv_loc _ (by repeat (first | exact trivial | refine ⟨rfl, ?_⟩)) (loop2 32 0 (by omega) (by omega))
  exact xv_loc _ (by repeat (first | exact trivial | refine ⟨rfl, ?_⟩)) (loop 32 0 (by omega) (by omega))
/-! counted pairs: k counts the places of the square -/
def md_cn (P : Nat → Nat → Bool) (k : Nat) : Nat := bc_n (fun z => P (z / 32) (z % 32)) k
theorem md_cn_row (P : Nat → Nat → Bool) (t : Nat) : md_cn P ((t + 1) * 32) = md_cn P (t * 32) + bc_n (P t) 32 := by
  unfold md_cn
  rw [show (t + 1) * 32 = t * 32 + 32 by omega, bc_add]
  congr 1
  refine bc_congr fun i hi => ?_
  rw [show (t * 32 + i) / 32 = t by omega, show (t * 32 + i) % 32 = i by omega]
theorem md_cn_le (P : Nat → Nat → Bool) (k : Nat) : md_cn P k ≤ k := bc_le _ k
set_option maxHeartbeats 4000000 in
set_option maxRecDepth 100000 in
theorem c_RE_pairCount (K : xK) (n : Nat) (h : xH) (a : Nat) (M : Nat → Nat → Nat) (hr : re_R K h a M) : XM K xy_RE_pairCount xw_RE_pairCount (xrm 1 20 0 0) [.ref a] n h (x_pi fun r n' h' => r = nI (md_cn (fun i j => decide (M i j < 1000000)) 1024) ∧ n = n' ∧ h = h') 0 0 := by
  obtain ⟨f, g, ⟨ha, hf, hg⟩, hM⟩ := hr
  refine xm_i (by decide +kernel) (Nat.le_of_ble_eq_true rfl) (fun G hF hR => ?_)
  refine xv_iconstN (pc' := 1) 0 hF xd_RE_pairCount_0 (by decide +kernel) rfl ?_
  refine xv_istore_n (pc' := 2) (i := 1) hF xd_RE_pairCount_1 rfl (Nat.le_of_ble_eq_true rfl) rfl rfl ?_
  refine xv_iconstN (pc' := 3) 0 hF xd_RE_pairCount_2 (by decide +kernel) rfl ?_
  refine xv_istore_n (pc' := 4) (i := 2) hF xd_RE_pairCount_3 rfl (Nat.le_of_ble_eq_true rfl) rfl rfl ?_
  have loop : ∀ d t, 32 - t = d → t ≤ 32 → XV G 0 0 4 [(2, .int (nI t)), (1, .int (nI (md_cn (fun i j => decide (M i j < 1000000)) (t * 32)))), (0, .ref a)] [] n h := by
    intro d
    induction d using Nat.strongRecOn with
    | ind d ih =>
      intro t hd ht
      refine xv_iload_n (pc' := 5) (i := 2) hF xd_RE_pairCount_4 rfl rfl rfl ?_
      refine xv_bipushN (pc' := 7) 32 hF xd_RE_pairCount_5 (by decide +kernel) rfl ?_
      refine xv_icmp_geN (pc' := 10) (tgt := 28) hF (by omega) (by omega) xd_RE_pairCount_7 (by decide) rfl (fun e => ?_) (fun e => ?_)
      · refine xv_iload_n (pc' := 29) (i := 1) hF xd_RE_pairCount_28 rfl rfl rfl ?_
        refine hR _ _ _ _ _ _ _ (by omega) (by omega) ?_ xd_RE_pairCount_29
        have : t = 32 := by omega
        subst this
        exact ⟨rfl, rfl, rfl⟩
      · refine xv_iload_n (pc' := 11) (i := 1) hF xd_RE_pairCount_10 rfl rfl rfl ?_
        refine xv_aload_n (pc' := 12) (i := 0) hF xd_RE_pairCount_11 rfl rfl rfl ?_
        refine xv_get (pc' := 15) (ci := 2) hF (by first | assumption | exact xu_self | (refine (xu_ne (by omega)).trans ?_; first | assumption | exact xu_self | (refine (xu_ne (by omega)).trans ?_; first | assumption | exact xu_self | (refine (xu_ne (by omega)).trans ?_; first | assumption | exact xu_self | (refine (xu_ne (by omega)).trans ?_; first | assumption | exact xu_self))))) rfl xu_RE 0 (by decide) xk_RE_f9 (by rfl) xd_RE_pairCount_12 rfl ?_
        refine xv_iload_n (pc' := 16) (i := 2) hF xd_RE_pairCount_15 rfl rfl rfl ?_
        first | refine xv_ialdN (pc' := 17) hF (by first | assumption | exact xu_self | (refine (xu_ne (by omega)).trans ?_; first | assumption | exact xu_self | (refine (xu_ne (by omega)).trans ?_; first | assumption | exact xu_self | (refine (xu_ne (by omega)).trans ?_; first | assumption | exact xu_self | (refine (xu_ne (by omega)).trans ?_; first | assumption | exact xu_self))))) (by omega) (by decide) xd_RE_pairCount_16 rfl ?_ | refine xv_iald (pc' := 17) hF (by first | assumption | exact xu_self | (refine (xu_ne (by omega)).trans ?_; first | assumption | exact xu_self | (refine (xu_ne (by omega)).trans ?_; first | assumption | exact xu_self | (refine (xu_ne (by omega)).trans ?_; first | assumption | exact xu_self | (refine (xu_ne (by omega)).trans ?_; first | assumption | exact xu_self))))) (by omega) xd_RE_pairCount_16 rfl ?_
        refine xv_callSi (pc' := 20) hF (c_JI_bitCount K n h (f t)) xq_JI_bitCount xk_RE_m53 xk_t_JI_bitCount ⟨(Nat.le_of_ble_eq_true rfl), (Nat.le_of_ble_eq_true rfl)⟩ rfl rfl (Nat.le_of_ble_eq_true rfl) ⟨(Nat.le_of_ble_eq_true rfl), (Nat.le_of_ble_eq_true rfl)⟩ xd_RE_pairCount_17 rfl (fun r n3 h3 p3 => ?_)
        obtain ⟨rfl, rfl, rfl⟩ := p3
        first | refine xv_iaddN (pc' := 21) hF xd_RE_pairCount_20 rfl ?_ | refine xv_iadd (pc' := 21) hF xd_RE_pairCount_20 rfl ?_
        refine xv_topi (v' := nI (md_cn (fun i j => decide (M i j < 1000000)) ((t + 1) * 32))) ?_ ?_
        · rw [md_cn_row, bc_congr (fun i hi => (hM t i e hi).1)]
        · refine xv_istore_n (pc' := 22) (i := 1) hF xd_RE_pairCount_21 rfl (Nat.le_of_ble_eq_true rfl) rfl rfl ?_
          first | refine xv_iincN (pc' := 25) hF xd_RE_pairCount_22 rfl rfl (Nat.le_of_ble_eq_true rfl) rfl rfl ?_ | refine xv_iinc (pc' := 25) hF xd_RE_pairCount_22 rfl rfl (Nat.le_of_ble_eq_true rfl) rfl rfl ?_
          refine xv_goto (tgt := 4) hF xd_RE_pairCount_25 (by decide) ?_
          exact xv_loc _ (by repeat (first | exact trivial | refine ⟨rfl, ?_⟩)) (ih _ (by omega) (t + 1) rfl (by omega))
  exact xv_loc _ (by repeat (first | exact trivial | refine ⟨rfl, ?_⟩)) (loop 32 0 (by omega) (by omega))
set_option maxHeartbeats 4000000 in
set_option maxRecDepth 100000 in
theorem c_RE_pairsSharedWith (K : xK) (n : Nat) (h : xH) (a c : Nat) (M N : Nat → Nat → Nat) (hr : re_R K h a M) (hc : re_R K h c N) : XM K xy_RE_pairsSharedWith xw_RE_pairsSharedWith (xrm 1 20 0 0) [.ref a, .ref c] n h (x_pi fun r n' h' => r = nI (md_cn (fun i j => decide (M i j < 1000000) && decide (N i j < 1000000)) 1024) ∧ n = n' ∧ h = h') 0 0 := by
  obtain ⟨f, g, ⟨ha, hf, hg⟩, hM⟩ := hr
  obtain ⟨fN, gN, ⟨hc1, hc2, hc3⟩, hN⟩ := hc
  refine xm_i (by decide +kernel) (Nat.le_of_ble_eq_true rfl) (fun G hF hR => ?_)
  refine xv_iconstN (pc' := 1) 0 hF xd_RE_pairsSharedWith_0 (by decide +kernel) rfl ?_
  refine xv_istore_n (pc' := 2) (i := 2) hF xd_RE_pairsSharedWith_1 rfl (Nat.le_of_ble_eq_true rfl) rfl rfl ?_
  refine xv_iconstN (pc' := 3) 0 hF xd_RE_pairsSharedWith_2 (by decide +kernel) rfl ?_
  refine xv_istore_n (pc' := 4) (i := 3) hF xd_RE_pairsSharedWith_3 rfl (Nat.le_of_ble_eq_true rfl) rfl rfl ?_
  have loop : ∀ d t, 32 - t = d → t ≤ 32 → XV G 0 0 4 [(3, .int (nI t)), (2, .int (nI (md_cn (fun i j => decide (M i j < 1000000) && decide (N i j < 1000000)) (t * 32)))), (0, .ref a), (1, .ref c)] [] n h := by
    intro d
    induction d using Nat.strongRecOn with
    | ind d ih =>
      intro t hd ht
      refine xv_iload_n (pc' := 5) (i := 3) hF xd_RE_pairsSharedWith_4 rfl rfl rfl ?_
      refine xv_bipushN (pc' := 7) 32 hF xd_RE_pairsSharedWith_5 (by decide +kernel) rfl ?_
      refine xv_icmp_geN (pc' := 10) (tgt := 35) hF (by omega) (by omega) xd_RE_pairsSharedWith_7 (by decide) rfl (fun e => ?_) (fun e => ?_)
      · refine xv_iload_n (pc' := 36) (i := 2) hF xd_RE_pairsSharedWith_35 rfl rfl rfl ?_
        refine hR _ _ _ _ _ _ _ (by omega) (by omega) ?_ xd_RE_pairsSharedWith_36
        have : t = 32 := by omega
        subst this
        exact ⟨rfl, rfl, rfl⟩
      · refine xv_iload_n (pc' := 11) (i := 2) hF xd_RE_pairsSharedWith_10 rfl rfl rfl ?_
        refine xv_aload_n (pc' := 12) (i := 0) hF xd_RE_pairsSharedWith_11 rfl rfl rfl ?_
        refine xv_get (pc' := 15) (ci := 2) hF (by first | assumption | exact xu_self | (refine (xu_ne (by omega)).trans ?_; first | assumption | exact xu_self | (refine (xu_ne (by omega)).trans ?_; first | assumption | exact xu_self | (refine (xu_ne (by omega)).trans ?_; first | assumption | exact xu_self | (refine (xu_ne (by omega)).trans ?_; first | assumption | exact xu_self))))) rfl xu_RE 0 (by decide) xk_RE_f9 (by rfl) xd_RE_pairsSharedWith_12 rfl ?_
        refine xv_iload_n (pc' := 16) (i := 3) hF xd_RE_pairsSharedWith_15 rfl rfl rfl ?_
        first | refine xv_ialdN (pc' := 17) hF (by first | assumption | exact xu_self | (refine (xu_ne (by omega)).trans ?_; first | assumption | exact xu_self | (refine (xu_ne (by omega)).trans ?_; first | assumption | exact xu_self | (refine (xu_ne (by omega)).trans ?_; first | assumption | exact xu_self | (refine (xu_ne (by omega)).trans ?_; first | assumption | exact xu_self))))) (by omega) (by decide) xd_RE_pairsSharedWith_16 rfl ?_ | refine xv_iald (pc' := 17) hF (by first | assumption | exact xu_self | (refine (xu_ne (by omega)).trans ?_; first | assumption | exact xu_self | (refine (xu_ne (by omega)).trans ?_; first | assumption | exact xu_self | (refine (xu_ne (by omega)).trans ?_; first | assumption | exact xu_self | (refine (xu_ne (by omega)).trans ?_; first | assumption | exact xu_self))))) (by omega) xd_RE_pairsSharedWith_16 rfl ?_
        refine xv_aload_n (pc' := 18) (i := 1) hF xd_RE_pairsSharedWith_17 rfl rfl rfl ?_
        refine xv_get (pc' := 21) (ci := 2) hF (by first | assumption | exact xu_self | (refine (xu_ne (by omega)).trans ?_; first | assumption | exact xu_self | (refine (xu_ne (by omega)).trans ?_; first | assumption | exact xu_self | (refine (xu_ne (by omega)).trans ?_; first | assumption | exact xu_self | (refine (xu_ne (by omega)).trans ?_; first | assumption | exact xu_self))))) rfl xu_RE 0 (by decide) xk_RE_f9 (by rfl) xd_RE_pairsSharedWith_18 rfl ?_
        refine xv_iload_n (pc' := 22) (i := 3) hF xd_RE_pairsSharedWith_21 rfl rfl rfl ?_
        first | refine xv_ialdN (pc' := 23) hF (by first | assumption | exact xu_self | (refine (xu_ne (by omega)).trans ?_; first | assumption | exact xu_self | (refine (xu_ne (by omega)).trans ?_; first | assumption | exact xu_self | (refine (xu_ne (by omega)).trans ?_; first | assumption | exact xu_self | (refine (xu_ne (by omega)).trans ?_; first | assumption | exact xu_self))))) (by omega) (by decide) xd_RE_pairsSharedWith_22 rfl ?_ | refine xv_iald (pc' := 23) hF (by first | assumption | exact xu_self | (refine (xu_ne (by omega)).trans ?_; first | assumption | exact xu_self | (refine (xu_ne (by omega)).trans ?_; first | assumption | exact xu_self | (refine (xu_ne (by omega)).trans ?_; first | assumption | exact xu_self | (refine (xu_ne (by omega)).trans ?_; first | assumption | exact xu_self))))) (by omega) xd_RE_pairsSharedWith_22 rfl ?_
        first | refine xv_iandN (pc' := 24) hF xd_RE_pairsSharedWith_23 rfl ?_ | refine xv_iand (pc' := 24) hF xd_RE_pairsSharedWith_23 rfl ?_
        refine xv_callSi (pc' := 27) hF (c_JI_bitCount K n h (f t &&& fN t)) xq_JI_bitCount xk_RE_m53 xk_t_JI_bitCount ⟨(Nat.le_of_ble_eq_true rfl), (Nat.le_of_ble_eq_true rfl)⟩ rfl rfl (Nat.le_of_ble_eq_true rfl) ⟨(Nat.le_of_ble_eq_true rfl), (Nat.le_of_ble_eq_true rfl)⟩ xd_RE_pairsSharedWith_24 rfl (fun r n3 h3 p3 => ?_)
        obtain ⟨rfl, rfl, rfl⟩ := p3
        first | refine xv_iaddN (pc' := 28) hF xd_RE_pairsSharedWith_27 rfl ?_ | refine xv_iadd (pc' := 28) hF xd_RE_pairsSharedWith_27 rfl ?_
        refine xv_topi (v' := nI (md_cn (fun i j => decide (M i j < 1000000) && decide (N i j < 1000000)) ((t + 1) * 32))) ?_ ?_
        · rw [md_cn_row, bc_congr (fun i hi => (b_and _ _ i).trans (by rw [(hM t i e hi).1, (hN t i e hi).1]))]
        · refine xv_istore_n (pc' := 29) (i := 2) hF xd_RE_pairsSharedWith_28 rfl (Nat.le_of_ble_eq_true rfl) rfl rfl ?_
          first | refine xv_iincN (pc' := 32) hF xd_RE_pairsSharedWith_29 rfl rfl (Nat.le_of_ble_eq_true rfl) rfl rfl ?_ | refine xv_iinc (pc' := 32) hF xd_RE_pairsSharedWith_29 rfl rfl (Nat.le_of_ble_eq_true rfl) rfl rfl ?_
          refine xv_goto (tgt := 4) hF xd_RE_pairsSharedWith_32 (by decide) ?_
          exact xv_loc _ (by repeat (first | exact trivial | refine ⟨rfl, ?_⟩)) (ih _ (by omega) (t + 1) rfl (by omega))
  exact xv_loc _ (by repeat (first | exact trivial | refine ⟨rfl, ?_⟩)) (loop 32 0 (by omega) (by omega))
set_option maxHeartbeats 4000000 in
set_option maxRecDepth 100000 in
theorem c_RE_pairsTurnedIn (K : xK) (n : Nat) (h : xH) (a c : Nat) (M N : Nat → Nat → Nat) (hr : re_R K h a M) (hc : re_R K h c N) : XM K xy_RE_pairsTurnedIn xw_RE_pairsTurnedIn (xrm 2 44 0 0) [.ref a, .ref c] n h (x_pi fun r n' h' => r = nI (md_cn (fun i j => decide (M i j < 1000000) && decide (N j i < 1000000)) 1024) ∧ n = n' ∧ h = h') 0 0 := by
  obtain ⟨f, g, ⟨ha, hf, hg⟩, hM⟩ := hr
  obtain ⟨fN, gN, ⟨hc1, hc2, hc3⟩, hN⟩ := id hc
  refine xm_i (by decide +kernel) (Nat.le_of_ble_eq_true rfl) (fun G hF hR => ?_)
  refine xv_iconstN (pc' := 1) 0 hF xd_RE_pairsTurnedIn_0 (by decide +kernel) rfl ?_
  refine xv_istore_n (pc' := 2) (i := 2) hF xd_RE_pairsTurnedIn_1 rfl (Nat.le_of_ble_eq_true rfl) rfl rfl ?_
  refine xv_iconstN (pc' := 3) 0 hF xd_RE_pairsTurnedIn_2 (by decide +kernel) rfl ?_
  refine xv_istore_n (pc' := 4) (i := 3) hF xd_RE_pairsTurnedIn_3 rfl (Nat.le_of_ble_eq_true rfl) rfl rfl ?_
  have loop : ∀ d t, 32 - t = d → t ≤ 32 → XV G 0 0 4 [(3, .int (nI t)), (2, .int (nI (md_cn (fun i j => decide (M i j < 1000000) && decide (N j i < 1000000)) (t * 32)))), (0, .ref a), (1, .ref c)] [] n h := by
    intro d
    induction d using Nat.strongRecOn with
    | ind d ih =>
      intro t hd ht
      refine xv_iload_n (pc' := 5) (i := 3) hF xd_RE_pairsTurnedIn_4 rfl rfl rfl ?_
      refine xv_bipushN (pc' := 7) 32 hF xd_RE_pairsTurnedIn_5 (by decide +kernel) rfl ?_
      refine xv_icmp_geN (pc' := 10) (tgt := 34) hF (by omega) (by omega) xd_RE_pairsTurnedIn_7 (by decide) rfl (fun e => ?_) (fun e => ?_)
      · refine xv_iload_n (pc' := 35) (i := 2) hF xd_RE_pairsTurnedIn_34 rfl rfl rfl ?_
        refine hR _ _ _ _ _ _ _ (by omega) (by omega) ?_ xd_RE_pairsTurnedIn_35
        have : t = 32 := by omega
        subst this
        exact ⟨rfl, rfl, rfl⟩
      · refine xv_iload_n (pc' := 11) (i := 2) hF xd_RE_pairsTurnedIn_10 rfl rfl rfl ?_
        refine xv_aload_n (pc' := 12) (i := 0) hF xd_RE_pairsTurnedIn_11 rfl rfl rfl ?_
        refine xv_get (pc' := 15) (ci := 2) hF (by first | assumption | exact xu_self | (refine (xu_ne (by omega)).trans ?_; first | assumption | exact xu_self | (refine (xu_ne (by omega)).trans ?_; first | assumption | exact xu_self | (refine (xu_ne (by omega)).trans ?_; first | assumption | exact xu_self | (refine (xu_ne (by omega)).trans ?_; first | assumption | exact xu_self))))) rfl xu_RE 0 (by decide) xk_RE_f9 (by rfl) xd_RE_pairsTurnedIn_12 rfl ?_
        refine xv_iload_n (pc' := 16) (i := 3) hF xd_RE_pairsTurnedIn_15 rfl rfl rfl ?_
        first | refine xv_ialdN (pc' := 17) hF (by first | assumption | exact xu_self | (refine (xu_ne (by omega)).trans ?_; first | assumption | exact xu_self | (refine (xu_ne (by omega)).trans ?_; first | assumption | exact xu_self | (refine (xu_ne (by omega)).trans ?_; first | assumption | exact xu_self | (refine (xu_ne (by omega)).trans ?_; first | assumption | exact xu_self))))) (by omega) (by decide) xd_RE_pairsTurnedIn_16 rfl ?_ | refine xv_iald (pc' := 17) hF (by first | assumption | exact xu_self | (refine (xu_ne (by omega)).trans ?_; first | assumption | exact xu_self | (refine (xu_ne (by omega)).trans ?_; first | assumption | exact xu_self | (refine (xu_ne (by omega)).trans ?_; first | assumption | exact xu_self | (refine (xu_ne (by omega)).trans ?_; first | assumption | exact xu_self))))) (by omega) xd_RE_pairsTurnedIn_16 rfl ?_
        refine xv_aload_n (pc' := 18) (i := 1) hF xd_RE_pairsTurnedIn_17 rfl rfl rfl ?_
        refine xv_iload_n (pc' := 19) (i := 3) hF xd_RE_pairsTurnedIn_18 rfl rfl rfl ?_
        refine xv_callVi (pc' := 22) (ci := 2) hF (c_RE_sourcesOf K n h c t N hc e) xq_RE_sourcesOf xk_RE_m59 xk_i_RE_sourcesOf xk_s_RE_sourcesOf (by first | assumption | exact xu_self | (refine (xu_ne (by omega)).trans ?_; first | assumption | exact xu_self | (refine (xu_ne (by omega)).trans ?_; first | assumption | exact xu_self | (refine (xu_ne (by omega)).trans ?_; first | assumption | exact xu_self | (refine (xu_ne (by omega)).trans ?_; first | assumption | exact xu_self))))) rfl ⟨(Nat.le_of_ble_eq_true rfl), (Nat.le_of_ble_eq_true rfl)⟩ rfl rfl (Nat.le_of_ble_eq_true rfl) ⟨(Nat.le_of_ble_eq_true rfl), (Nat.le_of_ble_eq_true rfl)⟩ xd_RE_pairsTurnedIn_19 rfl (fun r n3 h3 p3 => ?_)
        obtain ⟨hs, rfl, rfl⟩ := p3
        first | refine xv_iandN (pc' := 23) hF xd_RE_pairsTurnedIn_22 rfl ?_ | refine xv_iand (pc' := 23) hF xd_RE_pairsTurnedIn_22 rfl ?_
        refine xv_callSi (pc' := 26) hF (c_JI_bitCount K n h (f t &&& r)) xq_JI_bitCount xk_RE_m53 xk_t_JI_bitCount ⟨(Nat.le_of_ble_eq_true rfl), (Nat.le_of_ble_eq_true rfl)⟩ rfl rfl (Nat.le_of_ble_eq_true rfl) ⟨(Nat.le_of_ble_eq_true rfl), (Nat.le_of_ble_eq_true rfl)⟩ xd_RE_pairsTurnedIn_23 rfl (fun r4 n4 h4 p4 => ?_)
        obtain ⟨rfl, rfl, rfl⟩ := p4
        first | refine xv_iaddN (pc' := 27) hF xd_RE_pairsTurnedIn_26 rfl ?_ | refine xv_iadd (pc' := 27) hF xd_RE_pairsTurnedIn_26 rfl ?_
        refine xv_topi (v' := nI (md_cn (fun i j => decide (M i j < 1000000) && decide (N j i < 1000000)) ((t + 1) * 32))) ?_ ?_
        · rw [md_cn_row, bc_congr (fun i hi => (b_and _ _ i).trans (by rw [(hM t i e hi).1, hs i hi]))]
        · refine xv_istore_n (pc' := 28) (i := 2) hF xd_RE_pairsTurnedIn_27 rfl (Nat.le_of_ble_eq_true rfl) rfl rfl ?_
          first | refine xv_iincN (pc' := 31) hF xd_RE_pairsTurnedIn_28 rfl rfl (Nat.le_of_ble_eq_true rfl) rfl rfl ?_ | refine xv_iinc (pc' := 31) hF xd_RE_pairsTurnedIn_28 rfl rfl (Nat.le_of_ble_eq_true rfl) rfl rfl ?_
          refine xv_goto (tgt := 4) hF xd_RE_pairsTurnedIn_31 (by decide) ?_
          exact xv_loc _ (by repeat (first | exact trivial | refine ⟨rfl, ?_⟩)) (ih _ (by omega) (t + 1) rfl (by omega))
  exact xv_loc _ (by repeat (first | exact trivial | refine ⟨rfl, ?_⟩)) (loop 32 0 (by omega) (by omega))
/-- some node in between -/
def md_via (M N : Nat → Nat → Nat) (i j : Nat) : Nat → Bool
  | 0 => false
  | v + 1 => md_via M N i j v || (decide (M i v < 1000000) && decide (N v j < 1000000))
set_option maxHeartbeats 4000000 in
set_option maxRecDepth 100000 in
theorem c_RE_pairsLedOnBy (K : xK) (n : Nat) (h : xH) (a c : Nat) (M N : Nat → Nat → Nat) (hr : re_R K h a M) (hc : re_R K h c N) : XM K xy_RE_pairsLedOnBy xw_RE_pairsLedOnBy (xrm 1 21 0 0) [.ref a, .ref c] n h (x_pi fun r n' h' => r = nI (md_cn (fun i j => md_via M N i j 32) 1024) ∧ n = n' ∧ h = h') 0 0 := by
  obtain ⟨f, g, ⟨ha, hf, hg⟩, hM⟩ := hr
  obtain ⟨fN, gN, ⟨hc1, hc2, hc3⟩, hN⟩ := id hc
  refine xm_i (by decide +kernel) (Nat.le_of_ble_eq_true rfl) (fun G hF hR => ?_)
  refine xv_iconstN (pc' := 1) 0 hF xd_RE_pairsLedOnBy_0 (by decide +kernel) rfl ?_
  refine xv_istore_n (pc' := 2) (i := 2) hF xd_RE_pairsLedOnBy_1 rfl (Nat.le_of_ble_eq_true rfl) rfl rfl ?_
  refine xv_iconstN (pc' := 3) 0 hF xd_RE_pairsLedOnBy_2 (by decide +kernel) rfl ?_
  refine xv_istore_n (pc' := 4) (i := 3) hF xd_RE_pairsLedOnBy_3 rfl (Nat.le_of_ble_eq_true rfl) rfl rfl ?_
  have loop : ∀ d t, 32 - t = d → t ≤ 32 → XV G 0 0 4 [(3, .int (nI t)), (2, .int (nI (md_cn (fun i j => md_via M N i j 32) (t * 32)))), (0, .ref a), (1, .ref c)] [] n h := by
    intro d
    induction d using Nat.strongRecOn with
    | ind d ih =>
      intro t hd ht
      refine xv_iload_n (pc' := 5) (i := 3) hF xd_RE_pairsLedOnBy_4 rfl rfl rfl ?_
      refine xv_bipushN (pc' := 7) 32 hF xd_RE_pairsLedOnBy_5 (by decide +kernel) rfl ?_
      refine xv_icmp_geN (pc' := 10) (tgt := 69) hF (by omega) (by omega) xd_RE_pairsLedOnBy_7 (by decide) rfl (fun e => ?_) (fun e => ?_)
      · refine xv_iload_n (pc' := 70) (i := 2) hF xd_RE_pairsLedOnBy_69 rfl rfl rfl ?_
        refine hR _ _ _ _ _ _ _ (by omega) (by omega) ?_ xd_RE_pairsLedOnBy_70
        have : t = 32 := by omega
        subst this
        exact ⟨rfl, rfl, rfl⟩
      · refine xv_iconstN (pc' := 11) 0 hF xd_RE_pairsLedOnBy_10 (by decide +kernel) rfl ?_
        refine xv_istore (pc' := 13) hF xd_RE_pairsLedOnBy_11 (Nat.le_of_ble_eq_true rfl) rfl rfl ?_
        refine xv_iconstN (pc' := 14) 0 hF xd_RE_pairsLedOnBy_13 (by decide +kernel) rfl ?_
        refine xv_istore (pc' := 16) hF xd_RE_pairsLedOnBy_14 (Nat.le_of_ble_eq_true rfl) rfl rfl ?_
        have loop2 : ∀ d2 v r, 32 - v = d2 → v ≤ 32 → (∀ j, j < 32 → bt r j = md_via M N t j v) → XV G 0 0 16 [(5, .int (nI v)), (4, .int r), (3, .int (nI t)), (2, .int (nI (md_cn (fun i j => md_via M N i j 32) (t * 32)))), (0, .ref a), (1, .ref c)] [] n h := by
          intro d2
          induction d2 using Nat.strongRecOn with
          | ind d2 ih2 =>
            intro v r hd2 hv hb
            refine xv_iload (pc' := 18) hF xd_RE_pairsLedOnBy_16 rfl rfl ?_
            refine xv_bipushN (pc' := 20) 32 hF xd_RE_pairsLedOnBy_18 (by decide +kernel) rfl ?_
            refine xv_icmp_geN (pc' := 23) (tgt := 55) hF (by omega) (by omega) xd_RE_pairsLedOnBy_20 (by decide) rfl (fun e3 => ?_) (fun e3 => ?_)
            · have : v = 32 := by omega
              subst this
              refine xv_iload_n (pc' := 56) (i := 2) hF xd_RE_pairsLedOnBy_55 rfl rfl rfl ?_
              refine xv_iload (pc' := 58) hF xd_RE_pairsLedOnBy_56 rfl rfl ?_
              refine xv_callSi (pc' := 61) hF (c_JI_bitCount K n h r) xq_JI_bitCount xk_RE_m53 xk_t_JI_bitCount ⟨(Nat.le_of_ble_eq_true rfl), (Nat.le_of_ble_eq_true rfl)⟩ rfl rfl (Nat.le_of_ble_eq_true rfl) ⟨(Nat.le_of_ble_eq_true rfl), (Nat.le_of_ble_eq_true rfl)⟩ xd_RE_pairsLedOnBy_58 rfl (fun r4 n4 h4 p4 => ?_)
              obtain ⟨rfl, rfl, rfl⟩ := p4
              first | refine xv_iaddN (pc' := 62) hF xd_RE_pairsLedOnBy_61 rfl ?_ | refine xv_iadd (pc' := 62) hF xd_RE_pairsLedOnBy_61 rfl ?_
              refine xv_topi (v' := nI (md_cn (fun i j => md_via M N i j 32) ((t + 1) * 32))) ?_ ?_
              · rw [md_cn_row, bc_congr (fun i hi => hb i hi)]
              · refine xv_istore_n (pc' := 63) (i := 2) hF xd_RE_pairsLedOnBy_62 rfl (Nat.le_of_ble_eq_true rfl) rfl rfl ?_
                first | refine xv_iincN (pc' := 66) hF xd_RE_pairsLedOnBy_63 rfl rfl (Nat.le_of_ble_eq_true rfl) rfl rfl ?_ | refine xv_iinc (pc' := 66) hF xd_RE_pairsLedOnBy_63 rfl rfl (Nat.le_of_ble_eq_true rfl) rfl rfl ?_
                refine xv_goto (tgt := 4) hF xd_RE_pairsLedOnBy_66 (by decide) ?_
                exact xv_loc _ (by repeat (first | exact trivial | refine ⟨rfl, ?_⟩)) (ih _ (by omega) (t + 1) rfl (by omega))
            · refine xv_aload_n (pc' := 24) (i := 0) hF xd_RE_pairsLedOnBy_23 rfl rfl rfl ?_
              refine xv_get (pc' := 27) (ci := 2) hF (by first | assumption | exact xu_self | (refine (xu_ne (by omega)).trans ?_; first | assumption | exact xu_self | (refine (xu_ne (by omega)).trans ?_; first | assumption | exact xu_self | (refine (xu_ne (by omega)).trans ?_; first | assumption | exact xu_self | (refine (xu_ne (by omega)).trans ?_; first | assumption | exact xu_self))))) rfl xu_RE 0 (by decide) xk_RE_f9 (by rfl) xd_RE_pairsLedOnBy_24 rfl ?_
              refine xv_iload_n (pc' := 28) (i := 3) hF xd_RE_pairsLedOnBy_27 rfl rfl rfl ?_
              first | refine xv_ialdN (pc' := 29) hF (by first | assumption | exact xu_self | (refine (xu_ne (by omega)).trans ?_; first | assumption | exact xu_self | (refine (xu_ne (by omega)).trans ?_; first | assumption | exact xu_self | (refine (xu_ne (by omega)).trans ?_; first | assumption | exact xu_self | (refine (xu_ne (by omega)).trans ?_; first | assumption | exact xu_self))))) (by omega) (by decide) xd_RE_pairsLedOnBy_28 rfl ?_ | refine xv_iald (pc' := 29) hF (by first | assumption | exact xu_self | (refine (xu_ne (by omega)).trans ?_; first | assumption | exact xu_self | (refine (xu_ne (by omega)).trans ?_; first | assumption | exact xu_self | (refine (xu_ne (by omega)).trans ?_; first | assumption | exact xu_self | (refine (xu_ne (by omega)).trans ?_; first | assumption | exact xu_self))))) (by omega) xd_RE_pairsLedOnBy_28 rfl ?_
              refine xv_iload (pc' := 31) hF xd_RE_pairsLedOnBy_29 rfl rfl ?_
              refine xv_callSNi (pc' := 34) hF (c_PD_isIn K n h (f t) v e3) xq_PD_isIn xk_RE_m24 xk_t_PD_isIn ⟨(Nat.le_of_ble_eq_true rfl), (Nat.le_of_ble_eq_true rfl)⟩ rfl rfl (Nat.le_of_ble_eq_true rfl) ⟨(Nat.le_of_ble_eq_true rfl), (Nat.le_of_ble_eq_true rfl)⟩ xd_RE_pairsLedOnBy_31 rfl (fun r4 n4 h4 p4 => ?_)
              obtain ⟨rfl, rfl, rfl⟩ := p4
              refine xv_if_eqB (pc' := 37) (tgt := 49) hF xd_RE_pairsLedOnBy_34 (by decide) rfl (fun e5 => ?_) (fun e5 => ?_)
              · rw [(hM t v e e3).1] at e5
                first | refine xv_iincN (pc' := 52) hF xd_RE_pairsLedOnBy_49 rfl rfl (Nat.le_of_ble_eq_true rfl) rfl rfl ?_ | refine xv_iinc (pc' := 52) hF xd_RE_pairsLedOnBy_49 rfl rfl (Nat.le_of_ble_eq_true rfl) rfl rfl ?_
                refine xv_goto (tgt := 16) hF xd_RE_pairsLedOnBy_52 (by decide) ?_
                refine xv_loc _ (by repeat (first | exact trivial | refine ⟨rfl, ?_⟩)) (ih2 _ (by omega) (v + 1) _ rfl (by omega) ?_)
                intro j hj
                rw [hb j hj]
                show _ = (md_via M N t j v || (decide (M t v < 1000000) && decide (N v j < 1000000)))
                rw [e5]; simp
              · rw [(hM t v e e3).1] at e5
                refine xv_iload (pc' := 39) hF xd_RE_pairsLedOnBy_37 rfl rfl ?_
                refine xv_aload_n (pc' := 40) (i := 1) hF xd_RE_pairsLedOnBy_39 rfl rfl rfl ?_
                refine xv_get (pc' := 43) (ci := 2) hF (by first | assumption | exact xu_self | (refine (xu_ne (by omega)).trans ?_; first | assumption | exact xu_self | (refine (xu_ne (by omega)).trans ?_; first | assumption | exact xu_self | (refine (xu_ne (by omega)).trans ?_; first | assumption | exact xu_self | (refine (xu_ne (by omega)).trans ?_; first | assumption | exact xu_self))))) rfl xu_RE 0 (by decide) xk_RE_f9 (by rfl) xd_RE_pairsLedOnBy_40 rfl ?_
                refine xv_iload (pc' := 45) hF xd_RE_pairsLedOnBy_43 rfl rfl ?_
                first | refine xv_ialdN (pc' := 46) hF (by first | assumption | exact xu_self | (refine (xu_ne (by omega)).trans ?_; first | assumption | exact xu_self | (refine (xu_ne (by omega)).trans ?_; first | assumption | exact xu_self | (refine (xu_ne (by omega)).trans ?_; first | assumption | exact xu_self | (refine (xu_ne (by omega)).trans ?_; first | assumption | exact xu_self))))) (by omega) (by decide) xd_RE_pairsLedOnBy_45 rfl ?_ | refine xv_iald (pc' := 46) hF (by first | assumption | exact xu_self | (refine (xu_ne (by omega)).trans ?_; first | assumption | exact xu_self | (refine (xu_ne (by omega)).trans ?_; first | assumption | exact xu_self | (refine (xu_ne (by omega)).trans ?_; first | assumption | exact xu_self | (refine (xu_ne (by omega)).trans ?_; first | assumption | exact xu_self))))) (by omega) xd_RE_pairsLedOnBy_45 rfl ?_
                refine xv_ior (pc' := 47) hF xd_RE_pairsLedOnBy_46 rfl ?_
                refine xv_istore (pc' := 49) hF xd_RE_pairsLedOnBy_47 (Nat.le_of_ble_eq_true rfl) rfl rfl ?_
                first | refine xv_iincN (pc' := 52) hF xd_RE_pairsLedOnBy_49 rfl rfl (Nat.le_of_ble_eq_true rfl) rfl rfl ?_ | refine xv_iinc (pc' := 52) hF xd_RE_pairsLedOnBy_49 rfl rfl (Nat.le_of_ble_eq_true rfl) rfl rfl ?_
                refine xv_goto (tgt := 16) hF xd_RE_pairsLedOnBy_52 (by decide) ?_
                refine xv_loc _ (by repeat (first | exact trivial | refine ⟨rfl, ?_⟩)) (ih2 _ (by omega) (v + 1) _ rfl (by omega) ?_)
                intro j hj
                rw [b_or, hb j hj, (hN v j e3 hj).1]
                show _ = (md_via M N t j v || (decide (M t v < 1000000) && decide (N v j < 1000000)))
                rw [e5]; simp
        refine xv_loc _ (by repeat (first | exact trivial | refine ⟨rfl, ?_⟩)) (loop2 32 0 _ (by omega) (by omega) ?_)
        intro j hj
        rw [show nI 0 = 0 from nI_0, b_0]
        rfl
  exact xv_loc _ (by repeat (first | exact trivial | refine ⟨rfl, ?_⟩)) (loop 32 0 (by omega) (by omega))
/-! the first node with P -/
def md_fst (P : Nat → Prop) (r : Int32) : Prop := (∃ i, i < 32 ∧ P i ∧ (∀ j, j < i → ¬ P j) ∧ r = nI i) ∨ ((∀ i, i < 32 → ¬ P i) ∧ r = -1)
set_option maxHeartbeats 4000000 in
set_option maxRecDepth 100000 in
theorem c_RE_leastOnCircle (K : xK) (n : Nat) (h : xH) (a : Nat) (M : Nat → Nat → Nat) (hr : re_R K h a M) : XM K xy_RE_leastOnCircle xw_RE_leastOnCircle (xrm 1 21 0 0) [.ref a] n h (x_pi fun r n' h' => md_fst (fun i => M i i < 1000000) r ∧ n = n' ∧ h = h') 0 0 := by
  obtain ⟨f, g, ⟨ha, hf, hg⟩, hM⟩ := hr
  refine xm_i (by decide +kernel) (Nat.le_of_ble_eq_true rfl) (fun G hF hR => ?_)
  refine xv_iconstN (pc' := 1) 0 hF xd_RE_leastOnCircle_0 (by decide +kernel) rfl ?_
  refine xv_istore_n (pc' := 2) (i := 1) hF xd_RE_leastOnCircle_1 rfl (Nat.le_of_ble_eq_true rfl) rfl rfl ?_
  have loop : ∀ d t, 32 - t = d → t ≤ 32 → (∀ j, j < t → ¬ M j j < 1000000) → XV G 0 0 2 [(1, .int (nI t)), (0, .ref a)] [] n h := by
    intro d
    induction d using Nat.strongRecOn with
    | ind d ih =>
      intro t hd ht hn
      refine xv_iload_n (pc' := 3) (i := 1) hF xd_RE_leastOnCircle_2 rfl rfl rfl ?_
      refine xv_bipushN (pc' := 5) 32 hF xd_RE_leastOnCircle_3 (by decide +kernel) rfl ?_
      refine xv_icmp_geN (pc' := 8) (tgt := 29) hF (by omega) (by omega) xd_RE_leastOnCircle_5 (by decide) rfl (fun e => ?_) (fun e => ?_)
      · refine xv_iconst (pc' := 30) (v := -1) hF xd_RE_leastOnCircle_29 (by decide +kernel) rfl ?_
        refine hR _ _ _ _ _ _ _ (by omega) (by omega) ?_ xd_RE_leastOnCircle_30
        exact ⟨Or.inr ⟨fun i hi => hn i (by omega), rfl⟩, rfl, rfl⟩
      · refine xv_aload_n (pc' := 9) (i := 0) hF xd_RE_leastOnCircle_8 rfl rfl rfl ?_
        refine xv_get (pc' := 12) (ci := 2) hF (by first | assumption | exact xu_self | (refine (xu_ne (by omega)).trans ?_; first | assumption | exact xu_self | (refine (xu_ne (by omega)).trans ?_; first | assumption | exact xu_self | (refine (xu_ne (by omega)).trans ?_; first | assumption | exact xu_self | (refine (xu_ne (by omega)).trans ?_; first | assumption | exact xu_self))))) rfl xu_RE 0 (by decide) xk_RE_f9 (by rfl) xd_RE_leastOnCircle_9 rfl ?_
        refine xv_iload_n (pc' := 13) (i := 1) hF xd_RE_leastOnCircle_12 rfl rfl rfl ?_
        first | refine xv_ialdN (pc' := 14) hF (by first | assumption | exact xu_self | (refine (xu_ne (by omega)).trans ?_; first | assumption | exact xu_self | (refine (xu_ne (by omega)).trans ?_; first | assumption | exact xu_self | (refine (xu_ne (by omega)).trans ?_; first | assumption | exact xu_self | (refine (xu_ne (by omega)).trans ?_; first | assumption | exact xu_self))))) (by omega) (by decide) xd_RE_leastOnCircle_13 rfl ?_ | refine xv_iald (pc' := 14) hF (by first | assumption | exact xu_self | (refine (xu_ne (by omega)).trans ?_; first | assumption | exact xu_self | (refine (xu_ne (by omega)).trans ?_; first | assumption | exact xu_self | (refine (xu_ne (by omega)).trans ?_; first | assumption | exact xu_self | (refine (xu_ne (by omega)).trans ?_; first | assumption | exact xu_self))))) (by omega) xd_RE_leastOnCircle_13 rfl ?_
        refine xv_iload_n (pc' := 15) (i := 1) hF xd_RE_leastOnCircle_14 rfl rfl rfl ?_
        refine xv_callSNi (pc' := 18) hF (c_PD_isIn K n h (f t) t e) xq_PD_isIn xk_RE_m24 xk_t_PD_isIn ⟨(Nat.le_of_ble_eq_true rfl), (Nat.le_of_ble_eq_true rfl)⟩ rfl rfl (Nat.le_of_ble_eq_true rfl) ⟨(Nat.le_of_ble_eq_true rfl), (Nat.le_of_ble_eq_true rfl)⟩ xd_RE_leastOnCircle_15 rfl (fun r4 n4 h4 p4 => ?_)
        obtain ⟨rfl, rfl, rfl⟩ := p4
        refine xv_if_eqB (pc' := 21) (tgt := 23) hF xd_RE_leastOnCircle_18 (by decide) rfl (fun e5 => ?_) (fun e5 => ?_)
        · rw [(hM t t e e).1] at e5
          have e5 := of_decide_eq_false e5
          first | refine xv_iincN (pc' := 26) hF xd_RE_leastOnCircle_23 rfl rfl (Nat.le_of_ble_eq_true rfl) rfl rfl ?_ | refine xv_iinc (pc' := 26) hF xd_RE_leastOnCircle_23 rfl rfl (Nat.le_of_ble_eq_true rfl) rfl rfl ?_
          refine xv_goto (tgt := 2) hF xd_RE_leastOnCircle_26 (by decide) ?_
          refine xv_loc _ (by repeat (first | exact trivial | refine ⟨rfl, ?_⟩)) (ih _ (by omega) (t + 1) rfl (by omega) ?_)
          intro j hj
          by_cases c0 : j = t
          · subst c0; exact e5
          · exact hn j (by omega)
        · rw [(hM t t e e).1] at e5
          have e5 := of_decide_eq_true e5
          refine xv_iload_n (pc' := 22) (i := 1) hF xd_RE_leastOnCircle_21 rfl rfl rfl ?_
          refine hR _ _ _ _ _ _ _ (by omega) (by omega) ?_ xd_RE_leastOnCircle_22
          exact ⟨Or.inl ⟨t, e, e5, hn, rfl⟩, rfl, rfl⟩
  exact xv_loc _ (by repeat (first | exact trivial | refine ⟨rfl, ?_⟩)) (loop 32 0 (by omega) (by omega) (fun j hj => by omega))
/-! the node with most ends: its number, one more (0: none), and how many -/
def md_be (M : Nat → Nat → Nat) : Nat → Nat × Nat
  | 0 => (0, 0)
  | k + 1 => if (md_be M k).2 < bc_n (fun j => decide (M k j < 1000000)) 32 then (k + 1, bc_n (fun j => decide (M k j < 1000000)) 32) else md_be M k
theorem md_be_le (M : Nat → Nat → Nat) : ∀ k, (md_be M k).2 ≤ 32
  | 0 => Nat.zero_le _
  | k + 1 => by
    unfold md_be
    split
    · exact bc_le _ _
    · exact md_be_le M k
set_option maxHeartbeats 4000000 in
set_option maxRecDepth 100000 in
theorem c_RE_richestNode (K : xK) (n : Nat) (h : xH) (a : Nat) (M : Nat → Nat → Nat) (hr : re_R K h a M) : XM K xy_RE_richestNode xw_RE_richestNode (xrm 1 20 0 0) [.ref a] n h (x_pi fun r n' h' => r = xm1 (md_be M 32).1 ∧ n = n' ∧ h = h') 0 0 := by
  obtain ⟨f, g, ⟨ha, hf, hg⟩, hM⟩ := hr
  refine xm_i (by decide +kernel) (Nat.le_of_ble_eq_true rfl) (fun G hF hR => ?_)
  refine xv_iconst (pc' := 1) (v := -1) hF xd_RE_richestNode_0 (by decide +kernel) rfl ?_
  refine xv_istore_n (pc' := 2) (i := 1) hF xd_RE_richestNode_1 rfl (Nat.le_of_ble_eq_true rfl) rfl rfl ?_
  refine xv_iconstN (pc' := 3) 0 hF xd_RE_richestNode_2 (by decide +kernel) rfl ?_
  refine xv_istore_n (pc' := 4) (i := 2) hF xd_RE_richestNode_3 rfl (Nat.le_of_ble_eq_true rfl) rfl rfl ?_
  refine xv_iconstN (pc' := 5) 0 hF xd_RE_richestNode_4 (by decide +kernel) rfl ?_
  refine xv_istore_n (pc' := 6) (i := 3) hF xd_RE_richestNode_5 rfl (Nat.le_of_ble_eq_true rfl) rfl rfl ?_
  have loop : ∀ d t, 32 - t = d → t ≤ 32 → XV G 0 0 6 [(3, .int (nI t)), (2, .int (nI (md_be M t).2)), (1, .int (xm1 (md_be M t).1)), (0, .ref a)] [] n h := by
    intro d
    induction d using Nat.strongRecOn with
    | ind d ih =>
      intro t hd ht
      have hle := md_be_le M t
      refine xv_iload_n (pc' := 7) (i := 3) hF xd_RE_richestNode_6 rfl rfl rfl ?_
      refine xv_bipushN (pc' := 9) 32 hF xd_RE_richestNode_7 (by decide +kernel) rfl ?_
      refine xv_icmp_geN (pc' := 12) (tgt := 40) hF (by omega) (by omega) xd_RE_richestNode_9 (by decide) rfl (fun e => ?_) (fun e => ?_)
      · refine xv_iload_n (pc' := 41) (i := 1) hF xd_RE_richestNode_40 rfl rfl rfl ?_
        refine hR _ _ _ _ _ _ _ (by omega) (by omega) ?_ xd_RE_richestNode_41
        have : t = 32 := by omega
        subst this
        exact ⟨rfl, rfl, rfl⟩
      · refine xv_aload_n (pc' := 13) (i := 0) hF xd_RE_richestNode_12 rfl rfl rfl ?_
        refine xv_get (pc' := 16) (ci := 2) hF (by first | assumption | exact xu_self | (refine (xu_ne (by omega)).trans ?_; first | assumption | exact xu_self | (refine (xu_ne (by omega)).trans ?_; first | assumption | exact xu_self | (refine (xu_ne (by omega)).trans ?_; first | assumption | exact xu_self | (refine (xu_ne (by omega)).trans ?_; first | assumption | exact xu_self))))) rfl xu_RE 0 (by decide) xk_RE_f9 (by rfl) xd_RE_richestNode_13 rfl ?_
        refine xv_iload_n (pc' := 17) (i := 3) hF xd_RE_richestNode_16 rfl rfl rfl ?_
        first | refine xv_ialdN (pc' := 18) hF (by first | assumption | exact xu_self | (refine (xu_ne (by omega)).trans ?_; first | assumption | exact xu_self | (refine (xu_ne (by omega)).trans ?_; first | assumption | exact xu_self | (refine (xu_ne (by omega)).trans ?_; first | assumption | exact xu_self | (refine (xu_ne (by omega)).trans ?_; first | assumption | exact xu_self))))) (by omega) (by decide) xd_RE_richestNode_17 rfl ?_ | refine xv_iald (pc' := 18) hF (by first | assumption | exact xu_self | (refine (xu_ne (by omega)).trans ?_; first | assumption | exact xu_self | (refine (xu_ne (by omega)).trans ?_; first | assumption | exact xu_self | (refine (xu_ne (by omega)).trans ?_; first | assumption | exact xu_self | (refine (xu_ne (by omega)).trans ?_; first | assumption | exact xu_self))))) (by omega) xd_RE_richestNode_17 rfl ?_
        refine xv_callSi (pc' := 21) hF (c_JI_bitCount K n h (f t)) xq_JI_bitCount xk_RE_m53 xk_t_JI_bitCount ⟨(Nat.le_of_ble_eq_true rfl), (Nat.le_of_ble_eq_true rfl)⟩ rfl rfl (Nat.le_of_ble_eq_true rfl) ⟨(Nat.le_of_ble_eq_true rfl), (Nat.le_of_ble_eq_true rfl)⟩ xd_RE_richestNode_18 rfl (fun r4 n4 h4 p4 => ?_)
        obtain ⟨rfl, rfl, rfl⟩ := p4
        rw [bc_congr (fun i hi => (hM t i e hi).1)]
        have hl2 := bc_le (fun j => decide (M t j < 1000000)) 32
        refine xv_istore (pc' := 23) hF xd_RE_richestNode_21 (Nat.le_of_ble_eq_true rfl) rfl rfl ?_
        refine xv_iload (pc' := 25) hF xd_RE_richestNode_23 rfl rfl ?_
        refine xv_iload_n (pc' := 26) (i := 2) hF xd_RE_richestNode_25 rfl rfl rfl ?_
        refine xv_icmp_leN (pc' := 29) (tgt := 34) hF (by omega) (by omega) xd_RE_richestNode_26 (by decide) rfl (fun e5 => ?_) (fun e5 => ?_)
        · have es : md_be M (t + 1) = md_be M t := by
            show (if _ then _ else _) = _
            rw [if_neg (by omega)]
          first | refine xv_iincN (pc' := 37) hF xd_RE_richestNode_34 rfl rfl (Nat.le_of_ble_eq_true rfl) rfl rfl ?_ | refine xv_iinc (pc' := 37) hF xd_RE_richestNode_34 rfl rfl (Nat.le_of_ble_eq_true rfl) rfl rfl ?_
          refine xv_goto (tgt := 6) hF xd_RE_richestNode_37 (by decide) ?_
          have q := ih _ (by omega) (t + 1) rfl (by omega)
          rw [es] at q
          exact xv_loc _ (by repeat (first | exact trivial | refine ⟨rfl, ?_⟩)) q
        · have es : md_be M (t + 1) = (t + 1, bc_n (fun j => decide (M t j < 1000000)) 32) := by
            show (if _ then _ else _) = _
            rw [if_pos e5]
          refine xv_iload_n (pc' := 30) (i := 3) hF xd_RE_richestNode_29 rfl rfl rfl ?_
          refine xv_istore_n (pc' := 31) (i := 1) hF xd_RE_richestNode_30 rfl (Nat.le_of_ble_eq_true rfl) rfl rfl ?_
          refine xv_iload (pc' := 33) hF xd_RE_richestNode_31 rfl rfl ?_
          refine xv_istore_n (pc' := 34) (i := 2) hF xd_RE_richestNode_33 rfl (Nat.le_of_ble_eq_true rfl) rfl rfl ?_
          first | refine xv_iincN (pc' := 37) hF xd_RE_richestNode_34 rfl rfl (Nat.le_of_ble_eq_true rfl) rfl rfl ?_ | refine xv_iinc (pc' := 37) hF xd_RE_richestNode_34 rfl rfl (Nat.le_of_ble_eq_true rfl) rfl rfl ?_
          refine xv_goto (tgt := 6) hF xd_RE_richestNode_37 (by decide) ?_
          have q := ih _ (by omega) (t + 1) rfl (by omega)
          rw [es] at q
          exact xv_loc _ (by repeat (first | exact trivial | refine ⟨rfl, ?_⟩)) q
  exact xv_loc _ (by repeat (first | exact trivial | refine ⟨rfl, ?_⟩)) (loop 32 0 (by omega) (by omega))
end
section
/-! Graph: E l i j: an edge from i to j by label l; Tg t i: node i has tag t; e: how many edges -/
def gh_at (K : xK) (h : xH) (o : Nat) (T g : Nat → Int32) (e : Nat) : Prop := h o = some (.inr (1, [.ref (o + 1), .ref (o + 2), .int (nI e)])) ∧ h (o + 1) = some (.inl (K.2.2.1 0, 256, .inl T)) ∧ h (o + 2) = some (.inl (K.2.2.1 0, 4, .inl g))
def gh_is (T g : Nat → Int32) (E : Nat → Nat → Nat → Bool) (Tg : Nat → Nat → Bool) : Prop := (∀ l i j, l < 8 → i < 32 → j < 32 → bt (T (l * 32 + i)) j = E l i j) ∧ ∀ t i, t < 4 → i < 32 → bt (g t) i = Tg t i
def gh_R (K : xK) (h : xH) (o : Nat) (E : Nat → Nat → Nat → Bool) (Tg : Nat → Nat → Bool) (e : Nat) : Prop := ∃ T g, gh_at K h o T g e ∧ gh_is T g E Tg
def gh_fr (h h' : xH) (o : Nat) : Prop := ∀ q, q < o ∨ o + 3 ≤ q → h' q = h q
def ed_set (E : Nat → Nat → Nat → Bool) (l i j : Nat) (b : Bool) : Nat → Nat → Nat → Bool := fun x y z => if x = l ∧ y = i ∧ z = j then b else E x y z
def tg_set (Tg : Nat → Nat → Bool) (t i : Nat) (b : Bool) : Nat → Nat → Bool := fun x y => if x = t ∧ y = i then b else Tg x y
set_option maxHeartbeats 4000000 in
set_option maxRecDepth 100000 in
theorem c_GR_hasEdge (K : xK) (n : Nat) (h : xH) (o i l j e : Nat) (E : Nat → Nat → Nat → Bool) (Tg : Nat → Nat → Bool) (hr : gh_R K h o E Tg e) (hi : i < 32) (hl : l < 8) (hj : j < 32) : XM K xy_GR_hasEdge xw_GR_hasEdge (xrm 1 21 0 0) [.ref o, .int (nI i), .int (nI l), .int (nI j)] n h (x_pi fun r n' h' => r = xb (E l i j) ∧ n = n' ∧ h = h') 0 0 := by
  obtain ⟨T, g, ⟨ha, hf, hg⟩, h1, h2⟩ := hr
  refine xm_z (by decide +kernel) (Nat.le_of_ble_eq_true rfl) (fun G hF hR => ?_)
  refine xv_aload_n (pc' := 1) (i := 0) hF xd_GR_hasEdge_0 rfl rfl rfl ?_
  refine xv_get (pc' := 4) (ci := 1) hF (by first | assumption | exact xu_self | (refine (xu_ne (by omega)).trans ?_; first | assumption | exact xu_self | (refine (xu_ne (by omega)).trans ?_; first | assumption | exact xu_self | (refine (xu_ne (by omega)).trans ?_; first | assumption | exact xu_self | (refine (xu_ne (by omega)).trans ?_; first | assumption | exact xu_self))))) rfl xu_GR 0 (by decide) xk_GR_f9 (by rfl) xd_GR_hasEdge_1 rfl ?_
  refine xv_iload_n (pc' := 5) (i := 2) hF xd_GR_hasEdge_4 rfl rfl rfl ?_
  refine xv_bipushN (pc' := 7) 32 hF xd_GR_hasEdge_5 (by decide +kernel) rfl ?_
  first | refine xv_imulN (pc' := 8) hF xd_GR_hasEdge_7 rfl ?_ | refine xv_imul (pc' := 8) hF xd_GR_hasEdge_7 rfl ?_
  refine xv_iload_n (pc' := 9) (i := 1) hF xd_GR_hasEdge_8 rfl rfl rfl ?_
  first | refine xv_iaddN (pc' := 10) hF xd_GR_hasEdge_9 rfl ?_ | refine xv_iadd (pc' := 10) hF xd_GR_hasEdge_9 rfl ?_
  first | refine xv_ialdN (pc' := 11) hF (by first | assumption | exact xu_self | (refine (xu_ne (by omega)).trans ?_; first | assumption | exact xu_self | (refine (xu_ne (by omega)).trans ?_; first | assumption | exact xu_self | (refine (xu_ne (by omega)).trans ?_; first | assumption | exact xu_self | (refine (xu_ne (by omega)).trans ?_; first | assumption | exact xu_self))))) (by omega) (by decide) xd_GR_hasEdge_10 rfl ?_ | refine xv_iald (pc' := 11) hF (by first | assumption | exact xu_self | (refine (xu_ne (by omega)).trans ?_; first | assumption | exact xu_self | (refine (xu_ne (by omega)).trans ?_; first | assumption | exact xu_self | (refine (xu_ne (by omega)).trans ?_; first | assumption | exact xu_self | (refine (xu_ne (by omega)).trans ?_; first | assumption | exact xu_self))))) (by omega) xd_GR_hasEdge_10 rfl ?_
  refine xv_iload_n (pc' := 12) (i := 3) hF xd_GR_hasEdge_11 rfl rfl rfl ?_
  refine xv_callSNi (pc' := 15) hF (c_PD_isIn K n h (T (l * 32 + i)) j hj) xq_PD_isIn xk_GR_m22 xk_t_PD_isIn ⟨(Nat.le_of_ble_eq_true rfl), (Nat.le_of_ble_eq_true rfl)⟩ rfl rfl (Nat.le_of_ble_eq_true rfl) ⟨(Nat.le_of_ble_eq_true rfl), (Nat.le_of_ble_eq_true rfl)⟩ xd_GR_hasEdge_12 rfl (fun r n3 h3 p3 => ?_)
  obtain ⟨rfl, rfl, rfl⟩ := p3
  refine hR _ _ _ _ _ _ _ (by omega) (by omega) ?_ (by first | rfl | exact xb_nw _ | decide +kernel) xd_GR_hasEdge_15
  exact ⟨by rw [h1 l i j hl hi hj], rfl, rfl⟩
theorem bt_or1 (x : Int32) {t i : Nat} (ht : t < 32) (hi : i < 32) : bt (x ||| nI 1 <<< (nI t &&& 31)) i = if i = t then true else bt x i := by
  rw [b_or, bt_oneN t ht i hi]
  by_cases c : i = t <;> simp [c]
theorem bt_and0 (x : Int32) {t i : Nat} (ht : t < 32) (hi : i < 32) : bt (x &&& ((nI 1 <<< (nI t &&& 31)) ^^^ (-1))) i = if i = t then false else bt x i := by
  rw [b_and, bt_not _ hi, bt_oneN t ht i hi]
  by_cases c : i = t <;> simp [c]
theorem gh_put {T g : Nat → Int32} {E : Nat → Nat → Nat → Bool} {Tg : Nat → Nat → Bool} (h : gh_is T g E Tg) {l i j : Nat} (hl : l < 8) (hi : i < 32) (b : Bool) {x : Int32} (hx : ∀ z, z < 32 → bt x z = if z = j then b else bt (T (l * 32 + i)) z) : gh_is (upd T (l * 32 + i) x) g (ed_set E l i j b) Tg := by
  refine ⟨fun a y z ha hy hz => ?_, h.2⟩
  unfold ed_set
  by_cases c : a = l ∧ y = i
  · obtain ⟨rfl, rfl⟩ := c
    rw [pk_us, hx z hz, h.1 a y z ha hy hz]
    by_cases c2 : z = j <;> simp [c2]
  · rw [pk_un (by omega), if_neg (fun q => c ⟨q.1, q.2.1⟩)]
    exact h.1 a y z ha hy hz
set_option maxHeartbeats 4000000 in
set_option maxRecDepth 100000 in
theorem c_GR_putEdge (K : xK) (n : Nat) (h : xH) (o i l j e : Nat) (E : Nat → Nat → Nat → Bool) (Tg : Nat → Nat → Bool) (hr : gh_R K h o E Tg e) (hi : i < 32) (hl : l < 8) (hj : j < 32) (he : e < 1000) : XM K xy_GR_putEdge xw_GR_putEdge (xrm 0 0 0 0) [.ref o, .int (nI i), .int (nI l), .int (nI j)] n h (x_pv fun n' h' => n = n' ∧ gh_fr h h' o ∧ gh_R K h' o (ed_set E l i j true) Tg (e + 1)) 0 0 := by
  obtain ⟨T, g, ⟨ha, hf, hg⟩, h12⟩ := hr
  refine xm_v (by decide +kernel) (Nat.le_of_ble_eq_true rfl) (fun G hF hR => ?_)
  refine xv_aload_n (pc' := 1) (i := 0) hF xd_GR_putEdge_0 rfl rfl rfl ?_
  refine xv_get (pc' := 4) (ci := 1) hF (by first | assumption | exact xu_self | (refine (xu_ne (by omega)).trans ?_; first | assumption | exact xu_self | (refine (xu_ne (by omega)).trans ?_; first | assumption | exact xu_self | (refine (xu_ne (by omega)).trans ?_; first | assumption | exact xu_self | (refine (xu_ne (by omega)).trans ?_; first | assumption | exact xu_self))))) rfl xu_GR 0 (by decide) xk_GR_f9 (by rfl) xd_GR_putEdge_1 rfl ?_
  refine xv_iload_n (pc' := 5) (i := 2) hF xd_GR_putEdge_4 rfl rfl rfl ?_
  refine xv_bipushN (pc' := 7) 32 hF xd_GR_putEdge_5 (by decide +kernel) rfl ?_
  first | refine xv_imulN (pc' := 8) hF xd_GR_putEdge_7 rfl ?_ | refine xv_imul (pc' := 8) hF xd_GR_putEdge_7 rfl ?_
  refine xv_iload_n (pc' := 9) (i := 1) hF xd_GR_putEdge_8 rfl rfl rfl ?_
  first | refine xv_iaddN (pc' := 10) hF xd_GR_putEdge_9 rfl ?_ | refine xv_iadd (pc' := 10) hF xd_GR_putEdge_9 rfl ?_
  refine xv_dup2 (pc' := 11) hF xd_GR_putEdge_10 rfl rfl rfl ?_
  first | refine xv_ialdN (pc' := 12) hF (by first | assumption | exact xu_self | (refine (xu_ne (by omega)).trans ?_; first | assumption | exact xu_self | (refine (xu_ne (by omega)).trans ?_; first | assumption | exact xu_self | (refine (xu_ne (by omega)).trans ?_; first | assumption | exact xu_self | (refine (xu_ne (by omega)).trans ?_; first | assumption | exact xu_self))))) (by omega) (by decide) xd_GR_putEdge_11 rfl ?_ | refine xv_iald (pc' := 12) hF (by first | assumption | exact xu_self | (refine (xu_ne (by omega)).trans ?_; first | assumption | exact xu_self | (refine (xu_ne (by omega)).trans ?_; first | assumption | exact xu_self | (refine (xu_ne (by omega)).trans ?_; first | assumption | exact xu_self | (refine (xu_ne (by omega)).trans ?_; first | assumption | exact xu_self))))) (by omega) xd_GR_putEdge_11 rfl ?_
  refine xv_iconstN (pc' := 13) 1 hF xd_GR_putEdge_12 (by decide +kernel) rfl ?_
  refine xv_iload_n (pc' := 14) (i := 3) hF xd_GR_putEdge_13 rfl rfl rfl ?_
  refine xv_ishl (pc' := 15) hF xd_GR_putEdge_14 rfl ?_
  refine xv_ior (pc' := 16) hF xd_GR_putEdge_15 rfl ?_
  refine xv_iastN (pc' := 17) hF (by first | assumption | exact xu_self | (refine (xu_ne (by omega)).trans ?_; first | assumption | exact xu_self | (refine (xu_ne (by omega)).trans ?_; first | assumption | exact xu_self | (refine (xu_ne (by omega)).trans ?_; first | assumption | exact xu_self | (refine (xu_ne (by omega)).trans ?_; first | assumption | exact xu_self))))) (by omega) (by decide) xd_GR_putEdge_16 rfl ?_
  refine xv_aload_n (pc' := 18) (i := 0) hF xd_GR_putEdge_17 rfl rfl rfl ?_
  refine xv_dup (pc' := 19) hF xd_GR_putEdge_18 rfl rfl ?_
  refine xv_get (pc' := 22) (ci := 1) hF (by first | assumption | exact xu_self | (refine (xu_ne (by omega)).trans ?_; first | assumption | exact xu_self | (refine (xu_ne (by omega)).trans ?_; first | assumption | exact xu_self | (refine (xu_ne (by omega)).trans ?_; first | assumption | exact xu_self | (refine (xu_ne (by omega)).trans ?_; first | assumption | exact xu_self))))) rfl xu_GR 2 (by decide) xk_GR_f18 (by rfl) xd_GR_putEdge_19 rfl ?_
  refine xv_iconstN (pc' := 23) 1 hF xd_GR_putEdge_22 (by decide +kernel) rfl ?_
  first | refine xv_iaddN (pc' := 24) hF xd_GR_putEdge_23 rfl ?_ | refine xv_iadd (pc' := 24) hF xd_GR_putEdge_23 rfl ?_
  refine xv_put (pc' := 27) (ci := 1) (ty := xt_GR 2) hF (by first | assumption | exact xu_self | (refine (xu_ne (by omega)).trans ?_; first | assumption | exact xu_self | (refine (xu_ne (by omega)).trans ?_; first | assumption | exact xu_self | (refine (xu_ne (by omega)).trans ?_; first | assumption | exact xu_self | (refine (xu_ne (by omega)).trans ?_; first | assumption | exact xu_self))))) rfl xu_GR xt_GR xo_GR xn_GR 2 (by decide) xk_GR_f18 rfl (by decide +kernel) (by first | rfl | exact xb_nw _ | decide +kernel) (by first | rfl | exact xb_ft _ | decide +kernel) (by exact Nat.le_of_ble_eq_true rfl) (by dsimp only [List.set] <;> rfl) xd_GR_putEdge_24 rfl ?_
  refine hR _ _ _ _ _ _ (by omega) (by omega) ?_ xd_GR_putEdge_27
  refine ⟨rfl, fun q hq => ?_, ?_⟩
  · rw [xu_ne (by omega), xu_ne (by omega)]
  · exact ⟨_, _, ⟨xu_self, by rw [xu_ne (by omega)]; exact xu_self, by rw [xu_ne (by omega), xu_ne (by omega)]; exact hg⟩, gh_put h12 hl hi true fun z hz => bt_or1 _ hj hz⟩
set_option maxHeartbeats 4000000 in
set_option maxRecDepth 100000 in
theorem c_GR_dropEdge (K : xK) (n : Nat) (h : xH) (o i l j e : Nat) (E : Nat → Nat → Nat → Bool) (Tg : Nat → Nat → Bool) (hr : gh_R K h o E Tg e) (hi : i < 32) (hl : l < 8) (hj : j < 32) (he : 1 ≤ e) : XM K xy_GR_dropEdge xw_GR_dropEdge (xrm 0 0 0 0) [.ref o, .int (nI i), .int (nI l), .int (nI j)] n h (x_pv fun n' h' => n = n' ∧ gh_fr h h' o ∧ gh_R K h' o (ed_set E l i j false) Tg (e - 1)) 0 0 := by
  obtain ⟨T, g, ⟨ha, hf, hg⟩, h12⟩ := hr
  refine xm_v (by decide +kernel) (Nat.le_of_ble_eq_true rfl) (fun G hF hR => ?_)
  refine xv_aload_n (pc' := 1) (i := 0) hF xd_GR_dropEdge_0 rfl rfl rfl ?_
  refine xv_get (pc' := 4) (ci := 1) hF (by first | assumption | exact xu_self | (refine (xu_ne (by omega)).trans ?_; first | assumption | exact xu_self | (refine (xu_ne (by omega)).trans ?_; first | assumption | exact xu_self | (refine (xu_ne (by omega)).trans ?_; first | assumption | exact xu_self | (refine (xu_ne (by omega)).trans ?_; first | assumption | exact xu_self))))) rfl xu_GR 0 (by decide) xk_GR_f9 (by rfl) xd_GR_dropEdge_1 rfl ?_
  refine xv_iload_n (pc' := 5) (i := 2) hF xd_GR_dropEdge_4 rfl rfl rfl ?_
  refine xv_bipushN (pc' := 7) 32 hF xd_GR_dropEdge_5 (by decide +kernel) rfl ?_
  first | refine xv_imulN (pc' := 8) hF xd_GR_dropEdge_7 rfl ?_ | refine xv_imul (pc' := 8) hF xd_GR_dropEdge_7 rfl ?_
  refine xv_iload_n (pc' := 9) (i := 1) hF xd_GR_dropEdge_8 rfl rfl rfl ?_
  first | refine xv_iaddN (pc' := 10) hF xd_GR_dropEdge_9 rfl ?_ | refine xv_iadd (pc' := 10) hF xd_GR_dropEdge_9 rfl ?_
  refine xv_dup2 (pc' := 11) hF xd_GR_dropEdge_10 rfl rfl rfl ?_
  first | refine xv_ialdN (pc' := 12) hF (by first | assumption | exact xu_self | (refine (xu_ne (by omega)).trans ?_; first | assumption | exact xu_self | (refine (xu_ne (by omega)).trans ?_; first | assumption | exact xu_self | (refine (xu_ne (by omega)).trans ?_; first | assumption | exact xu_self | (refine (xu_ne (by omega)).trans ?_; first | assumption | exact xu_self))))) (by omega) (by decide) xd_GR_dropEdge_11 rfl ?_ | refine xv_iald (pc' := 12) hF (by first | assumption | exact xu_self | (refine (xu_ne (by omega)).trans ?_; first | assumption | exact xu_self | (refine (xu_ne (by omega)).trans ?_; first | assumption | exact xu_self | (refine (xu_ne (by omega)).trans ?_; first | assumption | exact xu_self | (refine (xu_ne (by omega)).trans ?_; first | assumption | exact xu_self))))) (by omega) xd_GR_dropEdge_11 rfl ?_
  refine xv_iconstN (pc' := 13) 1 hF xd_GR_dropEdge_12 (by decide +kernel) rfl ?_
  refine xv_iload_n (pc' := 14) (i := 3) hF xd_GR_dropEdge_13 rfl rfl rfl ?_
  refine xv_ishl (pc' := 15) hF xd_GR_dropEdge_14 rfl ?_
  refine xv_iconst (pc' := 16) (v := -1) hF xd_GR_dropEdge_15 (by decide +kernel) rfl ?_
  refine xv_ixor (pc' := 17) hF xd_GR_dropEdge_16 rfl ?_
  first | refine xv_iandN (pc' := 18) hF xd_GR_dropEdge_17 rfl ?_ | refine xv_iand (pc' := 18) hF xd_GR_dropEdge_17 rfl ?_
  refine xv_iastN (pc' := 19) hF (by first | assumption | exact xu_self | (refine (xu_ne (by omega)).trans ?_; first | assumption | exact xu_self | (refine (xu_ne (by omega)).trans ?_; first | assumption | exact xu_self | (refine (xu_ne (by omega)).trans ?_; first | assumption | exact xu_self | (refine (xu_ne (by omega)).trans ?_; first | assumption | exact xu_self))))) (by omega) (by decide) xd_GR_dropEdge_18 rfl ?_
  refine xv_aload_n (pc' := 20) (i := 0) hF xd_GR_dropEdge_19 rfl rfl rfl ?_
  refine xv_dup (pc' := 21) hF xd_GR_dropEdge_20 rfl rfl ?_
  refine xv_get (pc' := 24) (ci := 1) hF (by first | assumption | exact xu_self | (refine (xu_ne (by omega)).trans ?_; first | assumption | exact xu_self | (refine (xu_ne (by omega)).trans ?_; first | assumption | exact xu_self | (refine (xu_ne (by omega)).trans ?_; first | assumption | exact xu_self | (refine (xu_ne (by omega)).trans ?_; first | assumption | exact xu_self))))) rfl xu_GR 2 (by decide) xk_GR_f18 (by rfl) xd_GR_dropEdge_21 rfl ?_
  refine xv_iconstN (pc' := 25) 1 hF xd_GR_dropEdge_24 (by decide +kernel) rfl ?_
  first | refine xv_isubN (pc' := 26) hF (by omega) xd_GR_dropEdge_25 rfl ?_ | refine xv_isub (pc' := 26) hF xd_GR_dropEdge_25 rfl ?_
  refine xv_put (pc' := 29) (ci := 1) (ty := xt_GR 2) hF (by first | assumption | exact xu_self | (refine (xu_ne (by omega)).trans ?_; first | assumption | exact xu_self | (refine (xu_ne (by omega)).trans ?_; first | assumption | exact xu_self | (refine (xu_ne (by omega)).trans ?_; first | assumption | exact xu_self | (refine (xu_ne (by omega)).trans ?_; first | assumption | exact xu_self))))) rfl xu_GR xt_GR xo_GR xn_GR 2 (by decide) xk_GR_f18 rfl (by decide +kernel) (by first | rfl | exact xb_nw _ | decide +kernel) (by first | rfl | exact xb_ft _ | decide +kernel) (by exact Nat.le_of_ble_eq_true rfl) (by dsimp only [List.set] <;> rfl) xd_GR_dropEdge_26 rfl ?_
  refine hR _ _ _ _ _ _ (by omega) (by omega) ?_ xd_GR_dropEdge_29
  refine ⟨rfl, fun q hq => ?_, ?_⟩
  · rw [xu_ne (by omega), xu_ne (by omega)]
  · exact ⟨_, _, ⟨xu_self, by rw [xu_ne (by omega)]; exact xu_self, by rw [xu_ne (by omega), xu_ne (by omega)]; exact hg⟩, gh_put h12 hl hi false fun z hz => bt_and0 _ hj hz⟩
theorem gh_tag {T g : Nat → Int32} {E : Nat → Nat → Nat → Bool} {Tg : Nat → Nat → Bool} (h : gh_is T g E Tg) {t i : Nat} (b : Bool) {x : Int32} (hx : ∀ z, z < 32 → bt x z = if z = i then b else bt (g t) z) : gh_is T (upd g t x) E (tg_set Tg t i b) := by
  refine ⟨h.1, fun a y ha hy => ?_⟩
  unfold tg_set
  by_cases c : a = t
  · subst c
    rw [pk_us, hx y hy, h.2 a y ha hy]
    by_cases c2 : y = i <;> simp [c2]
  · rw [pk_un c, if_neg (fun q => c q.1)]
    exact h.2 a y ha hy
set_option maxHeartbeats 4000000 in
set_option maxRecDepth 100000 in
theorem c_GR_setTag (K : xK) (n : Nat) (h : xH) (o i t e : Nat) (b : Bool) (E : Nat → Nat → Nat → Bool) (Tg : Nat → Nat → Bool) (hr : gh_R K h o E Tg e) (hi : i < 32) (ht : t < 4) : XM K xy_GR_setTag xw_GR_setTag (xrm 0 0 0 0) [.ref o, .int (nI i), .int (nI t), .int (xb b)] n h (x_pv fun n' h' => n = n' ∧ gh_fr h h' o ∧ gh_R K h' o E (tg_set Tg t i b) e) 0 0 := by
  obtain ⟨T, g, ⟨ha, hf, hg⟩, h12⟩ := hr
  refine xm_v (by decide +kernel) (Nat.le_of_ble_eq_true rfl) (fun G hF hR => ?_)
  refine xv_iload_n (pc' := 1) (i := 3) hF xd_GR_setTag_0 rfl rfl rfl ?_
  refine xv_if_eqB (pc' := 4) (tgt := 19) hF xd_GR_setTag_1 (by decide) rfl (fun e1 => ?_) (fun e1 => ?_)
  · subst e1
    refine xv_aload_n (pc' := 20) (i := 0) hF xd_GR_setTag_19 rfl rfl rfl ?_
    refine xv_get (pc' := 23) (ci := 1) hF (by first | assumption | exact xu_self | (refine (xu_ne (by omega)).trans ?_; first | assumption | exact xu_self | (refine (xu_ne (by omega)).trans ?_; first | assumption | exact xu_self | (refine (xu_ne (by omega)).trans ?_; first | assumption | exact xu_self | (refine (xu_ne (by omega)).trans ?_; first | assumption | exact xu_self))))) rfl xu_GR 1 (by decide) xk_GR_f15 (by rfl) xd_GR_setTag_20 rfl ?_
    refine xv_iload_n (pc' := 24) (i := 2) hF xd_GR_setTag_23 rfl rfl rfl ?_
    refine xv_dup2 (pc' := 25) hF xd_GR_setTag_24 rfl rfl rfl ?_
    first | refine xv_ialdN (pc' := 26) hF (by first | assumption | exact xu_self | (refine (xu_ne (by omega)).trans ?_; first | assumption | exact xu_self | (refine (xu_ne (by omega)).trans ?_; first | assumption | exact xu_self | (refine (xu_ne (by omega)).trans ?_; first | assumption | exact xu_self | (refine (xu_ne (by omega)).trans ?_; first | assumption | exact xu_self))))) (by omega) (by decide) xd_GR_setTag_25 rfl ?_ | refine xv_iald (pc' := 26) hF (by first | assumption | exact xu_self | (refine (xu_ne (by omega)).trans ?_; first | assumption | exact xu_self | (refine (xu_ne (by omega)).trans ?_; first | assumption | exact xu_self | (refine (xu_ne (by omega)).trans ?_; first | assumption | exact xu_self | (refine (xu_ne (by omega)).trans ?_; first | assumption | exact xu_self))))) (by omega) xd_GR_setTag_25 rfl ?_
    refine xv_iconstN (pc' := 27) 1 hF xd_GR_setTag_26 (by decide +kernel) rfl ?_
    refine xv_iload_n (pc' := 28) (i := 1) hF xd_GR_setTag_27 rfl rfl rfl ?_
    refine xv_ishl (pc' := 29) hF xd_GR_setTag_28 rfl ?_
    refine xv_iconst (pc' := 30) (v := -1) hF xd_GR_setTag_29 (by decide +kernel) rfl ?_
    refine xv_ixor (pc' := 31) hF xd_GR_setTag_30 rfl ?_
    first | refine xv_iandN (pc' := 32) hF xd_GR_setTag_31 rfl ?_ | refine xv_iand (pc' := 32) hF xd_GR_setTag_31 rfl ?_
    refine xv_iastN (pc' := 33) hF (by first | assumption | exact xu_self | (refine (xu_ne (by omega)).trans ?_; first | assumption | exact xu_self | (refine (xu_ne (by omega)).trans ?_; first | assumption | exact xu_self | (refine (xu_ne (by omega)).trans ?_; first | assumption | exact xu_self | (refine (xu_ne (by omega)).trans ?_; first | assumption | exact xu_self))))) (by omega) (by decide) xd_GR_setTag_32 rfl ?_
    refine hR _ _ _ _ _ _ (by omega) (by omega) ?_ xd_GR_setTag_33
    refine ⟨rfl, fun q hq => ?_, ?_⟩
    · rw [xu_ne (by omega)]
    · exact ⟨_, _, ⟨by rw [xu_ne (by omega)]; exact ha, by rw [xu_ne (by omega)]; exact hf, xu_self⟩, gh_tag h12 false fun z hz => bt_and0 _ hi hz⟩
  · subst e1
    refine xv_aload_n (pc' := 5) (i := 0) hF xd_GR_setTag_4 rfl rfl rfl ?_
    refine xv_get (pc' := 8) (ci := 1) hF (by first | assumption | exact xu_self | (refine (xu_ne (by omega)).trans ?_; first | assumption | exact xu_self | (refine (xu_ne (by omega)).trans ?_; first | assumption | exact xu_self | (refine (xu_ne (by omega)).trans ?_; first | assumption | exact xu_self | (refine (xu_ne (by omega)).trans ?_; first | assumption | exact xu_self))))) rfl xu_GR 1 (by decide) xk_GR_f15 (by rfl) xd_GR_setTag_5 rfl ?_
    refine xv_iload_n (pc' := 9) (i := 2) hF xd_GR_setTag_8 rfl rfl rfl ?_
    refine xv_dup2 (pc' := 10) hF xd_GR_setTag_9 rfl rfl rfl ?_
    first | refine xv_ialdN (pc' := 11) hF (by first | assumption | exact xu_self | (refine (xu_ne (by omega)).trans ?_; first | assumption | exact xu_self | (refine (xu_ne (by omega)).trans ?_; first | assumption | exact xu_self | (refine (xu_ne (by omega)).trans ?_; first | assumption | exact xu_self | (refine (xu_ne (by omega)).trans ?_; first | assumption | exact xu_self))))) (by omega) (by decide) xd_GR_setTag_10 rfl ?_ | refine xv_iald (pc' := 11) hF (by first | assumption | exact xu_self | (refine (xu_ne (by omega)).trans ?_; first | assumption | exact xu_self | (refine (xu_ne (by omega)).trans ?_; first | assumption | exact xu_self | (refine (xu_ne (by omega)).trans ?_; first | assumption | exact xu_self | (refine (xu_ne (by omega)).trans ?_; first | assumption | exact xu_self))))) (by omega) xd_GR_setTag_10 rfl ?_
    refine xv_iconstN (pc' := 12) 1 hF xd_GR_setTag_11 (by decide +kernel) rfl ?_
    refine xv_iload_n (pc' := 13) (i := 1) hF xd_GR_setTag_12 rfl rfl rfl ?_
    refine xv_ishl (pc' := 14) hF xd_GR_setTag_13 rfl ?_
    refine xv_ior (pc' := 15) hF xd_GR_setTag_14 rfl ?_
    refine xv_iastN (pc' := 16) hF (by first | assumption | exact xu_self | (refine (xu_ne (by omega)).trans ?_; first | assumption | exact xu_self | (refine (xu_ne (by omega)).trans ?_; first | assumption | exact xu_self | (refine (xu_ne (by omega)).trans ?_; first | assumption | exact xu_self | (refine (xu_ne (by omega)).trans ?_; first | assumption | exact xu_self))))) (by omega) (by decide) xd_GR_setTag_15 rfl ?_
    refine xv_goto (tgt := 33) hF xd_GR_setTag_16 (by decide) ?_
    refine hR _ _ _ _ _ _ (by omega) (by omega) ?_ xd_GR_setTag_33
    refine ⟨rfl, fun q hq => ?_, ?_⟩
    · rw [xu_ne (by omega)]
    · exact ⟨_, _, ⟨by rw [xu_ne (by omega)]; exact ha, by rw [xu_ne (by omega)]; exact hf, xu_self⟩, gh_tag h12 true fun z hz => bt_or1 _ hi hz⟩
set_option maxHeartbeats 4000000 in
set_option maxRecDepth 100000 in
theorem c_GR_nodesWith (K : xK) (n : Nat) (h : xH) (o t e : Nat) (E : Nat → Nat → Nat → Bool) (Tg : Nat → Nat → Bool) (hr : gh_R K h o E Tg e) (ht : t < 4) : XM K xy_GR_nodesWith xw_GR_nodesWith (xrm 0 0 0 0) [.ref o, .int (nI t)] n h (x_pi fun r n' h' => (∀ i, i < 32 → bt r i = Tg t i) ∧ n = n' ∧ h = h') 0 0 := by
  obtain ⟨T, g, ⟨ha, hf, hg⟩, h12⟩ := hr
  refine xm_i (by decide +kernel) (Nat.le_of_ble_eq_true rfl) (fun G hF hR => ?_)
  refine xv_aload_n (pc' := 1) (i := 0) hF xd_GR_nodesWith_0 rfl rfl rfl ?_
  refine xv_get (pc' := 4) (ci := 1) hF (by first | assumption | exact xu_self | (refine (xu_ne (by omega)).trans ?_; first | assumption | exact xu_self | (refine (xu_ne (by omega)).trans ?_; first | assumption | exact xu_self | (refine (xu_ne (by omega)).trans ?_; first | assumption | exact xu_self | (refine (xu_ne (by omega)).trans ?_; first | assumption | exact xu_self))))) rfl xu_GR 1 (by decide) xk_GR_f15 (by rfl) xd_GR_nodesWith_1 rfl ?_
  refine xv_iload_n (pc' := 5) (i := 1) hF xd_GR_nodesWith_4 rfl rfl rfl ?_
  first | refine xv_ialdN (pc' := 6) hF (by first | assumption | exact xu_self | (refine (xu_ne (by omega)).trans ?_; first | assumption | exact xu_self | (refine (xu_ne (by omega)).trans ?_; first | assumption | exact xu_self | (refine (xu_ne (by omega)).trans ?_; first | assumption | exact xu_self | (refine (xu_ne (by omega)).trans ?_; first | assumption | exact xu_self))))) (by omega) (by decide) xd_GR_nodesWith_5 rfl ?_ | refine xv_iald (pc' := 6) hF (by first | assumption | exact xu_self | (refine (xu_ne (by omega)).trans ?_; first | assumption | exact xu_self | (refine (xu_ne (by omega)).trans ?_; first | assumption | exact xu_self | (refine (xu_ne (by omega)).trans ?_; first | assumption | exact xu_self | (refine (xu_ne (by omega)).trans ?_; first | assumption | exact xu_self))))) (by omega) xd_GR_nodesWith_5 rfl ?_
  refine hR _ _ _ _ _ _ _ (by omega) (by omega) ?_ xd_GR_nodesWith_6
  exact ⟨fun i hi => h12.2 t i ht hi, rfl, rfl⟩
set_option maxHeartbeats 4000000 in
set_option maxRecDepth 100000 in
theorem c_GR_edgesOf (K : xK) (n : Nat) (h : xH) (o l e : Nat) (E : Nat → Nat → Nat → Bool) (Tg : Nat → Nat → Bool) (hr : gh_R K h o E Tg e) (hl : l < 8) : XM K xy_GR_edgesOf xw_GR_edgesOf (xrm 1 20 0 0) [.ref o, .int (nI l)] n h (x_pi fun r n' h' => r = nI (md_cn (E l) 1024) ∧ n = n' ∧ h = h') 0 0 := by
  obtain ⟨T, g, ⟨ha, hf, hg⟩, h12⟩ := hr
  refine xm_i (by decide +kernel) (Nat.le_of_ble_eq_true rfl) (fun G hF hR => ?_)
  refine xv_iconstN (pc' := 1) 0 hF xd_GR_edgesOf_0 (by decide +kernel) rfl ?_
  refine xv_istore_n (pc' := 2) (i := 2) hF xd_GR_edgesOf_1 rfl (Nat.le_of_ble_eq_true rfl) rfl rfl ?_
  refine xv_iconstN (pc' := 3) 0 hF xd_GR_edgesOf_2 (by decide +kernel) rfl ?_
  refine xv_istore_n (pc' := 4) (i := 3) hF xd_GR_edgesOf_3 rfl (Nat.le_of_ble_eq_true rfl) rfl rfl ?_
  have loop : ∀ d t, 32 - t = d → t ≤ 32 → XV G 0 0 4 [(3, .int (nI t)), (2, .int (nI (md_cn (E l) (t * 32)))), (0, .ref o), (1, .int (nI l))] [] n h := by
    intro d
    induction d using Nat.strongRecOn with
    | ind d ih =>
      intro t hd ht
      refine xv_iload_n (pc' := 5) (i := 3) hF xd_GR_edgesOf_4 rfl rfl rfl ?_
      refine xv_bipushN (pc' := 7) 32 hF xd_GR_edgesOf_5 (by decide +kernel) rfl ?_
      refine xv_icmp_geN (pc' := 10) (tgt := 33) hF (by omega) (by omega) xd_GR_edgesOf_7 (by decide) rfl (fun e1 => ?_) (fun e1 => ?_)
      · refine xv_iload_n (pc' := 34) (i := 2) hF xd_GR_edgesOf_33 rfl rfl rfl ?_
        refine hR _ _ _ _ _ _ _ (by omega) (by omega) ?_ xd_GR_edgesOf_34
        have : t = 32 := by omega
        subst this
        exact ⟨rfl, rfl, rfl⟩
      · refine xv_iload_n (pc' := 11) (i := 2) hF xd_GR_edgesOf_10 rfl rfl rfl ?_
        refine xv_aload_n (pc' := 12) (i := 0) hF xd_GR_edgesOf_11 rfl rfl rfl ?_
        refine xv_get (pc' := 15) (ci := 1) hF (by first | assumption | exact xu_self | (refine (xu_ne (by omega)).trans ?_; first | assumption | exact xu_self | (refine (xu_ne (by omega)).trans ?_; first | assumption | exact xu_self | (refine (xu_ne (by omega)).trans ?_; first | assumption | exact xu_self | (refine (xu_ne (by omega)).trans ?_; first | assumption | exact xu_self))))) rfl xu_GR 0 (by decide) xk_GR_f9 (by rfl) xd_GR_edgesOf_12 rfl ?_
        refine xv_iload_n (pc' := 16) (i := 1) hF xd_GR_edgesOf_15 rfl rfl rfl ?_
        refine xv_bipushN (pc' := 18) 32 hF xd_GR_edgesOf_16 (by decide +kernel) rfl ?_
        first | refine xv_imulN (pc' := 19) hF xd_GR_edgesOf_18 rfl ?_ | refine xv_imul (pc' := 19) hF xd_GR_edgesOf_18 rfl ?_
        refine xv_iload_n (pc' := 20) (i := 3) hF xd_GR_edgesOf_19 rfl rfl rfl ?_
        first | refine xv_iaddN (pc' := 21) hF xd_GR_edgesOf_20 rfl ?_ | refine xv_iadd (pc' := 21) hF xd_GR_edgesOf_20 rfl ?_
        first | refine xv_ialdN (pc' := 22) hF (by first | assumption | exact xu_self | (refine (xu_ne (by omega)).trans ?_; first | assumption | exact xu_self | (refine (xu_ne (by omega)).trans ?_; first | assumption | exact xu_self | (refine (xu_ne (by omega)).trans ?_; first | assumption | exact xu_self | (refine (xu_ne (by omega)).trans ?_; first | assumption | exact xu_self))))) (by omega) (by decide) xd_GR_edgesOf_21 rfl ?_ | refine xv_iald (pc' := 22) hF (by first | assumption | exact xu_self | (refine (xu_ne (by omega)).trans ?_; first | assumption | exact xu_self | (refine (xu_ne (by omega)).trans ?_; first | assumption | exact xu_self | (refine (xu_ne (by omega)).trans ?_; first | assumption | exact xu_self | (refine (xu_ne (by omega)).trans ?_; first | assumption | exact xu_self))))) (by omega) xd_GR_edgesOf_21 rfl ?_
        refine xv_callSi (pc' := 25) hF (c_JI_bitCount K n h (T (l * 32 + t))) xq_JI_bitCount xk_GR_m26 xk_t_JI_bitCount ⟨(Nat.le_of_ble_eq_true rfl), (Nat.le_of_ble_eq_true rfl)⟩ rfl rfl (Nat.le_of_ble_eq_true rfl) ⟨(Nat.le_of_ble_eq_true rfl), (Nat.le_of_ble_eq_true rfl)⟩ xd_GR_edgesOf_22 rfl (fun r n3 h3 p3 => ?_)
        obtain ⟨rfl, rfl, rfl⟩ := p3
        first | refine xv_iaddN (pc' := 26) hF xd_GR_edgesOf_25 rfl ?_ | refine xv_iadd (pc' := 26) hF xd_GR_edgesOf_25 rfl ?_
        refine xv_topi (v' := nI (md_cn (E l) ((t + 1) * 32))) ?_ ?_
        · rw [md_cn_row, bc_congr (fun i hi => h12.1 l t i hl e1 hi)]
        · refine xv_istore_n (pc' := 27) (i := 2) hF xd_GR_edgesOf_26 rfl (Nat.le_of_ble_eq_true rfl) rfl rfl ?_
          first | refine xv_iincN (pc' := 30) hF xd_GR_edgesOf_27 rfl rfl (Nat.le_of_ble_eq_true rfl) rfl rfl ?_ | refine xv_iinc (pc' := 30) hF xd_GR_edgesOf_27 rfl rfl (Nat.le_of_ble_eq_true rfl) rfl rfl ?_
          refine xv_goto (tgt := 4) hF xd_GR_edgesOf_30 (by decide) ?_
          exact xv_loc _ (by repeat (first | exact trivial | refine ⟨rfl, ?_⟩)) (ih _ (by omega) (t + 1) rfl (by omega))
  exact xv_loc _ (by repeat (first | exact trivial | refine ⟨rfl, ?_⟩)) (loop 32 0 (by omega) (by omega))
/-- by which labels -/
def gh_nx (E : Nat → Nat → Nat → Bool) (x : Int32) (i j : Nat) : Nat → Bool
  | 0 => false
  | l + 1 => gh_nx E x i j l || (bt x l && E l i j)
set_option maxHeartbeats 4000000 in
set_option maxRecDepth 100000 in
theorem c_GR_nextOf (K : xK) (n : Nat) (h : xH) (o i e : Nat) (x : Int32) (E : Nat → Nat → Nat → Bool) (Tg : Nat → Nat → Bool) (hr : gh_R K h o E Tg e) (hi : i < 32) : XM K xy_GR_nextOf xw_GR_nextOf (xrm 0 0 0 0) [.ref o, .int (nI i), .int x] n h (x_pi fun r n' h' => (∀ j, j < 32 → bt r j = gh_nx E x i j 8) ∧ n = n' ∧ h = h') 0 0 := by
  obtain ⟨T, g, ⟨ha, hf, hg⟩, h12⟩ := hr
  refine xm_i (by decide +kernel) (Nat.le_of_ble_eq_true rfl) (fun G hF hR => ?_)
  refine xv_iconstN (pc' := 1) 0 hF xd_GR_nextOf_0 (by decide +kernel) rfl ?_
  refine xv_istore_n (pc' := 2) (i := 3) hF xd_GR_nextOf_1 rfl (Nat.le_of_ble_eq_true rfl) rfl rfl ?_
  refine xv_iconstN (pc' := 3) 0 hF xd_GR_nextOf_2 (by decide +kernel) rfl ?_
  refine xv_istore (pc' := 5) hF xd_GR_nextOf_3 (Nat.le_of_ble_eq_true rfl) rfl rfl ?_
  have loop : ∀ d t r, 8 - t = d → t ≤ 8 → (∀ j, j < 32 → bt r j = gh_nx E x i j t) → XV G 0 0 5 [(4, .int (nI t)), (3, .int r), (0, .ref o), (1, .int (nI i)), (2, .int x)] [] n h := by
    intro d
    induction d using Nat.strongRecOn with
    | ind d ih =>
      intro t r hd ht hb
      refine xv_iload (pc' := 7) hF xd_GR_nextOf_5 rfl rfl ?_
      refine xv_bipushN (pc' := 9) 8 hF xd_GR_nextOf_7 (by decide +kernel) rfl ?_
      refine xv_icmp_geN (pc' := 12) (tgt := 42) hF (by omega) (by omega) xd_GR_nextOf_9 (by decide) rfl (fun e1 => ?_) (fun e1 => ?_)
      · refine xv_iload_n (pc' := 43) (i := 3) hF xd_GR_nextOf_42 rfl rfl rfl ?_
        refine hR _ _ _ _ _ _ _ (by omega) (by omega) ?_ xd_GR_nextOf_43
        have : t = 8 := by omega
        subst this
        exact ⟨hb, rfl, rfl⟩
      · refine xv_iload_n (pc' := 13) (i := 2) hF xd_GR_nextOf_12 rfl rfl rfl ?_
        refine xv_iload (pc' := 15) hF xd_GR_nextOf_13 rfl rfl ?_
        first | refine xv_iushrN (pc' := 16) hF (by omega) (by decide) xd_GR_nextOf_15 rfl ?_ | refine xv_iushr (pc' := 16) hF xd_GR_nextOf_15 rfl rfl ?_
        refine xv_iconstN (pc' := 17) 1 hF xd_GR_nextOf_16 (by decide +kernel) rfl ?_
        first | refine xv_iandN (pc' := 18) hF xd_GR_nextOf_17 rfl ?_ | refine xv_iand (pc' := 18) hF xd_GR_nextOf_17 rfl ?_
        refine xv_if_eq (pc' := 21) (tgt := 36) hF xd_GR_nextOf_18 (by decide) rfl (fun e2 => ?_) (fun e2 => ?_)
        · rw [bt_inN x (by omega)] at e2
          first | refine xv_iincN (pc' := 39) hF xd_GR_nextOf_36 rfl rfl (Nat.le_of_ble_eq_true rfl) rfl rfl ?_ | refine xv_iinc (pc' := 39) hF xd_GR_nextOf_36 rfl rfl (Nat.le_of_ble_eq_true rfl) rfl rfl ?_
          refine xv_goto (tgt := 5) hF xd_GR_nextOf_39 (by decide) ?_
          refine xv_loc _ (by repeat (first | exact trivial | refine ⟨rfl, ?_⟩)) (ih _ (by omega) (t + 1) _ rfl (by omega) ?_)
          intro j hj
          rw [hb j hj]
          show _ = (gh_nx E x i j t || (bt x t && E t i j))
          rw [e2]; simp
        · rw [bt_inN x (by omega), Bool.not_eq_false] at e2
          refine xv_iload_n (pc' := 22) (i := 3) hF xd_GR_nextOf_21 rfl rfl rfl ?_
          refine xv_aload_n (pc' := 23) (i := 0) hF xd_GR_nextOf_22 rfl rfl rfl ?_
          refine xv_get (pc' := 26) (ci := 1) hF (by first | assumption | exact xu_self | (refine (xu_ne (by omega)).trans ?_; first | assumption | exact xu_self | (refine (xu_ne (by omega)).trans ?_; first | assumption | exact xu_self | (refine (xu_ne (by omega)).trans ?_; first | assumption | exact xu_self | (refine (xu_ne (by omega)).trans ?_; first | assumption | exact xu_self))))) rfl xu_GR 0 (by decide) xk_GR_f9 (by rfl) xd_GR_nextOf_23 rfl ?_
          refine xv_iload (pc' := 28) hF xd_GR_nextOf_26 rfl rfl ?_
          refine xv_bipushN (pc' := 30) 32 hF xd_GR_nextOf_28 (by decide +kernel) rfl ?_
          first | refine xv_imulN (pc' := 31) hF xd_GR_nextOf_30 rfl ?_ | refine xv_imul (pc' := 31) hF xd_GR_nextOf_30 rfl ?_
          refine xv_iload_n (pc' := 32) (i := 1) hF xd_GR_nextOf_31 rfl rfl rfl ?_
          first | refine xv_iaddN (pc' := 33) hF xd_GR_nextOf_32 rfl ?_ | refine xv_iadd (pc' := 33) hF xd_GR_nextOf_32 rfl ?_
          first | refine xv_ialdN (pc' := 34) hF (by first | assumption | exact xu_self | (refine (xu_ne (by omega)).trans ?_; first | assumption | exact xu_self | (refine (xu_ne (by omega)).trans ?_; first | assumption | exact xu_self | (refine (xu_ne (by omega)).trans ?_; first | assumption | exact xu_self | (refine (xu_ne (by omega)).trans ?_; first | assumption | exact xu_self))))) (by omega) (by decide) xd_GR_nextOf_33 rfl ?_ | refine xv_iald (pc' := 34) hF (by first | assumption | exact xu_self | (refine (xu_ne (by omega)).trans ?_; first | assumption | exact xu_self | (refine (xu_ne (by omega)).trans ?_; first | assumption | exact xu_self | (refine (xu_ne (by omega)).trans ?_; first | assumption | exact xu_self | (refine (xu_ne (by omega)).trans ?_; first | assumption | exact xu_self))))) (by omega) xd_GR_nextOf_33 rfl ?_
          refine xv_ior (pc' := 35) hF xd_GR_nextOf_34 rfl ?_
          refine xv_istore_n (pc' := 36) (i := 3) hF xd_GR_nextOf_35 rfl (Nat.le_of_ble_eq_true rfl) rfl rfl ?_
          first | refine xv_iincN (pc' := 39) hF xd_GR_nextOf_36 rfl rfl (Nat.le_of_ble_eq_true rfl) rfl rfl ?_ | refine xv_iinc (pc' := 39) hF xd_GR_nextOf_36 rfl rfl (Nat.le_of_ble_eq_true rfl) rfl rfl ?_
          refine xv_goto (tgt := 5) hF xd_GR_nextOf_39 (by decide) ?_
          refine xv_loc _ (by repeat (first | exact trivial | refine ⟨rfl, ?_⟩)) (ih _ (by omega) (t + 1) _ rfl (by omega) ?_)
          intro j hj
          rw [b_or, hb j hj, h12.1 t i j e1 hi hj]
          show _ = (gh_nx E x i j t || (bt x t && E t i j))
          rw [e2]; simp
  refine xv_loc _ (by repeat (first | exact trivial | refine ⟨rfl, ?_⟩)) (loop 8 0 _ (by omega) (by omega) ?_)
  intro j hj
  rw [show nI 0 = 0 from nI_0, b_0]
  rfl
end
