section
-- ===== PART A: goes FIRST, ahead of the names: the tables' words, and 'selects' of the private methods out of them =====
/-- a private method of a class that the tables say can be made, by its rows of tables_1 -/
def lw_okq (q : MethodName × Nat) : Prop := (q.1.cls ≠ "java/lang/invoke/MethodHandle" ∧ q.1.cls ≠ "java/lang/invoke/VarHandle") ∧ Cond.instantiable q.1.cls q.2 ∈ tables_1 ∧ Cond.privateMethod q.1 ∈ tables_1 ∧ Cond.instanceMethod q.1 ∈ tables_1
theorem lw_p0 : lw_okq (⟨"RoleDoublingPlanner$PlayText", "readStatement", "(LRoleDoublingPlanner$Play;)I"⟩, 7) := ⟨⟨by decide +kernel, by decide +kernel⟩, List.mem_of_getElem? (i := 24) (by decide +kernel), List.mem_of_getElem? (i := 236) (by decide +kernel), List.mem_of_getElem? (i := 237) (by decide +kernel)⟩
theorem lw_p1 : lw_okq (⟨"RoleDoublingPlanner$PlayText", "readWord", "()V"⟩, 7) := ⟨⟨by decide +kernel, by decide +kernel⟩, List.mem_of_getElem? (i := 24) (by decide +kernel), List.mem_of_getElem? (i := 240) (by decide +kernel), List.mem_of_getElem? (i := 241) (by decide +kernel)⟩
theorem lw_p2 : lw_okq (⟨"RoleDoublingPlanner$PlayText", "wordIs", "(Ljava/lang/String;)Z"⟩, 7) := ⟨⟨by decide +kernel, by decide +kernel⟩, List.mem_of_getElem? (i := 24) (by decide +kernel), List.mem_of_getElem? (i := 245) (by decide +kernel), List.mem_of_getElem? (i := 246) (by decide +kernel)⟩
theorem lw_p3 : lw_okq (⟨"RoleDoublingPlanner$PlayText", "readScene", "(LRoleDoublingPlanner$Play;)I"⟩, 7) := ⟨⟨by decide +kernel, by decide +kernel⟩, List.mem_of_getElem? (i := 24) (by decide +kernel), List.mem_of_getElem? (i := 249) (by decide +kernel), List.mem_of_getElem? (i := 250) (by decide +kernel)⟩
theorem lw_p4 : lw_okq (⟨"RoleDoublingPlanner$PlayText", "readNumbersAndEnd", "(I)Z"⟩, 7) := ⟨⟨by decide +kernel, by decide +kernel⟩, List.mem_of_getElem? (i := 24) (by decide +kernel), List.mem_of_getElem? (i := 253) (by decide +kernel), List.mem_of_getElem? (i := 254) (by decide +kernel)⟩
theorem lw_p5 : lw_okq (⟨"RoleDoublingPlanner$PlayText", "readSign", "(C)Z"⟩, 7) := ⟨⟨by decide +kernel, by decide +kernel⟩, List.mem_of_getElem? (i := 24) (by decide +kernel), List.mem_of_getElem? (i := 257) (by decide +kernel), List.mem_of_getElem? (i := 258) (by decide +kernel)⟩
theorem lw_p6 : lw_okq (⟨"RoleDoublingPlanner$PlayText", "wordAsNumber", "()I"⟩, 7) := ⟨⟨by decide +kernel, by decide +kernel⟩, List.mem_of_getElem? (i := 24) (by decide +kernel), List.mem_of_getElem? (i := 261) (by decide +kernel), List.mem_of_getElem? (i := 262) (by decide +kernel)⟩
theorem lw_p7 : lw_okq (⟨"RoleDoublingPlanner$PlayText", "readRole", "(LRoleDoublingPlanner$Play;)I"⟩, 7) := ⟨⟨by decide +kernel, by decide +kernel⟩, List.mem_of_getElem? (i := 24) (by decide +kernel), List.mem_of_getElem? (i := 270) (by decide +kernel), List.mem_of_getElem? (i := 271) (by decide +kernel)⟩
theorem lw_p8 : lw_okq (⟨"RoleDoublingPlanner$PlayText", "wordAsVoice", "()I"⟩, 7) := ⟨⟨by decide +kernel, by decide +kernel⟩, List.mem_of_getElem? (i := 24) (by decide +kernel), List.mem_of_getElem? (i := 274) (by decide +kernel), List.mem_of_getElem? (i := 275) (by decide +kernel)⟩
theorem lw_p9 : lw_okq (⟨"RoleDoublingPlanner$PlayText", "readEnter", "(LRoleDoublingPlanner$Play;)I"⟩, 7) := ⟨⟨by decide +kernel, by decide +kernel⟩, List.mem_of_getElem? (i := 24) (by decide +kernel), List.mem_of_getElem? (i := 289) (by decide +kernel), List.mem_of_getElem? (i := 290) (by decide +kernel)⟩
theorem lw_p10 : lw_okq (⟨"RoleDoublingPlanner", "startStatedPlay", "()V"⟩, 6) := ⟨⟨by decide +kernel, by decide +kernel⟩, List.mem_of_getElem? (i := 16) (by decide +kernel), List.mem_of_getElem? (i := 317) (by decide +kernel), List.mem_of_getElem? (i := 318) (by decide +kernel)⟩
theorem lw_p11 : lw_okq (⟨"RoleDoublingPlanner$Slacks", "compare", "(II)V"⟩, 2) := ⟨⟨by decide +kernel, by decide +kernel⟩, List.mem_of_getElem? (i := 117) (by decide +kernel), List.mem_of_getElem? (i := 332) (by decide +kernel), List.mem_of_getElem? (i := 333) (by decide +kernel)⟩
theorem lw_p12 : lw_okq (⟨"RoleDoublingPlanner$Slacks", "slackFrom", "(II)I"⟩, 2) := ⟨⟨by decide +kernel, by decide +kernel⟩, List.mem_of_getElem? (i := 117) (by decide +kernel), List.mem_of_getElem? (i := 336) (by decide +kernel), List.mem_of_getElem? (i := 337) (by decide +kernel)⟩
theorem lw_p13 : lw_okq (⟨"RoleDoublingPlanner$History", "forgetOldest", "()V"⟩, 2) := ⟨⟨by decide +kernel, by decide +kernel⟩, List.mem_of_getElem? (i := 150) (by decide +kernel), List.mem_of_getElem? (i := 396) (by decide +kernel), List.mem_of_getElem? (i := 397) (by decide +kernel)⟩
theorem lw_p14 : lw_okq (⟨"RoleDoublingPlanner", "freeRivals", "()I"⟩, 6) := ⟨⟨by decide +kernel, by decide +kernel⟩, List.mem_of_getElem? (i := 16) (by decide +kernel), List.mem_of_getElem? (i := 402) (by decide +kernel), List.mem_of_getElem? (i := 403) (by decide +kernel)⟩
theorem lw_p15 : lw_okq (⟨"RoleDoublingPlanner", "hasRivalOf", "(III)Z"⟩, 6) := ⟨⟨by decide +kernel, by decide +kernel⟩, List.mem_of_getElem? (i := 16) (by decide +kernel), List.mem_of_getElem? (i := 406) (by decide +kernel), List.mem_of_getElem? (i := 407) (by decide +kernel)⟩
def lw_privs_1 : List (MethodName × Nat) := [(⟨"RoleDoublingPlanner$PlayText", "readStatement", "(LRoleDoublingPlanner$Play;)I"⟩, 7), (⟨"RoleDoublingPlanner$PlayText", "readWord", "()V"⟩, 7), (⟨"RoleDoublingPlanner$PlayText", "wordIs", "(Ljava/lang/String;)Z"⟩, 7), (⟨"RoleDoublingPlanner$PlayText", "readScene", "(LRoleDoublingPlanner$Play;)I"⟩, 7), (⟨"RoleDoublingPlanner$PlayText", "readNumbersAndEnd", "(I)Z"⟩, 7), (⟨"RoleDoublingPlanner$PlayText", "readSign", "(C)Z"⟩, 7), (⟨"RoleDoublingPlanner$PlayText", "wordAsNumber", "()I"⟩, 7), (⟨"RoleDoublingPlanner$PlayText", "readRole", "(LRoleDoublingPlanner$Play;)I"⟩, 7), (⟨"RoleDoublingPlanner$PlayText", "wordAsVoice", "()I"⟩, 7), (⟨"RoleDoublingPlanner$PlayText", "readEnter", "(LRoleDoublingPlanner$Play;)I"⟩, 7), (⟨"RoleDoublingPlanner", "startStatedPlay", "()V"⟩, 6), (⟨"RoleDoublingPlanner$Slacks", "compare", "(II)V"⟩, 2), (⟨"RoleDoublingPlanner$Slacks", "slackFrom", "(II)I"⟩, 2), (⟨"RoleDoublingPlanner$History", "forgetOldest", "()V"⟩, 2), (⟨"RoleDoublingPlanner", "freeRivals", "()I"⟩, 6), (⟨"RoleDoublingPlanner", "hasRivalOf", "(III)Z"⟩, 6)]
theorem lw_r1 : ∀ q ∈ lw_privs_1, lw_okq q := List.forall_mem_cons.mpr ⟨lw_p0, List.forall_mem_cons.mpr ⟨lw_p1, List.forall_mem_cons.mpr ⟨lw_p2, List.forall_mem_cons.mpr ⟨lw_p3, List.forall_mem_cons.mpr ⟨lw_p4, List.forall_mem_cons.mpr ⟨lw_p5, List.forall_mem_cons.mpr ⟨lw_p6, List.forall_mem_cons.mpr ⟨lw_p7, List.forall_mem_cons.mpr ⟨lw_p8, List.forall_mem_cons.mpr ⟨lw_p9, List.forall_mem_cons.mpr ⟨lw_p10, List.forall_mem_cons.mpr ⟨lw_p11, List.forall_mem_cons.mpr ⟨lw_p12, List.forall_mem_cons.mpr ⟨lw_p13, List.forall_mem_cons.mpr ⟨lw_p14, List.forall_mem_cons.mpr ⟨lw_p15, fun _ h => absurd h List.not_mem_nil⟩⟩⟩⟩⟩⟩⟩⟩⟩⟩⟩⟩⟩⟩⟩⟩
theorem lw_p16 : lw_okq (⟨"RoleDoublingPlanner$Casting", "dismissAll", "()V"⟩, 3) := ⟨⟨by decide +kernel, by decide +kernel⟩, List.mem_of_getElem? (i := 134) (by decide +kernel), List.mem_of_getElem? (i := 466) (by decide +kernel), List.mem_of_getElem? (i := 467) (by decide +kernel)⟩
theorem lw_p17 : lw_okq (⟨"RoleDoublingPlanner$Casting", "isFree", "(II)Z"⟩, 3) := ⟨⟨by decide +kernel, by decide +kernel⟩, List.mem_of_getElem? (i := 134) (by decide +kernel), List.mem_of_getElem? (i := 474) (by decide +kernel), List.mem_of_getElem? (i := 475) (by decide +kernel)⟩
theorem lw_p18 : lw_okq (⟨"RoleDoublingPlanner", "areTwoRoles", "(II)Z"⟩, 6) := ⟨⟨by decide +kernel, by decide +kernel⟩, List.mem_of_getElem? (i := 16) (by decide +kernel), List.mem_of_getElem? (i := 528) (by decide +kernel), List.mem_of_getElem? (i := 529) (by decide +kernel)⟩
theorem lw_p19 : lw_okq (⟨"RoleDoublingPlanner$Casting", "isClique", "(I)Z"⟩, 3) := ⟨⟨by decide +kernel, by decide +kernel⟩, List.mem_of_getElem? (i := 134) (by decide +kernel), List.mem_of_getElem? (i := 561) (by decide +kernel), List.mem_of_getElem? (i := 562) (by decide +kernel)⟩
theorem lw_p20 : lw_okq (⟨"RoleDoublingPlanner", "sizeIsEnough", "(II)Z"⟩, 6) := ⟨⟨by decide +kernel, by decide +kernel⟩, List.mem_of_getElem? (i := 16) (by decide +kernel), List.mem_of_getElem? (i := 590) (by decide +kernel), List.mem_of_getElem? (i := 591) (by decide +kernel)⟩
theorem lw_p21 : lw_okq (⟨"RoleDoublingPlannerModel", "readAll", "()I"⟩, 10) := ⟨⟨by decide +kernel, by decide +kernel⟩, List.mem_of_getElem? (i := 595) (by decide +kernel), List.mem_of_getElem? (i := 658) (by decide +kernel), List.mem_of_getElem? (i := 659) (by decide +kernel)⟩
theorem lw_p22 : lw_okq (⟨"RoleDoublingPlannerModel", "statement", "()V"⟩, 10) := ⟨⟨by decide +kernel, by decide +kernel⟩, List.mem_of_getElem? (i := 595) (by decide +kernel), List.mem_of_getElem? (i := 662) (by decide +kernel), List.mem_of_getElem? (i := 663) (by decide +kernel)⟩
theorem lw_p23 : lw_okq (⟨"RoleDoublingPlannerModel", "word", "()I"⟩, 10) := ⟨⟨by decide +kernel, by decide +kernel⟩, List.mem_of_getElem? (i := 595) (by decide +kernel), List.mem_of_getElem? (i := 666) (by decide +kernel), List.mem_of_getElem? (i := 667) (by decide +kernel)⟩
theorem lw_p24 : lw_okq (⟨"RoleDoublingPlannerModel", "number", "()I"⟩, 10) := ⟨⟨by decide +kernel, by decide +kernel⟩, List.mem_of_getElem? (i := 595) (by decide +kernel), List.mem_of_getElem? (i := 675) (by decide +kernel), List.mem_of_getElem? (i := 676) (by decide +kernel)⟩
theorem lw_p25 : lw_okq (⟨"RoleDoublingPlannerModel", "wants", "(I)V"⟩, 10) := ⟨⟨by decide +kernel, by decide +kernel⟩, List.mem_of_getElem? (i := 595) (by decide +kernel), List.mem_of_getElem? (i := 679) (by decide +kernel), List.mem_of_getElem? (i := 680) (by decide +kernel)⟩
theorem lw_p26 : lw_okq (⟨"RoleDoublingPlannerModel", "here", "()I"⟩, 10) := ⟨⟨by decide +kernel, by decide +kernel⟩, List.mem_of_getElem? (i := 595) (by decide +kernel), List.mem_of_getElem? (i := 683) (by decide +kernel), List.mem_of_getElem? (i := 684) (by decide +kernel)⟩
theorem lw_p27 : lw_okq (⟨"RoleDoublingPlannerModel", "checked", "(ZZ)V"⟩, 10) := ⟨⟨by decide +kernel, by decide +kernel⟩, List.mem_of_getElem? (i := 595) (by decide +kernel), List.mem_of_getElem? (i := 691) (by decide +kernel), List.mem_of_getElem? (i := 692) (by decide +kernel)⟩
theorem lw_p28 : lw_okq (⟨"RoleDoublingPlannerModel", "voice", "()I"⟩, 10) := ⟨⟨by decide +kernel, by decide +kernel⟩, List.mem_of_getElem? (i := 595) (by decide +kernel), List.mem_of_getElem? (i := 695) (by decide +kernel), List.mem_of_getElem? (i := 696) (by decide +kernel)⟩
theorem lw_p29 : lw_okq (⟨"RoleDoublingPlannerModel", "isRole", "(I)Z"⟩, 10) := ⟨⟨by decide +kernel, by decide +kernel⟩, List.mem_of_getElem? (i := 595) (by decide +kernel), List.mem_of_getElem? (i := 715) (by decide +kernel), List.mem_of_getElem? (i := 716) (by decide +kernel)⟩
theorem lw_p30 : lw_okq (⟨"RoleDoublingPlannerModel", "isScene", "(I)Z"⟩, 10) := ⟨⟨by decide +kernel, by decide +kernel⟩, List.mem_of_getElem? (i := 595) (by decide +kernel), List.mem_of_getElem? (i := 719) (by decide +kernel), List.mem_of_getElem? (i := 720) (by decide +kernel)⟩
theorem lw_p31 : lw_okq (⟨"RoleDoublingPlannerModel", "keeps", "()V"⟩, 10) := ⟨⟨by decide +kernel, by decide +kernel⟩, List.mem_of_getElem? (i := 595) (by decide +kernel), List.mem_of_getElem? (i := 723) (by decide +kernel), List.mem_of_getElem? (i := 724) (by decide +kernel)⟩
def lw_privs_2 : List (MethodName × Nat) := [(⟨"RoleDoublingPlanner$Casting", "dismissAll", "()V"⟩, 3), (⟨"RoleDoublingPlanner$Casting", "isFree", "(II)Z"⟩, 3), (⟨"RoleDoublingPlanner", "areTwoRoles", "(II)Z"⟩, 6), (⟨"RoleDoublingPlanner$Casting", "isClique", "(I)Z"⟩, 3), (⟨"RoleDoublingPlanner", "sizeIsEnough", "(II)Z"⟩, 6), (⟨"RoleDoublingPlannerModel", "readAll", "()I"⟩, 10), (⟨"RoleDoublingPlannerModel", "statement", "()V"⟩, 10), (⟨"RoleDoublingPlannerModel", "word", "()I"⟩, 10), (⟨"RoleDoublingPlannerModel", "number", "()I"⟩, 10), (⟨"RoleDoublingPlannerModel", "wants", "(I)V"⟩, 10), (⟨"RoleDoublingPlannerModel", "here", "()I"⟩, 10), (⟨"RoleDoublingPlannerModel", "checked", "(ZZ)V"⟩, 10), (⟨"RoleDoublingPlannerModel", "voice", "()I"⟩, 10), (⟨"RoleDoublingPlannerModel", "isRole", "(I)Z"⟩, 10), (⟨"RoleDoublingPlannerModel", "isScene", "(I)Z"⟩, 10), (⟨"RoleDoublingPlannerModel", "keeps", "()V"⟩, 10)]
theorem lw_r2 : ∀ q ∈ lw_privs_2, lw_okq q := List.forall_mem_cons.mpr ⟨lw_p16, List.forall_mem_cons.mpr ⟨lw_p17, List.forall_mem_cons.mpr ⟨lw_p18, List.forall_mem_cons.mpr ⟨lw_p19, List.forall_mem_cons.mpr ⟨lw_p20, List.forall_mem_cons.mpr ⟨lw_p21, List.forall_mem_cons.mpr ⟨lw_p22, List.forall_mem_cons.mpr ⟨lw_p23, List.forall_mem_cons.mpr ⟨lw_p24, List.forall_mem_cons.mpr ⟨lw_p25, List.forall_mem_cons.mpr ⟨lw_p26, List.forall_mem_cons.mpr ⟨lw_p27, List.forall_mem_cons.mpr ⟨lw_p28, List.forall_mem_cons.mpr ⟨lw_p29, List.forall_mem_cons.mpr ⟨lw_p30, List.forall_mem_cons.mpr ⟨lw_p31, fun _ h => absurd h List.not_mem_nil⟩⟩⟩⟩⟩⟩⟩⟩⟩⟩⟩⟩⟩⟩⟩⟩
theorem lw_p32 : lw_okq (⟨"RoleDoublingPlannerModel", "repairs", "()I"⟩, 10) := ⟨⟨by decide +kernel, by decide +kernel⟩, List.mem_of_getElem? (i := 595) (by decide +kernel), List.mem_of_getElem? (i := 727) (by decide +kernel), List.mem_of_getElem? (i := 728) (by decide +kernel)⟩
theorem lw_p33 : lw_okq (⟨"RoleDoublingPlannerModel", "layConflicts", "(I)V"⟩, 10) := ⟨⟨by decide +kernel, by decide +kernel⟩, List.mem_of_getElem? (i := 595) (by decide +kernel), List.mem_of_getElem? (i := 731) (by decide +kernel), List.mem_of_getElem? (i := 732) (by decide +kernel)⟩
theorem lw_p34 : lw_okq (⟨"RoleDoublingPlannerModel", "reasonOf", "(III)I"⟩, 10) := ⟨⟨by decide +kernel, by decide +kernel⟩, List.mem_of_getElem? (i := 595) (by decide +kernel), List.mem_of_getElem? (i := 735) (by decide +kernel), List.mem_of_getElem? (i := 736) (by decide +kernel)⟩
theorem lw_p35 : lw_okq (⟨"RoleDoublingPlannerModel", "overlap", "(II)Z"⟩, 10) := ⟨⟨by decide +kernel, by decide +kernel⟩, List.mem_of_getElem? (i := 595) (by decide +kernel), List.mem_of_getElem? (i := 739) (by decide +kernel), List.mem_of_getElem? (i := 740) (by decide +kernel)⟩
theorem lw_p36 : lw_okq (⟨"RoleDoublingPlannerModel", "roleOf", "(I)I"⟩, 10) := ⟨⟨by decide +kernel, by decide +kernel⟩, List.mem_of_getElem? (i := 595) (by decide +kernel), List.mem_of_getElem? (i := 743) (by decide +kernel), List.mem_of_getElem? (i := 744) (by decide +kernel)⟩
theorem lw_p37 : lw_okq (⟨"RoleDoublingPlannerModel", "enters", "(I)I"⟩, 10) := ⟨⟨by decide +kernel, by decide +kernel⟩, List.mem_of_getElem? (i := 595) (by decide +kernel), List.mem_of_getElem? (i := 747) (by decide +kernel), List.mem_of_getElem? (i := 748) (by decide +kernel)⟩
theorem lw_p38 : lw_okq (⟨"RoleDoublingPlannerModel", "sceneStart", "(I)I"⟩, 10) := ⟨⟨by decide +kernel, by decide +kernel⟩, List.mem_of_getElem? (i := 595) (by decide +kernel), List.mem_of_getElem? (i := 751) (by decide +kernel), List.mem_of_getElem? (i := 752) (by decide +kernel)⟩
theorem lw_p39 : lw_okq (⟨"RoleDoublingPlannerModel", "exits", "(I)I"⟩, 10) := ⟨⟨by decide +kernel, by decide +kernel⟩, List.mem_of_getElem? (i := 595) (by decide +kernel), List.mem_of_getElem? (i := 755) (by decide +kernel), List.mem_of_getElem? (i := 756) (by decide +kernel)⟩
theorem lw_p40 : lw_okq (⟨"RoleDoublingPlannerModel", "roomOf", "(III)I"⟩, 10) := ⟨⟨by decide +kernel, by decide +kernel⟩, List.mem_of_getElem? (i := 595) (by decide +kernel), List.mem_of_getElem? (i := 759) (by decide +kernel), List.mem_of_getElem? (i := 760) (by decide +kernel)⟩
theorem lw_p41 : lw_okq (⟨"RoleDoublingPlannerModel", "changeTime", "(III)I"⟩, 10) := ⟨⟨by decide +kernel, by decide +kernel⟩, List.mem_of_getElem? (i := 595) (by decide +kernel), List.mem_of_getElem? (i := 764) (by decide +kernel), List.mem_of_getElem? (i := 765) (by decide +kernel)⟩
theorem lw_p42 : lw_okq (⟨"RoleDoublingPlannerModel", "castBy", "(I)I"⟩, 10) := ⟨⟨by decide +kernel, by decide +kernel⟩, List.mem_of_getElem? (i := 595) (by decide +kernel), List.mem_of_getElem? (i := 785) (by decide +kernel), List.mem_of_getElem? (i := 786) (by decide +kernel)⟩
theorem lw_p43 : lw_okq (⟨"RoleDoublingPlannerModel", "leastFor", "(I)I"⟩, 10) := ⟨⟨by decide +kernel, by decide +kernel⟩, List.mem_of_getElem? (i := 595) (by decide +kernel), List.mem_of_getElem? (i := 800) (by decide +kernel), List.mem_of_getElem? (i := 801) (by decide +kernel)⟩
theorem lw_p44 : lw_okq (⟨"RoleDoublingPlannerModel", "isGiven", "(I)Z"⟩, 10) := ⟨⟨by decide +kernel, by decide +kernel⟩, List.mem_of_getElem? (i := 595) (by decide +kernel), List.mem_of_getElem? (i := 804) (by decide +kernel), List.mem_of_getElem? (i := 805) (by decide +kernel)⟩
theorem lw_p45 : lw_okq (⟨"RoleDoublingPlannerModel", "mayHave", "(II)Z"⟩, 10) := ⟨⟨by decide +kernel, by decide +kernel⟩, List.mem_of_getElem? (i := 595) (by decide +kernel), List.mem_of_getElem? (i := 808) (by decide +kernel), List.mem_of_getElem? (i := 809) (by decide +kernel)⟩
theorem lw_p46 : lw_okq (⟨"RoleDoublingPlannerModel", "rolesAt", "(I)I"⟩, 10) := ⟨⟨by decide +kernel, by decide +kernel⟩, List.mem_of_getElem? (i := 595) (by decide +kernel), List.mem_of_getElem? (i := 829) (by decide +kernel), List.mem_of_getElem? (i := 830) (by decide +kernel)⟩
theorem lw_p47 : lw_okq (⟨"RoleDoublingPlannerModel", "areTwo", "(II)Z"⟩, 10) := ⟨⟨by decide +kernel, by decide +kernel⟩, List.mem_of_getElem? (i := 595) (by decide +kernel), List.mem_of_getElem? (i := 845) (by decide +kernel), List.mem_of_getElem? (i := 846) (by decide +kernel)⟩
def lw_privs_3 : List (MethodName × Nat) := [(⟨"RoleDoublingPlannerModel", "repairs", "()I"⟩, 10), (⟨"RoleDoublingPlannerModel", "layConflicts", "(I)V"⟩, 10), (⟨"RoleDoublingPlannerModel", "reasonOf", "(III)I"⟩, 10), (⟨"RoleDoublingPlannerModel", "overlap", "(II)Z"⟩, 10), (⟨"RoleDoublingPlannerModel", "roleOf", "(I)I"⟩, 10), (⟨"RoleDoublingPlannerModel", "enters", "(I)I"⟩, 10), (⟨"RoleDoublingPlannerModel", "sceneStart", "(I)I"⟩, 10), (⟨"RoleDoublingPlannerModel", "exits", "(I)I"⟩, 10), (⟨"RoleDoublingPlannerModel", "roomOf", "(III)I"⟩, 10), (⟨"RoleDoublingPlannerModel", "changeTime", "(III)I"⟩, 10), (⟨"RoleDoublingPlannerModel", "castBy", "(I)I"⟩, 10), (⟨"RoleDoublingPlannerModel", "leastFor", "(I)I"⟩, 10), (⟨"RoleDoublingPlannerModel", "isGiven", "(I)Z"⟩, 10), (⟨"RoleDoublingPlannerModel", "mayHave", "(II)Z"⟩, 10), (⟨"RoleDoublingPlannerModel", "rolesAt", "(I)I"⟩, 10), (⟨"RoleDoublingPlannerModel", "areTwo", "(II)Z"⟩, 10)]
theorem lw_r3 : ∀ q ∈ lw_privs_3, lw_okq q := List.forall_mem_cons.mpr ⟨lw_p32, List.forall_mem_cons.mpr ⟨lw_p33, List.forall_mem_cons.mpr ⟨lw_p34, List.forall_mem_cons.mpr ⟨lw_p35, List.forall_mem_cons.mpr ⟨lw_p36, List.forall_mem_cons.mpr ⟨lw_p37, List.forall_mem_cons.mpr ⟨lw_p38, List.forall_mem_cons.mpr ⟨lw_p39, List.forall_mem_cons.mpr ⟨lw_p40, List.forall_mem_cons.mpr ⟨lw_p41, List.forall_mem_cons.mpr ⟨lw_p42, List.forall_mem_cons.mpr ⟨lw_p43, List.forall_mem_cons.mpr ⟨lw_p44, List.forall_mem_cons.mpr ⟨lw_p45, List.forall_mem_cons.mpr ⟨lw_p46, List.forall_mem_cons.mpr ⟨lw_p47, fun _ h => absurd h List.not_mem_nil⟩⟩⟩⟩⟩⟩⟩⟩⟩⟩⟩⟩⟩⟩⟩⟩
theorem lw_p48 : lw_okq (⟨"RoleDoublingPlannerModel", "slackOf", "(II)I"⟩, 10) := ⟨⟨by decide +kernel, by decide +kernel⟩, List.mem_of_getElem? (i := 595) (by decide +kernel), List.mem_of_getElem? (i := 857) (by decide +kernel), List.mem_of_getElem? (i := 858) (by decide +kernel)⟩
def lw_privs_4 : List (MethodName × Nat) := [(⟨"RoleDoublingPlannerModel", "slackOf", "(II)I"⟩, 10)]
theorem lw_r4 : ∀ q ∈ lw_privs_4, lw_okq q := List.forall_mem_cons.mpr ⟨lw_p48, fun _ h => absurd h List.not_mem_nil⟩
def lw_privs : List (MethodName × Nat) := lw_privs_1 ++ (lw_privs_2 ++ (lw_privs_3 ++ (lw_privs_4)))
def lw_tbl : List Cond := k2_sels lw_privs ++ tables_1
theorem lw_privs_ok : ∀ q ∈ lw_privs, lw_okq q := by
  show ∀ q ∈ lw_privs_1 ++ (lw_privs_2 ++ (lw_privs_3 ++ (lw_privs_4))), lw_okq q
  exact List.forall_mem_append.mpr ⟨lw_r1, List.forall_mem_append.mpr ⟨lw_r2, List.forall_mem_append.mpr ⟨lw_r3, lw_r4⟩⟩⟩
end
section
/-! ===== BEGIN words of one list among another's, by their places ===== -/
theorem goodIn_r {big : List Cond} (ws : List Cond) (ps : List Nat) (hp : ws = ps.filterMap (fun i => big[i]?)) (h : ws.all goodWord = true) : GoodIn big ws := by
  intro w hw
  have h1 := List.all_eq_true.mp h w hw
  rw [hp] at hw
  obtain ⟨i, -, hi⟩ := List.mem_filterMap.mp hw
  have hm : w ∈ big := by first | exact List.mem_of_getElem? hi | exact List.getElem?_mem hi
  exact ⟨hm, good_of_word h1⟩
theorem goodIn_app {big a b : List Cond} (ha : GoodIn big a) (hb : GoodIn big b) : GoodIn big (a ++ b) := fun w h => (List.mem_append.mp h).elim (ha w) (hb w)
theorem goodIn_ca {big a b : List Cond} {c : Cond} (ha : GoodIn big (c :: a)) (hb : GoodIn big b) : GoodIn big (c :: (a ++ b)) := fun w h => (List.mem_cons.mp h).elim (fun e => ha w (List.mem_cons.mpr (Or.inl e))) (fun h => (List.mem_append.mp h).elim (fun h => ha w (List.mem_cons.mpr (Or.inr h))) (hb w))
theorem goodIn_sub {big ws : List Cond} (hm : ∀ w ∈ ws, w ∈ big) (h : ws.all goodWord = true) : GoodIn big ws := fun w hw => ⟨hm w hw, good_of_word (List.all_eq_true.mp h w hw)⟩
/-! ===== END ===== -/

/-! ===== BEGIN printed: names, fields, word lists, decode rows ===== -/
def RX0 : String := "RoleDoublingPlanner$Casting"
def TX0 : u_T := fun k => match k with
  | 0 => ("RoleDoublingPlanner$Casting", "roles", "I", false)
  | 1 => ("RoleDoublingPlanner$Casting", "rivals", "[I", true)
  | _ => ("RoleDoublingPlanner$Casting", "rolesOfActor", "[I", true)
def tyX0 : Nat → FieldType := fun k => match k with
  | 0 => .int
  | 1 => .array .int
  | _ => .array .int
abbrev wsX00 : List Cond := u_ws RX0 TX0 3
theorem nmX0 : ∀ a, a < 3 → ∀ b, b < 3 → a ≠ b → (TX0 a).2.1 ≠ (TX0 b).2.1 := by decide +kernel
theorem tyX0_ok : ∀ k, k < 3 → parseFieldDescriptor (TX0 k).2.2.1 = some (tyX0 k) := by decide +kernel
abbrev cX0_init : ByteArray := prog_2_method_1_code
def yX0_init : MethodName := ⟨RX0, "<init>", "()V"⟩
abbrev cX0_lookAt : ByteArray := prog_2_method_2_code
def yX0_lookAt : MethodName := ⟨RX0, "lookAt", "(LRoleDoublingPlanner$Slacks;I)V"⟩
abbrev cX0_findFirstCast : ByteArray := prog_2_method_3_code
def yX0_findFirstCast : MethodName := ⟨RX0, "findFirstCast", "()I"⟩
abbrev cX0_findCast : ByteArray := prog_2_method_4_code
def yX0_findCast : MethodName := ⟨RX0, "findCast", "(I)Z"⟩
abbrev cX0_foundActor : ByteArray := prog_2_method_5_code
def yX0_foundActor : MethodName := ⟨RX0, "foundActor", "(I)I"⟩
abbrev cX0_greedySize : ByteArray := prog_2_method_6_code
def yX0_greedySize : MethodName := ⟨RX0, "greedySize", "()I"⟩
abbrev cX0_largestClique : ByteArray := prog_2_method_7_code
def yX0_largestClique : MethodName := ⟨RX0, "largestClique", "()I"⟩
abbrev cX0_isClique : ByteArray := prog_2_method_8_code
def yX0_isClique : MethodName := ⟨RX0, "isClique", "(I)Z"⟩
abbrev cX0_isFree : ByteArray := prog_2_method_9_code
def yX0_isFree : MethodName := ⟨RX0, "isFree", "(II)Z"⟩
abbrev cX0_dismissAll : ByteArray := prog_2_method_10_code
def yX0_dismissAll : MethodName := ⟨RX0, "dismissAll", "()V"⟩
abbrev cX0_castFrom : ByteArray := prog_2_method_11_code
def yX0_castFrom : MethodName := ⟨RX0, "castFrom", "(LRoleDoublingPlanner$Casting;III)Z"⟩
def RX1 : String := "RoleDoublingPlanner$History"
def TX1 : u_T := fun k => match k with
  | 0 => ("RoleDoublingPlanner$History", "kept", "I", false)
  | _ => ("RoleDoublingPlanner$History", "past", "[LRoleDoublingPlanner$Play;", true)
def tyX1 : Nat → FieldType := fun k => match k with
  | 0 => .int
  | _ => .array (.object "RoleDoublingPlanner$Play")
abbrev wsX10 : List Cond := u_ws RX1 TX1 2
theorem nmX1 : ∀ a, a < 2 → ∀ b, b < 2 → a ≠ b → (TX1 a).2.1 ≠ (TX1 b).2.1 := by decide +kernel
theorem tyX1_ok : ∀ k, k < 2 → parseFieldDescriptor (TX1 k).2.2.1 = some (tyX1 k) := by decide +kernel
abbrev cX1_init : ByteArray := prog_3_method_1_code
def yX1_init : MethodName := ⟨RX1, "<init>", "()V"⟩
abbrev cX1_remember : ByteArray := prog_3_method_2_code
def yX1_remember : MethodName := ⟨RX1, "remember", "(LRoleDoublingPlanner$Play;)V"⟩
abbrev cX1_bringBack : ByteArray := prog_3_method_3_code
def yX1_bringBack : MethodName := ⟨RX1, "bringBack", "(LRoleDoublingPlanner$Play;)V"⟩
abbrev cX1_forgetOldest : ByteArray := prog_3_method_4_code
def yX1_forgetOldest : MethodName := ⟨RX1, "forgetOldest", "()V"⟩
def RX2 : String := "RoleDoublingPlanner$Play"
def TX2 : u_T := fun k => match k with
  | 0 => ("RoleDoublingPlanner$Play", "scenes", "I", false)
  | 1 => ("RoleDoublingPlanner$Play", "roles", "I", false)
  | 2 => ("RoleDoublingPlanner$Play", "appearances", "I", false)
  | 3 => ("RoleDoublingPlanner$Play", "sceneLength", "[I", true)
  | 4 => ("RoleDoublingPlanner$Play", "voice", "[I", true)
  | 5 => ("RoleDoublingPlanner$Play", "out", "[I", true)
  | 6 => ("RoleDoublingPlanner$Play", "in", "[I", true)
  | 7 => ("RoleDoublingPlanner$Play", "actor", "[I", true)
  | 8 => ("RoleDoublingPlanner$Play", "appearing", "[I", true)
  | 9 => ("RoleDoublingPlanner$Play", "appearingIn", "[I", true)
  | 10 => ("RoleDoublingPlanner$Play", "enterTime", "[I", true)
  | _ => ("RoleDoublingPlanner$Play", "exitTime", "[I", true)
def tyX2 : Nat → FieldType := fun k => match k with
  | 0 => .int
  | 1 => .int
  | 2 => .int
  | 3 => .array .int
  | 4 => .array .int
  | 5 => .array .int
  | 6 => .array .int
  | 7 => .array .int
  | 8 => .array .int
  | 9 => .array .int
  | 10 => .array .int
  | _ => .array .int
abbrev wsX20 : List Cond := u_ws RX2 TX2 12
theorem nmX2 : ∀ a, a < 12 → ∀ b, b < 12 → a ≠ b → (TX2 a).2.1 ≠ (TX2 b).2.1 := by decide +kernel
theorem tyX2_ok : ∀ k, k < 12 → parseFieldDescriptor (TX2 k).2.2.1 = some (tyX2 k) := by decide +kernel
abbrev cX2_init : ByteArray := prog_4_method_1_code
def yX2_init : MethodName := ⟨RX2, "<init>", "()V"⟩
abbrev cX2_makeEmpty : ByteArray := prog_4_method_2_code
def yX2_makeEmpty : MethodName := ⟨RX2, "makeEmpty", "()V"⟩
abbrev cX2_copyFrom : ByteArray := prog_4_method_3_code
def yX2_copyFrom : MethodName := ⟨RX2, "copyFrom", "(LRoleDoublingPlanner$Play;)V"⟩
abbrev cX2_hasScene : ByteArray := prog_4_method_4_code
def yX2_hasScene : MethodName := ⟨RX2, "hasScene", "(I)Z"⟩
abbrev cX2_hasRole : ByteArray := prog_4_method_5_code
def yX2_hasRole : MethodName := ⟨RX2, "hasRole", "(I)Z"⟩
abbrev cX2_admits : ByteArray := prog_4_method_6_code
def yX2_admits : MethodName := ⟨RX2, "admits", "(IIII)Z"⟩
abbrev cX2_startOf : ByteArray := prog_4_method_7_code
def yX2_startOf : MethodName := ⟨RX2, "startOf", "(I)I"⟩
abbrev cX2_stateScene : ByteArray := prog_4_method_8_code
def yX2_stateScene : MethodName := ⟨RX2, "stateScene", "(I)I"⟩
abbrev cX2_stateRole : ByteArray := prog_4_method_9_code
def yX2_stateRole : MethodName := ⟨RX2, "stateRole", "(III)I"⟩
abbrev cX2_stateAppearance : ByteArray := prog_4_method_10_code
def yX2_stateAppearance : MethodName := ⟨RX2, "stateAppearance", "(IIII)I"⟩
abbrev cX2_putAppearance : ByteArray := prog_4_method_11_code
def yX2_putAppearance : MethodName := ⟨RX2, "putAppearance", "(IIII)V"⟩
abbrev cX2_dropAppearance : ByteArray := prog_4_method_12_code
def yX2_dropAppearance : MethodName := ⟨RX2, "dropAppearance", "(I)V"⟩
abbrev cX2_rolesAt : ByteArray := prog_4_method_13_code
def yX2_rolesAt : MethodName := ⟨RX2, "rolesAt", "(I)I"⟩
abbrev cX2_rolesWith : ByteArray := prog_4_method_14_code
def yX2_rolesWith : MethodName := ⟨RX2, "rolesWith", "(I)I"⟩
def RX3 : String := "RoleDoublingPlanner$PlayText"
def TX3 : u_T := fun k => match k with
  | 0 => ("RoleDoublingPlanner$PlayText", "signs", "[C", true)
  | 1 => ("RoleDoublingPlanner$PlayText", "length", "I", false)
  | 2 => ("RoleDoublingPlanner$PlayText", "statementStart", "I", false)
  | 3 => ("RoleDoublingPlanner$PlayText", "reason", "I", false)
  | 4 => ("RoleDoublingPlanner$PlayText", "place", "I", false)
  | 5 => ("RoleDoublingPlanner$PlayText", "wordStart", "I", false)
  | _ => ("RoleDoublingPlanner$PlayText", "numbers", "[I", true)
def tyX3 : Nat → FieldType := fun k => match k with
  | 0 => .array .char
  | 1 => .int
  | 2 => .int
  | 3 => .int
  | 4 => .int
  | 5 => .int
  | _ => .array .int
abbrev wsX30 : List Cond := u_ws RX3 TX3 7
theorem nmX3 : ∀ a, a < 7 → ∀ b, b < 7 → a ≠ b → (TX3 a).2.1 ≠ (TX3 b).2.1 := by decide +kernel
theorem tyX3_ok : ∀ k, k < 7 → parseFieldDescriptor (TX3 k).2.2.1 = some (tyX3 k) := by decide +kernel
abbrev cX3_init : ByteArray := prog_5_method_1_code
def yX3_init : MethodName := ⟨RX3, "<init>", "()V"⟩
abbrev cX3_put : ByteArray := prog_5_method_2_code
def yX3_put : MethodName := ⟨RX3, "put", "(C)V"⟩
abbrev cX3_putAll : ByteArray := prog_5_method_3_code
def yX3_putAll : MethodName := ⟨RX3, "putAll", "(Ljava/lang/String;)V"⟩
abbrev cX3_readInto : ByteArray := prog_5_method_4_code
def yX3_readInto : MethodName := ⟨RX3, "readInto", "(LRoleDoublingPlanner$Play;)V"⟩
abbrev cX3_readStatement : ByteArray := prog_5_method_5_code
def yX3_readStatement : MethodName := ⟨RX3, "readStatement", "(LRoleDoublingPlanner$Play;)I"⟩
abbrev cX3_readScene : ByteArray := prog_5_method_6_code
def yX3_readScene : MethodName := ⟨RX3, "readScene", "(LRoleDoublingPlanner$Play;)I"⟩
abbrev cX3_readRole : ByteArray := prog_5_method_7_code
def yX3_readRole : MethodName := ⟨RX3, "readRole", "(LRoleDoublingPlanner$Play;)I"⟩
abbrev cX3_readEnter : ByteArray := prog_5_method_8_code
def yX3_readEnter : MethodName := ⟨RX3, "readEnter", "(LRoleDoublingPlanner$Play;)I"⟩
abbrev cX3_readNumbersAndEnd : ByteArray := prog_5_method_9_code
def yX3_readNumbersAndEnd : MethodName := ⟨RX3, "readNumbersAndEnd", "(I)Z"⟩
abbrev cX3_readSign : ByteArray := prog_5_method_10_code
def yX3_readSign : MethodName := ⟨RX3, "readSign", "(C)Z"⟩
abbrev cX3_readWord : ByteArray := prog_5_method_11_code
def yX3_readWord : MethodName := ⟨RX3, "readWord", "()V"⟩
abbrev cX3_wordIs : ByteArray := prog_5_method_12_code
def yX3_wordIs : MethodName := ⟨RX3, "wordIs", "(Ljava/lang/String;)Z"⟩
abbrev cX3_wordAsVoice : ByteArray := prog_5_method_13_code
def yX3_wordAsVoice : MethodName := ⟨RX3, "wordAsVoice", "()I"⟩
abbrev cX3_wordAsNumber : ByteArray := prog_5_method_14_code
def yX3_wordAsNumber : MethodName := ⟨RX3, "wordAsNumber", "()I"⟩
def RX4 : String := "RoleDoublingPlanner$Slacks"
def TX4 : u_T := fun k => match k with
  | 0 => ("RoleDoublingPlanner$Slacks", "play", "LRoleDoublingPlanner$Play;", true)
  | _ => ("RoleDoublingPlanner$Slacks", "table", "[[I", true)
def tyX4 : Nat → FieldType := fun k => match k with
  | 0 => .object "RoleDoublingPlanner$Play"
  | _ => .array (.array .int)
abbrev wsX40 : List Cond := u_ws RX4 TX4 2
theorem nmX4 : ∀ a, a < 2 → ∀ b, b < 2 → a ≠ b → (TX4 a).2.1 ≠ (TX4 b).2.1 := by decide +kernel
theorem tyX4_ok : ∀ k, k < 2 → parseFieldDescriptor (TX4 k).2.2.1 = some (tyX4 k) := by decide +kernel
abbrev cX4_init : ByteArray := prog_6_method_1_code
def yX4_init : MethodName := ⟨RX4, "<init>", "(LRoleDoublingPlanner$Play;)V"⟩
abbrev cX4_measure : ByteArray := prog_6_method_2_code
def yX4_measure : MethodName := ⟨RX4, "measure", "()V"⟩
abbrev cX4_compare : ByteArray := prog_6_method_3_code
def yX4_compare : MethodName := ⟨RX4, "compare", "(II)V"⟩
abbrev cX4_slackFrom : ByteArray := prog_6_method_4_code
def yX4_slackFrom : MethodName := ⟨RX4, "slackFrom", "(II)I"⟩
abbrev cX4_reason : ByteArray := prog_6_method_5_code
def yX4_reason : MethodName := ⟨RX4, "reason", "(III)I"⟩
def RX5 : String := "RoleDoublingPlanner"
def TX5 : u_T := fun k => match k with
  | 0 => ("RoleDoublingPlanner", "text", "LRoleDoublingPlanner$PlayText;", true)
  | 1 => ("RoleDoublingPlanner", "stated", "LRoleDoublingPlanner$Play;", true)
  | 2 => ("RoleDoublingPlanner", "play", "LRoleDoublingPlanner$Play;", true)
  | 3 => ("RoleDoublingPlanner", "slacks", "LRoleDoublingPlanner$Slacks;", true)
  | 4 => ("RoleDoublingPlanner", "casting", "LRoleDoublingPlanner$Casting;", true)
  | _ => ("RoleDoublingPlanner", "history", "LRoleDoublingPlanner$History;", true)
def tyX5 : Nat → FieldType := fun k => match k with
  | 0 => .object "RoleDoublingPlanner$PlayText"
  | 1 => .object "RoleDoublingPlanner$Play"
  | 2 => .object "RoleDoublingPlanner$Play"
  | 3 => .object "RoleDoublingPlanner$Slacks"
  | 4 => .object "RoleDoublingPlanner$Casting"
  | _ => .object "RoleDoublingPlanner$History"
abbrev wsX50 : List Cond := u_ws RX5 TX5 6
theorem nmX5 : ∀ a, a < 6 → ∀ b, b < 6 → a ≠ b → (TX5 a).2.1 ≠ (TX5 b).2.1 := by decide +kernel
theorem tyX5_ok : ∀ k, k < 6 → parseFieldDescriptor (TX5 k).2.2.1 = some (tyX5 k) := by decide +kernel
abbrev cX5_init : ByteArray := prog_1_method_1_code
def yX5_init : MethodName := ⟨RX5, "<init>", "()V"⟩
abbrev cX5_append : ByteArray := prog_1_method_2_code
def yX5_append : MethodName := ⟨RX5, "append", "(I)I"⟩
abbrev cX5_clearText : ByteArray := prog_1_method_3_code
def yX5_clearText : MethodName := ⟨RX5, "clearText", "()I"⟩
abbrev cX5_firstError : ByteArray := prog_1_method_4_code
def yX5_firstError : MethodName := ⟨RX5, "firstError", "()I"⟩
abbrev cX5_errorReason : ByteArray := prog_1_method_5_code
def yX5_errorReason : MethodName := ⟨RX5, "errorReason", "()I"⟩
abbrev cX5_configure : ByteArray := prog_1_method_6_code
def yX5_configure : MethodName := ⟨RX5, "configure", "()I"⟩
abbrev cX5_addAppearance : ByteArray := prog_1_method_7_code
def yX5_addAppearance : MethodName := ⟨RX5, "addAppearance", "(IIII)I"⟩
abbrev cX5_removeAppearance : ByteArray := prog_1_method_8_code
def yX5_removeAppearance : MethodName := ⟨RX5, "removeAppearance", "(I)I"⟩
abbrev cX5_setChangeTimes : ByteArray := prog_1_method_9_code
def yX5_setChangeTimes : MethodName := ⟨RX5, "setChangeTimes", "(III)I"⟩
abbrev cX5_cast : ByteArray := prog_1_method_10_code
def yX5_cast : MethodName := ⟨RX5, "cast", "(II)I"⟩
abbrev cX5_uncast : ByteArray := prog_1_method_11_code
def yX5_uncast : MethodName := ⟨RX5, "uncast", "(I)I"⟩
abbrev cX5_adoptFirstCast : ByteArray := prog_1_method_12_code
def yX5_adoptFirstCast : MethodName := ⟨RX5, "adoptFirstCast", "()I"⟩
abbrev cX5_undo : ByteArray := prog_1_method_13_code
def yX5_undo : MethodName := ⟨RX5, "undo", "()I"⟩
abbrev cX5_roleCount : ByteArray := prog_1_method_14_code
def yX5_roleCount : MethodName := ⟨RX5, "roleCount", "()I"⟩
abbrev cX5_appearanceCount : ByteArray := prog_1_method_15_code
def yX5_appearanceCount : MethodName := ⟨RX5, "appearanceCount", "()I"⟩
abbrev cX5_playLength : ByteArray := prog_1_method_16_code
def yX5_playLength : MethodName := ⟨RX5, "playLength", "()I"⟩
abbrev cX5_onStage : ByteArray := prog_1_method_17_code
def yX5_onStage : MethodName := ⟨RX5, "onStage", "(I)I"⟩
abbrev cX5_peak : ByteArray := prog_1_method_18_code
def yX5_peak : MethodName := ⟨RX5, "peak", "()I"⟩
abbrev cX5_rolesInScene : ByteArray := prog_1_method_19_code
def yX5_rolesInScene : MethodName := ⟨RX5, "rolesInScene", "(I)I"⟩
abbrev cX5_conflict : ByteArray := prog_1_method_20_code
def yX5_conflict : MethodName := ⟨RX5, "conflict", "(II)I"⟩
abbrev cX5_conflictCount : ByteArray := prog_1_method_21_code
def yX5_conflictCount : MethodName := ⟨RX5, "conflictCount", "()I"⟩
abbrev cX5_slack : ByteArray := prog_1_method_22_code
def yX5_slack : MethodName := ⟨RX5, "slack", "(II)I"⟩
abbrev cX5_actorOf : ByteArray := prog_1_method_23_code
def yX5_actorOf : MethodName := ⟨RX5, "actorOf", "(I)I"⟩
abbrev cX5_rolesOf : ByteArray := prog_1_method_24_code
def yX5_rolesOf : MethodName := ⟨RX5, "rolesOf", "(I)I"⟩
abbrev cX5_tightestChange : ByteArray := prog_1_method_25_code
def yX5_tightestChange : MethodName := ⟨RX5, "tightestChange", "(I)I"⟩
abbrev cX5_cliqueNumber : ByteArray := prog_1_method_26_code
def yX5_cliqueNumber : MethodName := ⟨RX5, "cliqueNumber", "()I"⟩
abbrev cX5_leastCast : ByteArray := prog_1_method_27_code
def yX5_leastCast : MethodName := ⟨RX5, "leastCast", "()I"⟩
abbrev cX5_firstCastActor : ByteArray := prog_1_method_28_code
def yX5_firstCastActor : MethodName := ⟨RX5, "firstCastActor", "(I)I"⟩
abbrev cX5_greedyCast : ByteArray := prog_1_method_29_code
def yX5_greedyCast : MethodName := ⟨RX5, "greedyCast", "()I"⟩
abbrev cX5_leastCastIfFaster : ByteArray := prog_1_method_30_code
def yX5_leastCastIfFaster : MethodName := ⟨RX5, "leastCastIfFaster", "(I)I"⟩
abbrev cX5_speedUpFor : ByteArray := prog_1_method_31_code
def yX5_speedUpFor : MethodName := ⟨RX5, "speedUpFor", "(I)I"⟩
abbrev cX5_startStatedPlay : ByteArray := prog_1_method_32_code
def yX5_startStatedPlay : MethodName := ⟨RX5, "startStatedPlay", "()V"⟩
abbrev cX5_areTwoRoles : ByteArray := prog_1_method_33_code
def yX5_areTwoRoles : MethodName := ⟨RX5, "areTwoRoles", "(II)Z"⟩
abbrev cX5_hasRivalOf : ByteArray := prog_1_method_34_code
def yX5_hasRivalOf : MethodName := ⟨RX5, "hasRivalOf", "(III)Z"⟩
abbrev cX5_freeRivals : ByteArray := prog_1_method_35_code
def yX5_freeRivals : MethodName := ⟨RX5, "freeRivals", "()I"⟩
abbrev cX5_sizeIsEnough : ByteArray := prog_1_method_36_code
def yX5_sizeIsEnough : MethodName := ⟨RX5, "sizeIsEnough", "(II)Z"⟩
abbrev cX5_isActor : ByteArray := prog_1_method_37_code
def yX5_isActor : MethodName := ⟨RX5, "isActor", "(I)Z"⟩
abbrev cX5_isCostumeTime : ByteArray := prog_1_method_38_code
def yX5_isCostumeTime : MethodName := ⟨RX5, "isCostumeTime", "(I)Z"⟩
abbrev cX5_lesserSlack : ByteArray := prog_1_method_39_code
def yX5_lesserSlack : MethodName := ⟨RX5, "lesserSlack", "(II)I"⟩
def RX6 : String := "RoleDoublingPlannerModel"
def TX6 : u_T := fun k => match k with
  | 0 => ("RoleDoublingPlannerModel", "s", "[I", true)
  | 1 => ("RoleDoublingPlannerModel", "read", "[I", true)
  | 2 => ("RoleDoublingPlannerModel", "kept", "[I", true)
  | 3 => ("RoleDoublingPlannerModel", "keptMany", "I", false)
  | 4 => ("RoleDoublingPlannerModel", "text", "[I", true)
  | 5 => ("RoleDoublingPlannerModel", "length", "I", false)
  | 6 => ("RoleDoublingPlannerModel", "spot", "I", false)
  | 7 => ("RoleDoublingPlannerModel", "reason", "I", false)
  | 8 => ("RoleDoublingPlannerModel", "with", "[I", true)
  | _ => ("RoleDoublingPlannerModel", "given", "[I", true)
def tyX6 : Nat → FieldType := fun k => match k with
  | 0 => .array .int
  | 1 => .array .int
  | 2 => .array .int
  | 3 => .int
  | 4 => .array .int
  | 5 => .int
  | 6 => .int
  | 7 => .int
  | 8 => .array .int
  | _ => .array .int
abbrev wsX60 : List Cond := u_ws RX6 TX6 10
theorem nmX6 : ∀ a, a < 10 → ∀ b, b < 10 → a ≠ b → (TX6 a).2.1 ≠ (TX6 b).2.1 := by decide +kernel
theorem tyX6_ok : ∀ k, k < 10 → parseFieldDescriptor (TX6 k).2.2.1 = some (tyX6 k) := by decide +kernel
abbrev cX6_init : ByteArray := prog_8_method_1_code
def yX6_init : MethodName := ⟨RX6, "<init>", "()V"⟩
abbrev cX6_in : ByteArray := prog_8_method_2_code
def yX6_in : MethodName := ⟨RX6, "in", "(JJJ)Z"⟩
abbrev cX6_empty : ByteArray := prog_8_method_3_code
def yX6_empty : MethodName := ⟨RX6, "empty", "([I)V"⟩
abbrev cX6_role : ByteArray := prog_8_method_4_code
def yX6_role : MethodName := ⟨RX6, "role", "([IIII)V"⟩
abbrev cX6_appear : ByteArray := prog_8_method_5_code
def yX6_appear : MethodName := ⟨RX6, "appear", "([IIIII)V"⟩
abbrev cX6_append : ByteArray := prog_8_method_6_code
def yX6_append : MethodName := ⟨RX6, "append", "(I)I"⟩
abbrev cX6_clearText : ByteArray := prog_8_method_7_code
def yX6_clearText : MethodName := ⟨RX6, "clearText", "()I"⟩
abbrev cX6_here : ByteArray := prog_8_method_8_code
def yX6_here : MethodName := ⟨RX6, "here", "()I"⟩
abbrev cX6_word : ByteArray := prog_8_method_9_code
def yX6_word : MethodName := ⟨RX6, "word", "()I"⟩
abbrev cX6_named : ByteArray := prog_8_method_10_code
def yX6_named : MethodName := ⟨RX6, "named", "(IIIII)I"⟩
abbrev cX6_wants : ByteArray := prog_8_method_11_code
def yX6_wants : MethodName := ⟨RX6, "wants", "(I)V"⟩
abbrev cX6_number : ByteArray := prog_8_method_12_code
def yX6_number : MethodName := ⟨RX6, "number", "()I"⟩
abbrev cX6_voice : ByteArray := prog_8_method_13_code
def yX6_voice : MethodName := ⟨RX6, "voice", "()I"⟩
abbrev cX6_checked : ByteArray := prog_8_method_14_code
def yX6_checked : MethodName := ⟨RX6, "checked", "(ZZ)V"⟩
abbrev cX6_statement : ByteArray := prog_8_method_15_code
def yX6_statement : MethodName := ⟨RX6, "statement", "()V"⟩
abbrev cX6_readAll : ByteArray := prog_8_method_16_code
def yX6_readAll : MethodName := ⟨RX6, "readAll", "()I"⟩
abbrev cX6_firstError : ByteArray := prog_8_method_17_code
def yX6_firstError : MethodName := ⟨RX6, "firstError", "()I"⟩
abbrev cX6_errorReason : ByteArray := prog_8_method_18_code
def yX6_errorReason : MethodName := ⟨RX6, "errorReason", "()I"⟩
abbrev cX6_configure : ByteArray := prog_8_method_19_code
def yX6_configure : MethodName := ⟨RX6, "configure", "()I"⟩
abbrev cX6_keeps : ByteArray := prog_8_method_20_code
def yX6_keeps : MethodName := ⟨RX6, "keeps", "()V"⟩
abbrev cX6_undo : ByteArray := prog_8_method_21_code
def yX6_undo : MethodName := ⟨RX6, "undo", "()I"⟩
abbrev cX6_isRole : ByteArray := prog_8_method_22_code
def yX6_isRole : MethodName := ⟨RX6, "isRole", "(I)Z"⟩
abbrev cX6_isScene : ByteArray := prog_8_method_23_code
def yX6_isScene : MethodName := ⟨RX6, "isScene", "(I)Z"⟩
abbrev cX6_isActor : ByteArray := prog_8_method_24_code
def yX6_isActor : MethodName := ⟨RX6, "isActor", "(I)Z"⟩
abbrev cX6_repairs : ByteArray := prog_8_method_25_code
def yX6_repairs : MethodName := ⟨RX6, "repairs", "()I"⟩
abbrev cX6_addAppearance : ByteArray := prog_8_method_26_code
def yX6_addAppearance : MethodName := ⟨RX6, "addAppearance", "(IIII)I"⟩
abbrev cX6_removeAppearance : ByteArray := prog_8_method_27_code
def yX6_removeAppearance : MethodName := ⟨RX6, "removeAppearance", "(I)I"⟩
abbrev cX6_setChangeTimes : ByteArray := prog_8_method_28_code
def yX6_setChangeTimes : MethodName := ⟨RX6, "setChangeTimes", "(III)I"⟩
abbrev cX6_castBy : ByteArray := prog_8_method_29_code
def yX6_castBy : MethodName := ⟨RX6, "castBy", "(I)I"⟩
abbrev cX6_ones : ByteArray := prog_8_method_30_code
def yX6_ones : MethodName := ⟨RX6, "ones", "(I)I"⟩
abbrev cX6_cast : ByteArray := prog_8_method_31_code
def yX6_cast : MethodName := ⟨RX6, "cast", "(II)I"⟩
abbrev cX6_uncast : ByteArray := prog_8_method_32_code
def yX6_uncast : MethodName := ⟨RX6, "uncast", "(I)I"⟩
abbrev cX6_adoptFirstCast : ByteArray := prog_8_method_33_code
def yX6_adoptFirstCast : MethodName := ⟨RX6, "adoptFirstCast", "()I"⟩
abbrev cX6_roleCount : ByteArray := prog_8_method_34_code
def yX6_roleCount : MethodName := ⟨RX6, "roleCount", "()I"⟩
abbrev cX6_appearanceCount : ByteArray := prog_8_method_35_code
def yX6_appearanceCount : MethodName := ⟨RX6, "appearanceCount", "()I"⟩
abbrev cX6_sceneStart : ByteArray := prog_8_method_36_code
def yX6_sceneStart : MethodName := ⟨RX6, "sceneStart", "(I)I"⟩
abbrev cX6_playLength : ByteArray := prog_8_method_37_code
def yX6_playLength : MethodName := ⟨RX6, "playLength", "()I"⟩
abbrev cX6_roleOf : ByteArray := prog_8_method_38_code
def yX6_roleOf : MethodName := ⟨RX6, "roleOf", "(I)I"⟩
abbrev cX6_enters : ByteArray := prog_8_method_39_code
def yX6_enters : MethodName := ⟨RX6, "enters", "(I)I"⟩
abbrev cX6_exits : ByteArray := prog_8_method_40_code
def yX6_exits : MethodName := ⟨RX6, "exits", "(I)I"⟩
abbrev cX6_rolesAt : ByteArray := prog_8_method_41_code
def yX6_rolesAt : MethodName := ⟨RX6, "rolesAt", "(I)I"⟩
abbrev cX6_onStage : ByteArray := prog_8_method_42_code
def yX6_onStage : MethodName := ⟨RX6, "onStage", "(I)I"⟩
abbrev cX6_peak : ByteArray := prog_8_method_43_code
def yX6_peak : MethodName := ⟨RX6, "peak", "()I"⟩
abbrev cX6_rolesInScene : ByteArray := prog_8_method_44_code
def yX6_rolesInScene : MethodName := ⟨RX6, "rolesInScene", "(I)I"⟩
abbrev cX6_changeTime : ByteArray := prog_8_method_45_code
def yX6_changeTime : MethodName := ⟨RX6, "changeTime", "(III)I"⟩
abbrev cX6_overlap : ByteArray := prog_8_method_46_code
def yX6_overlap : MethodName := ⟨RX6, "overlap", "(II)Z"⟩
abbrev cX6_roomOf : ByteArray := prog_8_method_47_code
def yX6_roomOf : MethodName := ⟨RX6, "roomOf", "(III)I"⟩
abbrev cX6_reasonOf : ByteArray := prog_8_method_48_code
def yX6_reasonOf : MethodName := ⟨RX6, "reasonOf", "(III)I"⟩
abbrev cX6_layConflicts : ByteArray := prog_8_method_49_code
def yX6_layConflicts : MethodName := ⟨RX6, "layConflicts", "(I)V"⟩
abbrev cX6_areTwo : ByteArray := prog_8_method_50_code
def yX6_areTwo : MethodName := ⟨RX6, "areTwo", "(II)Z"⟩
abbrev cX6_conflict : ByteArray := prog_8_method_51_code
def yX6_conflict : MethodName := ⟨RX6, "conflict", "(II)I"⟩
abbrev cX6_conflictCount : ByteArray := prog_8_method_52_code
def yX6_conflictCount : MethodName := ⟨RX6, "conflictCount", "()I"⟩
abbrev cX6_slackOf : ByteArray := prog_8_method_53_code
def yX6_slackOf : MethodName := ⟨RX6, "slackOf", "(II)I"⟩
abbrev cX6_slack : ByteArray := prog_8_method_54_code
def yX6_slack : MethodName := ⟨RX6, "slack", "(II)I"⟩
abbrev cX6_actorOf : ByteArray := prog_8_method_55_code
def yX6_actorOf : MethodName := ⟨RX6, "actorOf", "(I)I"⟩
abbrev cX6_rolesOf : ByteArray := prog_8_method_56_code
def yX6_rolesOf : MethodName := ⟨RX6, "rolesOf", "(I)I"⟩
abbrev cX6_tightestChange : ByteArray := prog_8_method_57_code
def yX6_tightestChange : MethodName := ⟨RX6, "tightestChange", "(I)I"⟩
abbrev cX6_cliqueNumber : ByteArray := prog_8_method_58_code
def yX6_cliqueNumber : MethodName := ⟨RX6, "cliqueNumber", "()I"⟩
abbrev cX6_mayHave : ByteArray := prog_8_method_59_code
def yX6_mayHave : MethodName := ⟨RX6, "mayHave", "(II)Z"⟩
abbrev cX6_isGiven : ByteArray := prog_8_method_60_code
def yX6_isGiven : MethodName := ⟨RX6, "isGiven", "(I)Z"⟩
abbrev cX6_leastFor : ByteArray := prog_8_method_61_code
def yX6_leastFor : MethodName := ⟨RX6, "leastFor", "(I)I"⟩
abbrev cX6_leastCast : ByteArray := prog_8_method_62_code
def yX6_leastCast : MethodName := ⟨RX6, "leastCast", "()I"⟩
abbrev cX6_firstCastActor : ByteArray := prog_8_method_63_code
def yX6_firstCastActor : MethodName := ⟨RX6, "firstCastActor", "(I)I"⟩
abbrev cX6_greedyCast : ByteArray := prog_8_method_64_code
def yX6_greedyCast : MethodName := ⟨RX6, "greedyCast", "()I"⟩
abbrev cX6_leastCastIfFaster : ByteArray := prog_8_method_65_code
def yX6_leastCastIfFaster : MethodName := ⟨RX6, "leastCastIfFaster", "(I)I"⟩
abbrev cX6_speedUpFor : ByteArray := prog_8_method_66_code
def yX6_speedUpFor : MethodName := ⟨RX6, "speedUpFor", "(I)I"⟩
def RJ6 : String := "java/lang/Integer"
def TJ6 : u_T := fun k => match k with
  | _ => ("", "", "", false)
def tyJ6 : Nat → FieldType := fun k => match k with
  | _ => .int
abbrev wsJ60 : List Cond := u_ws RJ6 TJ6 0
theorem nmJ6 : ∀ a, a < 0 → ∀ b, b < 0 → a ≠ b → (TJ6 a).2.1 ≠ (TJ6 b).2.1 := by decide +kernel
theorem tyJ6_ok : ∀ k, k < 0 → parseFieldDescriptor (TJ6 k).2.2.1 = some (tyJ6 k) := by decide +kernel
abbrev cJ6_bitCount_0f7a4 : ByteArray := prog_9_method_49_code
def yJ6_bitCount_0f7a4 : MethodName := ⟨RJ6, "bitCount", "(I)I"⟩
def RJ9 : String := "java/lang/Math"
def TJ9 : u_T := fun k => match k with
  | _ => ("", "", "", false)
def tyJ9 : Nat → FieldType := fun k => match k with
  | _ => .int
abbrev wsJ90 : List Cond := u_ws RJ9 TJ9 0
theorem nmJ9 : ∀ a, a < 0 → ∀ b, b < 0 → a ≠ b → (TJ9 a).2.1 ≠ (TJ9 b).2.1 := by decide +kernel
theorem tyJ9_ok : ∀ k, k < 0 → parseFieldDescriptor (TJ9 k).2.2.1 = some (tyJ9 k) := by decide +kernel
abbrev cJ9_max_7cf53 : ByteArray := prog_10_method_65_code
def yJ9_max_7cf53 : MethodName := ⟨RJ9, "max", "(II)I"⟩
abbrev cJ9_min_7cf53 : ByteArray := prog_10_method_69_code
def yJ9_min_7cf53 : MethodName := ⟨RJ9, "min", "(II)I"⟩
def RJ0 : String := "java/lang/String"
def TJ0 : u_T := fun k => match k with
  | _ => ("", "", "", false)
def tyJ0 : Nat → FieldType := fun k => match k with
  | _ => .int
abbrev wsJ00 : List Cond := u_ws RJ0 TJ0 0
theorem nmJ0 : ∀ a, a < 0 → ∀ b, b < 0 → a ≠ b → (TJ0 a).2.1 ≠ (TJ0 b).2.1 := by decide +kernel
theorem tyJ0_ok : ∀ k, k < 0 → parseFieldDescriptor (TJ0 k).2.2.1 = some (tyJ0 k) := by decide +kernel
abbrev cJ0_length_8abf5 : ByteArray := prog_11_method_54_code
def yJ0_length_8abf5 : MethodName := ⟨RJ0, "length", "()I"⟩
abbrev cJ0_charAt_5068e : ByteArray := prog_11_method_56_code
def yJ0_charAt_5068e : MethodName := ⟨RJ0, "charAt", "(I)C"⟩
abbrev cJ0_coder_7d493 : ByteArray := prog_11_method_152_code
def yJ0_coder_7d493 : MethodName := ⟨RJ0, "coder", "()B"⟩
abbrev cJ0_isLatin1_aae02 : ByteArray := prog_11_method_154_code
def yJ0_isLatin1_aae02 : MethodName := ⟨RJ0, "isLatin1", "()Z"⟩
abbrev cJ0_checkIndex_df160 : ByteArray := prog_11_method_155_code
def yJ0_checkIndex_df160 : MethodName := ⟨RJ0, "checkIndex", "(II)V"⟩
def RJ1 : String := "java/lang/StringLatin1"
def TJ1 : u_T := fun k => match k with
  | _ => ("", "", "", false)
def tyJ1 : Nat → FieldType := fun k => match k with
  | _ => .int
abbrev wsJ10 : List Cond := u_ws RJ1 TJ1 0
theorem nmJ1 : ∀ a, a < 0 → ∀ b, b < 0 → a ≠ b → (TJ1 a).2.1 ≠ (TJ1 b).2.1 := by decide +kernel
theorem tyJ1_ok : ∀ k, k < 0 → parseFieldDescriptor (TJ1 k).2.2.1 = some (tyJ1 k) := by decide +kernel
abbrev cJ1_charAt_3b067 : ByteArray := prog_12_method_2_code
def yJ1_charAt_3b067 : MethodName := ⟨RJ1, "charAt", "([BI)C"⟩
def RJ2 : String := "java/lang/StringUTF16"
def TJ2 : u_T := fun k => match k with
  | _ => ("", "", "", false)
def tyJ2 : Nat → FieldType := fun k => match k with
  | _ => .int
abbrev wsJ20 : List Cond := u_ws RJ2 TJ2 0
theorem nmJ2 : ∀ a, a < 0 → ∀ b, b < 0 → a ≠ b → (TJ2 a).2.1 ≠ (TJ2 b).2.1 := by decide +kernel
theorem tyJ2_ok : ∀ k, k < 0 → parseFieldDescriptor (TJ2 k).2.2.1 = some (tyJ2 k) := by decide +kernel
abbrev cJ2_getChar_3b067 : ByteArray := prog_13_method_5_code
def yJ2_getChar_3b067 : MethodName := ⟨RJ2, "getChar", "([BI)C"⟩
abbrev cJ2_length_9d52b : ByteArray := prog_13_method_6_code
def yJ2_length_9d52b : MethodName := ⟨RJ2, "length", "([B)I"⟩
abbrev cJ2_charAt_3b067 : ByteArray := prog_13_method_83_code
def yJ2_charAt_3b067 : MethodName := ⟨RJ2, "charAt", "([BI)C"⟩
abbrev cJ2_checkIndex_2214a : ByteArray := prog_13_method_91_code
def yJ2_checkIndex_2214a : MethodName := ⟨RJ2, "checkIndex", "(I[B)V"⟩
def RJ10 : String := "java/lang/System"
def TJ10 : u_T := fun k => match k with
  | _ => ("", "", "", false)
def tyJ10 : Nat → FieldType := fun k => match k with
  | _ => .int
abbrev wsJ100 : List Cond := u_ws RJ10 TJ10 0
theorem nmJ10 : ∀ a, a < 0 → ∀ b, b < 0 → a ≠ b → (TJ10 a).2.1 ≠ (TJ10 b).2.1 := by decide +kernel
theorem tyJ10_ok : ∀ k, k < 0 → parseFieldDescriptor (TJ10 k).2.2.1 = some (tyJ10 k) := by decide +kernel
def RJ3 : String := "jdk/internal/util/Preconditions"
def TJ3 : u_T := fun k => match k with
  | _ => ("", "", "", false)
def tyJ3 : Nat → FieldType := fun k => match k with
  | _ => .int
abbrev wsJ30 : List Cond := u_ws RJ3 TJ3 0
theorem nmJ3 : ∀ a, a < 0 → ∀ b, b < 0 → a ≠ b → (TJ3 a).2.1 ≠ (TJ3 b).2.1 := by decide +kernel
theorem tyJ3_ok : ∀ k, k < 0 → parseFieldDescriptor (TJ3 k).2.2.1 = some (tyJ3 k) := by decide +kernel
abbrev cJ3_checkIndex_8e157 : ByteArray := prog_15_method_11_code
def yJ3_checkIndex_8e157 : MethodName := ⟨RJ3, "checkIndex", "(IILjava/util/function/BiFunction;)I"⟩
def RL : String := "RoleDoublingPlannerLaw"
abbrev cL_law : ByteArray := code
def yL_law : MethodName := ⟨RL, "law", "([I)Z"⟩
def wsX0_init : List Cond := .code yX0_init cX0_init 1 none :: ([.methodLink RX0 3 objectInit, .instanceMethod objectInit, .code objectInit ⟨#[0xb1]⟩ 1 none, .arrayClass .int, .fieldLink RX0 9 "RoleDoublingPlanner$Casting" "rivals" "[I", .fieldLink RX0 15 "RoleDoublingPlanner$Casting" "rolesOfActor" "[I"] ++ wsX00)
def wsX4_reason : List Cond := .code yX4_reason cX4_reason 5 (some .int) :: ([.fieldLink RX4 16 "RoleDoublingPlanner$Slacks" "play" "LRoleDoublingPlanner$Play;", .fieldLink RX4 53 "RoleDoublingPlanner$Play" "voice" "[I", .fieldLink RX4 11 "RoleDoublingPlanner$Slacks" "table" "[[I"] ++ wsX40 ++ wsX20)
def wsX0_lookAt : List Cond := .code yX0_lookAt cX0_lookAt 5 none :: ([.fieldLink RX0 18 "RoleDoublingPlanner$Slacks" "play" "LRoleDoublingPlanner$Play;", .fieldLink RX0 24 "RoleDoublingPlanner$Play" "roles" "I", .fieldLink RX0 30 "RoleDoublingPlanner$Casting" "roles" "I", .fieldLink RX0 9 "RoleDoublingPlanner$Casting" "rivals" "[I", .methodLink RX0 31 yX4_reason, .instanceMethod yX4_reason, .selects RX4 yX4_reason yX4_reason, .initialized RX4, .code yX4_reason cX4_reason 5 (some .int), .fieldLink RX4 16 "RoleDoublingPlanner$Slacks" "play" "LRoleDoublingPlanner$Play;", .fieldLink RX4 53 "RoleDoublingPlanner$Play" "voice" "[I", .fieldLink RX4 11 "RoleDoublingPlanner$Slacks" "table" "[[I"] ++ wsX40 ++ wsX20 ++ wsX00)
def wsX0_dismissAll : List Cond := .code yX0_dismissAll cX0_dismissAll 2 none :: ([.fieldLink RX0 15 "RoleDoublingPlanner$Casting" "rolesOfActor" "[I"] ++ wsX00)
def wsX0_isFree : List Cond := .code yX0_isFree cX0_isFree 3 (some .boolean) :: ([.fieldLink RX0 15 "RoleDoublingPlanner$Casting" "rolesOfActor" "[I", .fieldLink RX0 9 "RoleDoublingPlanner$Casting" "rivals" "[I"] ++ wsX00)
def wsX0_castFrom : List Cond := .code yX0_castFrom cX0_castFrom 5 (some .boolean) :: ([.fieldLink RX0 30 "RoleDoublingPlanner$Casting" "roles" "I", .fieldLink RX0 15 "RoleDoublingPlanner$Casting" "rolesOfActor" "[I", .methodLink RX0 56 Lib.Math.max.name, .static Lib.Math.max.name, .initialized "java/lang/Math", .code Lib.Math.max.name Lib.Math.max.code 2 (some .int), .methodLink RX0 52 yX0_isFree, .instanceMethod yX0_isFree, .selects RX0 yX0_isFree yX0_isFree, .initialized RX0, .code yX0_isFree cX0_isFree 3 (some .boolean), .fieldLink RX0 9 "RoleDoublingPlanner$Casting" "rivals" "[I", .methodLink RX0 48 yX0_castFrom, .static yX0_castFrom] ++ wsX00)
def wsX0_findCast : List Cond := .code yX0_findCast cX0_findCast 2 (some .boolean) :: ([.methodLink RX0 42 Lib.Math.min.name, .static Lib.Math.min.name, .initialized "java/lang/Math", .code Lib.Math.min.name Lib.Math.min.code 2 (some .int), .methodLink RX0 39 yX0_dismissAll, .instanceMethod yX0_dismissAll, .selects RX0 yX0_dismissAll yX0_dismissAll, .initialized RX0, .code yX0_dismissAll cX0_dismissAll 2 none, .fieldLink RX0 15 "RoleDoublingPlanner$Casting" "rolesOfActor" "[I", .methodLink RX0 48 yX0_castFrom, .static yX0_castFrom, .code yX0_castFrom cX0_castFrom 5 (some .boolean), .fieldLink RX0 30 "RoleDoublingPlanner$Casting" "roles" "I", .methodLink RX0 56 Lib.Math.max.name, .static Lib.Math.max.name, .code Lib.Math.max.name Lib.Math.max.code 2 (some .int), .methodLink RX0 52 yX0_isFree, .instanceMethod yX0_isFree, .selects RX0 yX0_isFree yX0_isFree, .code yX0_isFree cX0_isFree 3 (some .boolean), .fieldLink RX0 9 "RoleDoublingPlanner$Casting" "rivals" "[I"] ++ wsX00)
def wsX0_findFirstCast_r1 : List Cond := [Cond.fieldLink RX0 30 "RoleDoublingPlanner$Casting" "roles" "I", Cond.methodLink RX0 35 yX0_findCast, Cond.instanceMethod yX0_findCast, Cond.selects RX0 yX0_findCast yX0_findCast, Cond.initialized RX0, Cond.code yX0_findCast cX0_findCast 2 (some .boolean), Cond.methodLink RX0 42 Lib.Math.min.name, Cond.static Lib.Math.min.name, Cond.initialized "java/lang/Math", Cond.code Lib.Math.min.name Lib.Math.min.code 2 (some .int), Cond.methodLink RX0 39 yX0_dismissAll, Cond.instanceMethod yX0_dismissAll, Cond.selects RX0 yX0_dismissAll yX0_dismissAll, Cond.code yX0_dismissAll cX0_dismissAll 2 none, Cond.fieldLink RX0 15 "RoleDoublingPlanner$Casting" "rolesOfActor" "[I", Cond.methodLink RX0 48 yX0_castFrom, Cond.static yX0_castFrom, Cond.code yX0_castFrom cX0_castFrom 5 (some .boolean), Cond.methodLink RX0 56 Lib.Math.max.name, Cond.static Lib.Math.max.name, Cond.code Lib.Math.max.name Lib.Math.max.code 2 (some .int), Cond.methodLink RX0 52 yX0_isFree, Cond.instanceMethod yX0_isFree, Cond.selects RX0 yX0_isFree yX0_isFree]
def wsX0_findFirstCast_r2 : List Cond := [Cond.code yX0_isFree cX0_isFree 3 (some .boolean), Cond.fieldLink RX0 9 "RoleDoublingPlanner$Casting" "rivals" "[I"]
def wsX0_findFirstCast : List Cond := .code yX0_findFirstCast cX0_findFirstCast 2 (some .int) :: ((wsX0_findFirstCast_r1 ++ wsX0_findFirstCast_r2) ++ wsX00)
def wsX0_foundActor : List Cond := .code yX0_foundActor cX0_foundActor 3 (some .int) :: ([.fieldLink RX0 15 "RoleDoublingPlanner$Casting" "rolesOfActor" "[I"] ++ wsX00)
def wsX0_greedySize : List Cond := .code yX0_greedySize cX0_greedySize 4 (some .int) :: ([.fieldLink RX0 30 "RoleDoublingPlanner$Casting" "roles" "I", .fieldLink RX0 15 "RoleDoublingPlanner$Casting" "rolesOfActor" "[I", .methodLink RX0 56 Lib.Math.max.name, .static Lib.Math.max.name, .initialized "java/lang/Math", .code Lib.Math.max.name Lib.Math.max.code 2 (some .int), .methodLink RX0 39 yX0_dismissAll, .instanceMethod yX0_dismissAll, .selects RX0 yX0_dismissAll yX0_dismissAll, .initialized RX0, .code yX0_dismissAll cX0_dismissAll 2 none, .methodLink RX0 52 yX0_isFree, .instanceMethod yX0_isFree, .selects RX0 yX0_isFree yX0_isFree, .code yX0_isFree cX0_isFree 3 (some .boolean), .fieldLink RX0 9 "RoleDoublingPlanner$Casting" "rivals" "[I"] ++ wsX00)
def wsX0_isClique : List Cond := .code yX0_isClique cX0_isClique 4 (some .boolean) :: ([.fieldLink RX0 30 "RoleDoublingPlanner$Casting" "roles" "I", .fieldLink RX0 9 "RoleDoublingPlanner$Casting" "rivals" "[I"] ++ wsX00)
def wsJ6_bitCount_0f7a4 : List Cond := .code yJ6_bitCount_0f7a4 cJ6_bitCount_0f7a4 1 (some .int) :: ([.constant RJ6 265 (1431655765), .constant RJ6 266 (858993459), .constant RJ6 267 (252645135)])
def wsX0_largestClique : List Cond := .code yX0_largestClique cX0_largestClique 3 (some .int) :: ([.fieldLink RX0 30 "RoleDoublingPlanner$Casting" "roles" "I", .methodLink RX0 56 Lib.Math.max.name, .static Lib.Math.max.name, .initialized "java/lang/Math", .code Lib.Math.max.name Lib.Math.max.code 2 (some .int), .methodLink RX0 59 yX0_isClique, .instanceMethod yX0_isClique, .selects RX0 yX0_isClique yX0_isClique, .initialized RX0, .code yX0_isClique cX0_isClique 4 (some .boolean), .fieldLink RX0 9 "RoleDoublingPlanner$Casting" "rivals" "[I", .methodLink RX0 62 yJ6_bitCount_0f7a4, .static yJ6_bitCount_0f7a4, .initialized RJ6, .code yJ6_bitCount_0f7a4 cJ6_bitCount_0f7a4 1 (some .int), .constant RJ6 265 (1431655765), .constant RJ6 266 (858993459), .constant RJ6 267 (252645135)] ++ wsX00)
def wsX2_init : List Cond := .code yX2_init cX2_init 1 none :: ([.methodLink RX2 3 objectInit, .instanceMethod objectInit, .code objectInit ⟨#[0xb1]⟩ 1 none, .arrayClass .int, .fieldLink RX2 9 "RoleDoublingPlanner$Play" "sceneLength" "[I", .fieldLink RX2 15 "RoleDoublingPlanner$Play" "voice" "[I", .fieldLink RX2 18 "RoleDoublingPlanner$Play" "out" "[I", .fieldLink RX2 21 "RoleDoublingPlanner$Play" "in" "[I", .fieldLink RX2 24 "RoleDoublingPlanner$Play" "actor" "[I", .fieldLink RX2 27 "RoleDoublingPlanner$Play" "appearing" "[I", .fieldLink RX2 30 "RoleDoublingPlanner$Play" "appearingIn" "[I", .fieldLink RX2 33 "RoleDoublingPlanner$Play" "enterTime" "[I", .fieldLink RX2 36 "RoleDoublingPlanner$Play" "exitTime" "[I"] ++ wsX20)
def wsX1_init : List Cond := .code yX1_init cX1_init 2 none :: ([.methodLink RX1 3 objectInit, .instanceMethod objectInit, .code objectInit ⟨#[0xb1]⟩ 1 none, .classLink RX1 9 RX2, .fieldLink RX1 11 "RoleDoublingPlanner$History" "past" "[LRoleDoublingPlanner$Play;", .instantiable RX2 12, .initialized RX2, .instanceMethod yX2_init, .code yX2_init cX2_init 1 none, .methodLink RX2 3 objectInit, .arrayClass .int, .fieldLink RX2 9 "RoleDoublingPlanner$Play" "sceneLength" "[I", .fieldLink RX2 15 "RoleDoublingPlanner$Play" "voice" "[I", .fieldLink RX2 18 "RoleDoublingPlanner$Play" "out" "[I", .fieldLink RX2 21 "RoleDoublingPlanner$Play" "in" "[I", .fieldLink RX2 24 "RoleDoublingPlanner$Play" "actor" "[I", .fieldLink RX2 27 "RoleDoublingPlanner$Play" "appearing" "[I", .fieldLink RX2 30 "RoleDoublingPlanner$Play" "appearingIn" "[I", .fieldLink RX2 33 "RoleDoublingPlanner$Play" "enterTime" "[I", .fieldLink RX2 36 "RoleDoublingPlanner$Play" "exitTime" "[I"] ++ wsX10 ++ wsX20)
def wsX1_forgetOldest : List Cond := .code yX1_forgetOldest cX1_forgetOldest 3 none :: ([.fieldLink RX1 11 "RoleDoublingPlanner$History" "past" "[LRoleDoublingPlanner$Play;", .fieldLink RX1 18 "RoleDoublingPlanner$History" "kept" "I"] ++ wsX10)
def wsX2_copyFrom : List Cond := .code yX2_copyFrom cX2_copyFrom 2 none :: ([.fieldLink RX2 39 "RoleDoublingPlanner$Play" "scenes" "I", .fieldLink RX2 43 "RoleDoublingPlanner$Play" "roles" "I", .fieldLink RX2 46 "RoleDoublingPlanner$Play" "appearances" "I", .fieldLink RX2 9 "RoleDoublingPlanner$Play" "sceneLength" "[I", .methodLink RX2 49 arraycopyName, .native arraycopyName, .static arraycopyName, .initialized "java/lang/System", .fieldLink RX2 15 "RoleDoublingPlanner$Play" "voice" "[I", .fieldLink RX2 18 "RoleDoublingPlanner$Play" "out" "[I", .fieldLink RX2 21 "RoleDoublingPlanner$Play" "in" "[I", .fieldLink RX2 24 "RoleDoublingPlanner$Play" "actor" "[I", .fieldLink RX2 27 "RoleDoublingPlanner$Play" "appearing" "[I", .fieldLink RX2 30 "RoleDoublingPlanner$Play" "appearingIn" "[I", .fieldLink RX2 33 "RoleDoublingPlanner$Play" "enterTime" "[I", .fieldLink RX2 36 "RoleDoublingPlanner$Play" "exitTime" "[I"] ++ wsX20)
def wsX1_remember_r1 : List Cond := [Cond.fieldLink RX1 18 "RoleDoublingPlanner$History" "kept" "I", Cond.fieldLink RX1 11 "RoleDoublingPlanner$History" "past" "[LRoleDoublingPlanner$Play;", Cond.methodLink RX1 22 yX1_forgetOldest, Cond.instanceMethod yX1_forgetOldest, Cond.selects RX1 yX1_forgetOldest yX1_forgetOldest, Cond.initialized RX1, Cond.code yX1_forgetOldest cX1_forgetOldest 3 none, Cond.methodLink RX1 25 yX2_copyFrom, Cond.instanceMethod yX2_copyFrom, Cond.selects RX2 yX2_copyFrom yX2_copyFrom, Cond.initialized RX2, Cond.code yX2_copyFrom cX2_copyFrom 2 none, Cond.fieldLink RX2 39 "RoleDoublingPlanner$Play" "scenes" "I", Cond.fieldLink RX2 43 "RoleDoublingPlanner$Play" "roles" "I", Cond.fieldLink RX2 46 "RoleDoublingPlanner$Play" "appearances" "I", Cond.fieldLink RX2 9 "RoleDoublingPlanner$Play" "sceneLength" "[I", Cond.methodLink RX2 49 arraycopyName, Cond.native arraycopyName, Cond.static arraycopyName, Cond.initialized "java/lang/System", Cond.fieldLink RX2 15 "RoleDoublingPlanner$Play" "voice" "[I", Cond.fieldLink RX2 18 "RoleDoublingPlanner$Play" "out" "[I", Cond.fieldLink RX2 21 "RoleDoublingPlanner$Play" "in" "[I", Cond.fieldLink RX2 24 "RoleDoublingPlanner$Play" "actor" "[I"]
def wsX1_remember_r2 : List Cond := [Cond.fieldLink RX2 27 "RoleDoublingPlanner$Play" "appearing" "[I", Cond.fieldLink RX2 30 "RoleDoublingPlanner$Play" "appearingIn" "[I", Cond.fieldLink RX2 33 "RoleDoublingPlanner$Play" "enterTime" "[I", Cond.fieldLink RX2 36 "RoleDoublingPlanner$Play" "exitTime" "[I"]
def wsX1_remember : List Cond := .code yX1_remember cX1_remember 2 none :: ((wsX1_remember_r1 ++ wsX1_remember_r2) ++ wsX10 ++ wsX20)
def wsX1_bringBack : List Cond := .code yX1_bringBack cX1_bringBack 2 none :: ([.fieldLink RX1 18 "RoleDoublingPlanner$History" "kept" "I", .fieldLink RX1 11 "RoleDoublingPlanner$History" "past" "[LRoleDoublingPlanner$Play;", .methodLink RX1 25 yX2_copyFrom, .instanceMethod yX2_copyFrom, .selects RX2 yX2_copyFrom yX2_copyFrom, .initialized RX2, .code yX2_copyFrom cX2_copyFrom 2 none, .fieldLink RX2 39 "RoleDoublingPlanner$Play" "scenes" "I", .fieldLink RX2 43 "RoleDoublingPlanner$Play" "roles" "I", .fieldLink RX2 46 "RoleDoublingPlanner$Play" "appearances" "I", .fieldLink RX2 9 "RoleDoublingPlanner$Play" "sceneLength" "[I", .methodLink RX2 49 arraycopyName, .native arraycopyName, .static arraycopyName, .initialized "java/lang/System", .fieldLink RX2 15 "RoleDoublingPlanner$Play" "voice" "[I", .fieldLink RX2 18 "RoleDoublingPlanner$Play" "out" "[I", .fieldLink RX2 21 "RoleDoublingPlanner$Play" "in" "[I", .fieldLink RX2 24 "RoleDoublingPlanner$Play" "actor" "[I", .fieldLink RX2 27 "RoleDoublingPlanner$Play" "appearing" "[I", .fieldLink RX2 30 "RoleDoublingPlanner$Play" "appearingIn" "[I", .fieldLink RX2 33 "RoleDoublingPlanner$Play" "enterTime" "[I", .fieldLink RX2 36 "RoleDoublingPlanner$Play" "exitTime" "[I"] ++ wsX10 ++ wsX20)
def wsX2_makeEmpty : List Cond := .code yX2_makeEmpty cX2_makeEmpty 1 none :: ([.fieldLink RX2 39 "RoleDoublingPlanner$Play" "scenes" "I", .fieldLink RX2 43 "RoleDoublingPlanner$Play" "roles" "I", .fieldLink RX2 46 "RoleDoublingPlanner$Play" "appearances" "I"] ++ wsX20)
def wsX2_hasScene : List Cond := .code yX2_hasScene cX2_hasScene 2 (some .boolean) :: ([.fieldLink RX2 39 "RoleDoublingPlanner$Play" "scenes" "I"] ++ wsX20)
def wsX2_hasRole : List Cond := .code yX2_hasRole cX2_hasRole 2 (some .boolean) :: ([.fieldLink RX2 43 "RoleDoublingPlanner$Play" "roles" "I"] ++ wsX20)
def wsX2_admits : List Cond := .code yX2_admits cX2_admits 5 (some .boolean) :: ([.fieldLink RX2 9 "RoleDoublingPlanner$Play" "sceneLength" "[I", .methodLink RX2 55 yX2_hasRole, .instanceMethod yX2_hasRole, .selects RX2 yX2_hasRole yX2_hasRole, .initialized RX2, .code yX2_hasRole cX2_hasRole 2 (some .boolean), .fieldLink RX2 43 "RoleDoublingPlanner$Play" "roles" "I", .methodLink RX2 59 yX2_hasScene, .instanceMethod yX2_hasScene, .selects RX2 yX2_hasScene yX2_hasScene, .code yX2_hasScene cX2_hasScene 2 (some .boolean), .fieldLink RX2 39 "RoleDoublingPlanner$Play" "scenes" "I"] ++ wsX20)
def wsX2_startOf : List Cond := .code yX2_startOf cX2_startOf 4 (some .int) :: ([.fieldLink RX2 39 "RoleDoublingPlanner$Play" "scenes" "I", .fieldLink RX2 9 "RoleDoublingPlanner$Play" "sceneLength" "[I"] ++ wsX20)
def wsX2_stateScene : List Cond := .code yX2_stateScene cX2_stateScene 2 (some .int) :: ([.fieldLink RX2 39 "RoleDoublingPlanner$Play" "scenes" "I", .fieldLink RX2 9 "RoleDoublingPlanner$Play" "sceneLength" "[I"] ++ wsX20)
def wsX5_isCostumeTime : List Cond := .code yX5_isCostumeTime cX5_isCostumeTime 1 (some .boolean) :: ([])
def wsX2_stateRole : List Cond := .code yX2_stateRole cX2_stateRole 4 (some .int) :: ([.fieldLink RX2 43 "RoleDoublingPlanner$Play" "roles" "I", .fieldLink RX2 15 "RoleDoublingPlanner$Play" "voice" "[I", .fieldLink RX2 18 "RoleDoublingPlanner$Play" "out" "[I", .fieldLink RX2 21 "RoleDoublingPlanner$Play" "in" "[I", .fieldLink RX2 24 "RoleDoublingPlanner$Play" "actor" "[I", .static yX5_isCostumeTime, .initialized RX5, .code yX5_isCostumeTime cX5_isCostumeTime 1 (some .boolean)] ++ wsX20)
def wsX2_putAppearance : List Cond := .code yX2_putAppearance cX2_putAppearance 6 none :: ([.fieldLink RX2 27 "RoleDoublingPlanner$Play" "appearing" "[I", .fieldLink RX2 46 "RoleDoublingPlanner$Play" "appearances" "I", .fieldLink RX2 30 "RoleDoublingPlanner$Play" "appearingIn" "[I", .fieldLink RX2 33 "RoleDoublingPlanner$Play" "enterTime" "[I", .fieldLink RX2 36 "RoleDoublingPlanner$Play" "exitTime" "[I", .methodLink RX2 73 yX2_startOf, .instanceMethod yX2_startOf, .selects RX2 yX2_startOf yX2_startOf, .initialized RX2, .code yX2_startOf cX2_startOf 4 (some .int), .fieldLink RX2 39 "RoleDoublingPlanner$Play" "scenes" "I", .fieldLink RX2 9 "RoleDoublingPlanner$Play" "sceneLength" "[I"] ++ wsX20)
def wsX2_stateAppearance_r1 : List Cond := [Cond.fieldLink RX2 46 "RoleDoublingPlanner$Play" "appearances" "I", Cond.methodLink RX2 65 yX2_admits, Cond.instanceMethod yX2_admits, Cond.selects RX2 yX2_admits yX2_admits, Cond.initialized RX2, Cond.code yX2_admits cX2_admits 5 (some .boolean), Cond.fieldLink RX2 9 "RoleDoublingPlanner$Play" "sceneLength" "[I", Cond.methodLink RX2 55 yX2_hasRole, Cond.instanceMethod yX2_hasRole, Cond.selects RX2 yX2_hasRole yX2_hasRole, Cond.code yX2_hasRole cX2_hasRole 2 (some .boolean), Cond.fieldLink RX2 43 "RoleDoublingPlanner$Play" "roles" "I", Cond.methodLink RX2 59 yX2_hasScene, Cond.instanceMethod yX2_hasScene, Cond.selects RX2 yX2_hasScene yX2_hasScene, Cond.code yX2_hasScene cX2_hasScene 2 (some .boolean), Cond.fieldLink RX2 39 "RoleDoublingPlanner$Play" "scenes" "I", Cond.methodLink RX2 69 yX2_putAppearance, Cond.instanceMethod yX2_putAppearance, Cond.selects RX2 yX2_putAppearance yX2_putAppearance, Cond.code yX2_putAppearance cX2_putAppearance 6 none, Cond.fieldLink RX2 27 "RoleDoublingPlanner$Play" "appearing" "[I", Cond.fieldLink RX2 30 "RoleDoublingPlanner$Play" "appearingIn" "[I", Cond.fieldLink RX2 33 "RoleDoublingPlanner$Play" "enterTime" "[I"]
def wsX2_stateAppearance_r2 : List Cond := [Cond.fieldLink RX2 36 "RoleDoublingPlanner$Play" "exitTime" "[I", Cond.methodLink RX2 73 yX2_startOf, Cond.instanceMethod yX2_startOf, Cond.selects RX2 yX2_startOf yX2_startOf, Cond.code yX2_startOf cX2_startOf 4 (some .int)]
def wsX2_stateAppearance : List Cond := .code yX2_stateAppearance cX2_stateAppearance 5 (some .int) :: ((wsX2_stateAppearance_r1 ++ wsX2_stateAppearance_r2) ++ wsX20)
def wsX2_dropAppearance : List Cond := .code yX2_dropAppearance cX2_dropAppearance 3 none :: ([.fieldLink RX2 46 "RoleDoublingPlanner$Play" "appearances" "I", .fieldLink RX2 27 "RoleDoublingPlanner$Play" "appearing" "[I", .fieldLink RX2 30 "RoleDoublingPlanner$Play" "appearingIn" "[I", .fieldLink RX2 33 "RoleDoublingPlanner$Play" "enterTime" "[I", .fieldLink RX2 36 "RoleDoublingPlanner$Play" "exitTime" "[I"] ++ wsX20)
def wsX2_rolesAt : List Cond := .code yX2_rolesAt cX2_rolesAt 4 (some .int) :: ([.fieldLink RX2 46 "RoleDoublingPlanner$Play" "appearances" "I", .fieldLink RX2 33 "RoleDoublingPlanner$Play" "enterTime" "[I", .fieldLink RX2 36 "RoleDoublingPlanner$Play" "exitTime" "[I", .fieldLink RX2 27 "RoleDoublingPlanner$Play" "appearing" "[I"] ++ wsX20)
def wsX2_rolesWith : List Cond := .code yX2_rolesWith cX2_rolesWith 4 (some .int) :: ([.fieldLink RX2 43 "RoleDoublingPlanner$Play" "roles" "I", .fieldLink RX2 24 "RoleDoublingPlanner$Play" "actor" "[I"] ++ wsX20)
def wsX3_init : List Cond := .code yX3_init cX3_init 1 none :: ([.methodLink RX3 3 objectInit, .instanceMethod objectInit, .code objectInit ⟨#[0xb1]⟩ 1 none, .arrayClass .char, .fieldLink RX3 9 "RoleDoublingPlanner$PlayText" "signs" "[C", .arrayClass .int, .fieldLink RX3 15 "RoleDoublingPlanner$PlayText" "numbers" "[I"] ++ wsX30)
def wsX3_put : List Cond := .code yX3_put cX3_put 2 none :: ([.fieldLink RX3 19 "RoleDoublingPlanner$PlayText" "length" "I", .fieldLink RX3 9 "RoleDoublingPlanner$PlayText" "signs" "[C"] ++ wsX30)
def wsJ0_coder_7d493 : List Cond := .code yJ0_coder_7d493 cJ0_coder_7d493 1 (some .byte) :: ([.fieldLink RJ0 38 "java/lang/String" "COMPACT_STRINGS" "Z", .fieldLink RJ0 15 "java/lang/String" "coder" "B"])
def wsJ0_length_8abf5 : List Cond := .code yJ0_length_8abf5 cJ0_length_8abf5 1 (some .int) :: ([.fieldLink RJ0 9 "java/lang/String" "value" "[B", .methodLink RJ0 335 yJ0_coder_7d493, .instanceMethod yJ0_coder_7d493, .selects RJ0 yJ0_coder_7d493 yJ0_coder_7d493, .initialized RJ0, .code yJ0_coder_7d493 cJ0_coder_7d493 1 (some .byte), .fieldLink RJ0 38 "java/lang/String" "COMPACT_STRINGS" "Z", .fieldLink RJ0 15 "java/lang/String" "coder" "B"])
def wsJ0_isLatin1_aae02 : List Cond := .code yJ0_isLatin1_aae02 cJ0_isLatin1_aae02 1 (some .boolean) :: ([.fieldLink RJ0 38 "java/lang/String" "COMPACT_STRINGS" "Z", .fieldLink RJ0 15 "java/lang/String" "coder" "B"])
def wsJ3_checkIndex_8e157 : List Cond := .code yJ3_checkIndex_8e157 cJ3_checkIndex_8e157 3 (some .int) :: ([])
def wsJ0_checkIndex_df160 : List Cond := .code yJ0_checkIndex_df160 cJ0_checkIndex_df160 2 none :: ([.fieldLink RJ0 1053 "jdk/internal/util/Preconditions" "SIOOBE_FORMATTER" "Ljava/util/function/BiFunction;", .methodLink RJ0 1059 yJ3_checkIndex_8e157, .static yJ3_checkIndex_8e157, .initialized RJ3, .code yJ3_checkIndex_8e157 cJ3_checkIndex_8e157 3 (some .int)])
def wsJ1_charAt_3b067 : List Cond := .code yJ1_charAt_3b067 cJ1_charAt_3b067 2 (some .char) :: ([.methodLink RJ1 9 yJ0_checkIndex_df160, .static yJ0_checkIndex_df160, .initialized RJ0, .code yJ0_checkIndex_df160 cJ0_checkIndex_df160 2 none, .fieldLink RJ0 1053 "jdk/internal/util/Preconditions" "SIOOBE_FORMATTER" "Ljava/util/function/BiFunction;", .methodLink RJ0 1059 yJ3_checkIndex_8e157, .static yJ3_checkIndex_8e157, .initialized RJ3, .code yJ3_checkIndex_8e157 cJ3_checkIndex_8e157 3 (some .int)])
def wsJ2_length_9d52b : List Cond := .code yJ2_length_9d52b cJ2_length_9d52b 1 (some .int) :: ([])
def wsJ2_checkIndex_2214a : List Cond := .code yJ2_checkIndex_2214a cJ2_checkIndex_2214a 2 none :: ([.methodLink RJ2 48 yJ2_length_9d52b, .static yJ2_length_9d52b, .initialized RJ2, .code yJ2_length_9d52b cJ2_length_9d52b 1 (some .int), .methodLink RJ2 414 yJ0_checkIndex_df160, .static yJ0_checkIndex_df160, .initialized RJ0, .code yJ0_checkIndex_df160 cJ0_checkIndex_df160 2 none, .fieldLink RJ0 1053 "jdk/internal/util/Preconditions" "SIOOBE_FORMATTER" "Ljava/util/function/BiFunction;", .methodLink RJ0 1059 yJ3_checkIndex_8e157, .static yJ3_checkIndex_8e157, .initialized RJ3, .code yJ3_checkIndex_8e157 cJ3_checkIndex_8e157 3 (some .int)])
def wsJ2_getChar_3b067 : List Cond := .code yJ2_getChar_3b067 cJ2_getChar_3b067 2 (some .char) :: ([.fieldLink RJ2 44 "java/lang/StringUTF16" "$assertionsDisabled" "Z", .fieldLink RJ2 59 "java/lang/StringUTF16" "HI_BYTE_SHIFT" "I", .fieldLink RJ2 63 "java/lang/StringUTF16" "LO_BYTE_SHIFT" "I", .methodLink RJ2 48 yJ2_length_9d52b, .static yJ2_length_9d52b, .initialized RJ2, .code yJ2_length_9d52b cJ2_length_9d52b 1 (some .int)])
def wsJ2_charAt_3b067 : List Cond := .code yJ2_charAt_3b067 cJ2_charAt_3b067 2 (some .char) :: ([.methodLink RJ2 67 yJ2_checkIndex_2214a, .static yJ2_checkIndex_2214a, .initialized RJ2, .code yJ2_checkIndex_2214a cJ2_checkIndex_2214a 2 none, .methodLink RJ2 48 yJ2_length_9d52b, .static yJ2_length_9d52b, .code yJ2_length_9d52b cJ2_length_9d52b 1 (some .int), .methodLink RJ2 414 yJ0_checkIndex_df160, .static yJ0_checkIndex_df160, .initialized RJ0, .code yJ0_checkIndex_df160 cJ0_checkIndex_df160 2 none, .fieldLink RJ0 1053 "jdk/internal/util/Preconditions" "SIOOBE_FORMATTER" "Ljava/util/function/BiFunction;", .methodLink RJ0 1059 yJ3_checkIndex_8e157, .static yJ3_checkIndex_8e157, .initialized RJ3, .code yJ3_checkIndex_8e157 cJ3_checkIndex_8e157 3 (some .int), .methodLink RJ2 71 yJ2_getChar_3b067, .static yJ2_getChar_3b067, .code yJ2_getChar_3b067 cJ2_getChar_3b067 2 (some .char), .fieldLink RJ2 44 "java/lang/StringUTF16" "$assertionsDisabled" "Z", .fieldLink RJ2 59 "java/lang/StringUTF16" "HI_BYTE_SHIFT" "I", .fieldLink RJ2 63 "java/lang/StringUTF16" "LO_BYTE_SHIFT" "I"])
def wsJ0_charAt_5068e_r1 : List Cond := [Cond.fieldLink RJ0 9 "java/lang/String" "value" "[B", Cond.methodLink RJ0 492 yJ0_isLatin1_aae02, Cond.instanceMethod yJ0_isLatin1_aae02, Cond.selects RJ0 yJ0_isLatin1_aae02 yJ0_isLatin1_aae02, Cond.initialized RJ0, Cond.code yJ0_isLatin1_aae02 cJ0_isLatin1_aae02 1 (some .boolean), Cond.fieldLink RJ0 38 "java/lang/String" "COMPACT_STRINGS" "Z", Cond.fieldLink RJ0 15 "java/lang/String" "coder" "B", Cond.methodLink RJ0 495 yJ1_charAt_3b067, Cond.static yJ1_charAt_3b067, Cond.initialized RJ1, Cond.code yJ1_charAt_3b067 cJ1_charAt_3b067 2 (some .char), Cond.methodLink RJ1 9 yJ0_checkIndex_df160, Cond.static yJ0_checkIndex_df160, Cond.code yJ0_checkIndex_df160 cJ0_checkIndex_df160 2 none, Cond.fieldLink RJ0 1053 "jdk/internal/util/Preconditions" "SIOOBE_FORMATTER" "Ljava/util/function/BiFunction;", Cond.methodLink RJ0 1059 yJ3_checkIndex_8e157, Cond.static yJ3_checkIndex_8e157, Cond.initialized RJ3, Cond.code yJ3_checkIndex_8e157 cJ3_checkIndex_8e157 3 (some .int), Cond.methodLink RJ0 498 yJ2_charAt_3b067, Cond.static yJ2_charAt_3b067, Cond.initialized RJ2, Cond.code yJ2_charAt_3b067 cJ2_charAt_3b067 2 (some .char)]
def wsJ0_charAt_5068e_r2 : List Cond := [Cond.methodLink RJ2 67 yJ2_checkIndex_2214a, Cond.static yJ2_checkIndex_2214a, Cond.code yJ2_checkIndex_2214a cJ2_checkIndex_2214a 2 none, Cond.methodLink RJ2 48 yJ2_length_9d52b, Cond.static yJ2_length_9d52b, Cond.code yJ2_length_9d52b cJ2_length_9d52b 1 (some .int), Cond.methodLink RJ2 414 yJ0_checkIndex_df160, Cond.methodLink RJ2 71 yJ2_getChar_3b067, Cond.static yJ2_getChar_3b067, Cond.code yJ2_getChar_3b067 cJ2_getChar_3b067 2 (some .char), Cond.fieldLink RJ2 44 "java/lang/StringUTF16" "$assertionsDisabled" "Z", Cond.fieldLink RJ2 59 "java/lang/StringUTF16" "HI_BYTE_SHIFT" "I", Cond.fieldLink RJ2 63 "java/lang/StringUTF16" "LO_BYTE_SHIFT" "I"]
def wsJ0_charAt_5068e : List Cond := .code yJ0_charAt_5068e cJ0_charAt_5068e 2 (some .char) :: ((wsJ0_charAt_5068e_r1 ++ wsJ0_charAt_5068e_r2))
def wsX3_putAll_r1 : List Cond := [Cond.methodLink RX3 23 yJ0_length_8abf5, Cond.instanceMethod yJ0_length_8abf5, Cond.selects RJ0 yJ0_length_8abf5 yJ0_length_8abf5, Cond.initialized RJ0, Cond.code yJ0_length_8abf5 cJ0_length_8abf5 1 (some .int), Cond.fieldLink RJ0 9 "java/lang/String" "value" "[B", Cond.methodLink RJ0 335 yJ0_coder_7d493, Cond.instanceMethod yJ0_coder_7d493, Cond.selects RJ0 yJ0_coder_7d493 yJ0_coder_7d493, Cond.code yJ0_coder_7d493 cJ0_coder_7d493 1 (some .byte), Cond.fieldLink RJ0 38 "java/lang/String" "COMPACT_STRINGS" "Z", Cond.fieldLink RJ0 15 "java/lang/String" "coder" "B", Cond.methodLink RX3 28 yJ0_charAt_5068e, Cond.instanceMethod yJ0_charAt_5068e, Cond.selects RJ0 yJ0_charAt_5068e yJ0_charAt_5068e, Cond.code yJ0_charAt_5068e cJ0_charAt_5068e 2 (some .char), Cond.methodLink RJ0 492 yJ0_isLatin1_aae02, Cond.instanceMethod yJ0_isLatin1_aae02, Cond.selects RJ0 yJ0_isLatin1_aae02 yJ0_isLatin1_aae02, Cond.code yJ0_isLatin1_aae02 cJ0_isLatin1_aae02 1 (some .boolean), Cond.methodLink RJ0 495 yJ1_charAt_3b067, Cond.static yJ1_charAt_3b067, Cond.initialized RJ1, Cond.code yJ1_charAt_3b067 cJ1_charAt_3b067 2 (some .char)]
def wsX3_putAll_r2 : List Cond := [Cond.methodLink RJ1 9 yJ0_checkIndex_df160, Cond.static yJ0_checkIndex_df160, Cond.code yJ0_checkIndex_df160 cJ0_checkIndex_df160 2 none, Cond.fieldLink RJ0 1053 "jdk/internal/util/Preconditions" "SIOOBE_FORMATTER" "Ljava/util/function/BiFunction;", Cond.methodLink RJ0 1059 yJ3_checkIndex_8e157, Cond.static yJ3_checkIndex_8e157, Cond.initialized RJ3, Cond.code yJ3_checkIndex_8e157 cJ3_checkIndex_8e157 3 (some .int), Cond.methodLink RJ0 498 yJ2_charAt_3b067, Cond.static yJ2_charAt_3b067, Cond.initialized RJ2, Cond.code yJ2_charAt_3b067 cJ2_charAt_3b067 2 (some .char), Cond.methodLink RJ2 67 yJ2_checkIndex_2214a, Cond.static yJ2_checkIndex_2214a, Cond.code yJ2_checkIndex_2214a cJ2_checkIndex_2214a 2 none, Cond.methodLink RJ2 48 yJ2_length_9d52b, Cond.static yJ2_length_9d52b, Cond.code yJ2_length_9d52b cJ2_length_9d52b 1 (some .int), Cond.methodLink RJ2 414 yJ0_checkIndex_df160, Cond.methodLink RJ2 71 yJ2_getChar_3b067, Cond.static yJ2_getChar_3b067, Cond.code yJ2_getChar_3b067 cJ2_getChar_3b067 2 (some .char), Cond.fieldLink RJ2 44 "java/lang/StringUTF16" "$assertionsDisabled" "Z", Cond.fieldLink RJ2 59 "java/lang/StringUTF16" "HI_BYTE_SHIFT" "I"]
def wsX3_putAll_r3 : List Cond := [Cond.fieldLink RJ2 63 "java/lang/StringUTF16" "LO_BYTE_SHIFT" "I", Cond.methodLink RX3 32 yX3_put, Cond.instanceMethod yX3_put, Cond.selects RX3 yX3_put yX3_put, Cond.initialized RX3, Cond.code yX3_put cX3_put 2 none, Cond.fieldLink RX3 19 "RoleDoublingPlanner$PlayText" "length" "I", Cond.fieldLink RX3 9 "RoleDoublingPlanner$PlayText" "signs" "[C"]
def wsX3_putAll : List Cond := .code yX3_putAll cX3_putAll 3 none :: ((wsX3_putAll_r1 ++ (wsX3_putAll_r2 ++ wsX3_putAll_r3)) ++ wsX30)
def wsX3_readWord : List Cond := .code yX3_readWord cX3_readWord 1 none :: ([.fieldLink RX3 41 "RoleDoublingPlanner$PlayText" "place" "I", .fieldLink RX3 102 "RoleDoublingPlanner$PlayText" "wordStart" "I", .fieldLink RX3 19 "RoleDoublingPlanner$PlayText" "length" "I", .fieldLink RX3 9 "RoleDoublingPlanner$PlayText" "signs" "[C"] ++ wsX30)
def wsX3_wordIs_r1 : List Cond := [Cond.fieldLink RX3 41 "RoleDoublingPlanner$PlayText" "place" "I", Cond.fieldLink RX3 102 "RoleDoublingPlanner$PlayText" "wordStart" "I", Cond.fieldLink RX3 9 "RoleDoublingPlanner$PlayText" "signs" "[C", Cond.methodLink RX3 23 yJ0_length_8abf5, Cond.instanceMethod yJ0_length_8abf5, Cond.selects RJ0 yJ0_length_8abf5 yJ0_length_8abf5, Cond.initialized RJ0, Cond.code yJ0_length_8abf5 cJ0_length_8abf5 1 (some .int), Cond.fieldLink RJ0 9 "java/lang/String" "value" "[B", Cond.methodLink RJ0 335 yJ0_coder_7d493, Cond.instanceMethod yJ0_coder_7d493, Cond.selects RJ0 yJ0_coder_7d493 yJ0_coder_7d493, Cond.code yJ0_coder_7d493 cJ0_coder_7d493 1 (some .byte), Cond.fieldLink RJ0 38 "java/lang/String" "COMPACT_STRINGS" "Z", Cond.fieldLink RJ0 15 "java/lang/String" "coder" "B", Cond.methodLink RX3 28 yJ0_charAt_5068e, Cond.instanceMethod yJ0_charAt_5068e, Cond.selects RJ0 yJ0_charAt_5068e yJ0_charAt_5068e, Cond.code yJ0_charAt_5068e cJ0_charAt_5068e 2 (some .char), Cond.methodLink RJ0 492 yJ0_isLatin1_aae02, Cond.instanceMethod yJ0_isLatin1_aae02, Cond.selects RJ0 yJ0_isLatin1_aae02 yJ0_isLatin1_aae02, Cond.code yJ0_isLatin1_aae02 cJ0_isLatin1_aae02 1 (some .boolean), Cond.methodLink RJ0 495 yJ1_charAt_3b067]
def wsX3_wordIs_r2 : List Cond := [Cond.static yJ1_charAt_3b067, Cond.initialized RJ1, Cond.code yJ1_charAt_3b067 cJ1_charAt_3b067 2 (some .char), Cond.methodLink RJ1 9 yJ0_checkIndex_df160, Cond.static yJ0_checkIndex_df160, Cond.code yJ0_checkIndex_df160 cJ0_checkIndex_df160 2 none, Cond.fieldLink RJ0 1053 "jdk/internal/util/Preconditions" "SIOOBE_FORMATTER" "Ljava/util/function/BiFunction;", Cond.methodLink RJ0 1059 yJ3_checkIndex_8e157, Cond.static yJ3_checkIndex_8e157, Cond.initialized RJ3, Cond.code yJ3_checkIndex_8e157 cJ3_checkIndex_8e157 3 (some .int), Cond.methodLink RJ0 498 yJ2_charAt_3b067, Cond.static yJ2_charAt_3b067, Cond.initialized RJ2, Cond.code yJ2_charAt_3b067 cJ2_charAt_3b067 2 (some .char), Cond.methodLink RJ2 67 yJ2_checkIndex_2214a, Cond.static yJ2_checkIndex_2214a, Cond.code yJ2_checkIndex_2214a cJ2_checkIndex_2214a 2 none, Cond.methodLink RJ2 48 yJ2_length_9d52b, Cond.static yJ2_length_9d52b, Cond.code yJ2_length_9d52b cJ2_length_9d52b 1 (some .int), Cond.methodLink RJ2 414 yJ0_checkIndex_df160, Cond.methodLink RJ2 71 yJ2_getChar_3b067, Cond.static yJ2_getChar_3b067]
def wsX3_wordIs_r3 : List Cond := [Cond.code yJ2_getChar_3b067 cJ2_getChar_3b067 2 (some .char), Cond.fieldLink RJ2 44 "java/lang/StringUTF16" "$assertionsDisabled" "Z", Cond.fieldLink RJ2 59 "java/lang/StringUTF16" "HI_BYTE_SHIFT" "I", Cond.fieldLink RJ2 63 "java/lang/StringUTF16" "LO_BYTE_SHIFT" "I"]
def wsX3_wordIs : List Cond := .code yX3_wordIs cX3_wordIs 3 (some .boolean) :: ((wsX3_wordIs_r1 ++ (wsX3_wordIs_r2 ++ wsX3_wordIs_r3)) ++ wsX30)
def wsX3_readSign : List Cond := .code yX3_readSign cX3_readSign 2 (some .boolean) :: ([.fieldLink RX3 41 "RoleDoublingPlanner$PlayText" "place" "I", .fieldLink RX3 19 "RoleDoublingPlanner$PlayText" "length" "I", .fieldLink RX3 9 "RoleDoublingPlanner$PlayText" "signs" "[C"] ++ wsX30)
def wsX3_wordAsNumber : List Cond := .code yX3_wordAsNumber cX3_wordAsNumber 4 (some .int) :: ([.fieldLink RX3 41 "RoleDoublingPlanner$PlayText" "place" "I", .fieldLink RX3 102 "RoleDoublingPlanner$PlayText" "wordStart" "I", .fieldLink RX3 9 "RoleDoublingPlanner$PlayText" "signs" "[C"] ++ wsX30)
def wsX3_readNumbersAndEnd : List Cond := .code yX3_readNumbersAndEnd cX3_readNumbersAndEnd 3 (some .boolean) :: ([.fieldLink RX3 15 "RoleDoublingPlanner$PlayText" "numbers" "[I", .methodLink RX3 84 yX3_readSign, .instanceMethod yX3_readSign, .selects RX3 yX3_readSign yX3_readSign, .initialized RX3, .code yX3_readSign cX3_readSign 2 (some .boolean), .fieldLink RX3 41 "RoleDoublingPlanner$PlayText" "place" "I", .fieldLink RX3 19 "RoleDoublingPlanner$PlayText" "length" "I", .fieldLink RX3 9 "RoleDoublingPlanner$PlayText" "signs" "[C", .methodLink RX3 54 yX3_readWord, .instanceMethod yX3_readWord, .selects RX3 yX3_readWord yX3_readWord, .code yX3_readWord cX3_readWord 1 none, .fieldLink RX3 102 "RoleDoublingPlanner$PlayText" "wordStart" "I", .methodLink RX3 99 yX3_wordAsNumber, .instanceMethod yX3_wordAsNumber, .selects RX3 yX3_wordAsNumber yX3_wordAsNumber, .code yX3_wordAsNumber cX3_wordAsNumber 4 (some .int)] ++ wsX30)
def wsX3_readScene_r1 : List Cond := [Cond.fieldLink RX3 15 "RoleDoublingPlanner$PlayText" "numbers" "[I", Cond.methodLink RX3 76 yX3_readNumbersAndEnd, Cond.instanceMethod yX3_readNumbersAndEnd, Cond.selects RX3 yX3_readNumbersAndEnd yX3_readNumbersAndEnd, Cond.initialized RX3, Cond.code yX3_readNumbersAndEnd cX3_readNumbersAndEnd 3 (some .boolean), Cond.methodLink RX3 84 yX3_readSign, Cond.instanceMethod yX3_readSign, Cond.selects RX3 yX3_readSign yX3_readSign, Cond.code yX3_readSign cX3_readSign 2 (some .boolean), Cond.fieldLink RX3 41 "RoleDoublingPlanner$PlayText" "place" "I", Cond.fieldLink RX3 19 "RoleDoublingPlanner$PlayText" "length" "I", Cond.fieldLink RX3 9 "RoleDoublingPlanner$PlayText" "signs" "[C", Cond.methodLink RX3 54 yX3_readWord, Cond.instanceMethod yX3_readWord, Cond.selects RX3 yX3_readWord yX3_readWord, Cond.code yX3_readWord cX3_readWord 1 none, Cond.fieldLink RX3 102 "RoleDoublingPlanner$PlayText" "wordStart" "I", Cond.methodLink RX3 99 yX3_wordAsNumber, Cond.instanceMethod yX3_wordAsNumber, Cond.selects RX3 yX3_wordAsNumber yX3_wordAsNumber, Cond.code yX3_wordAsNumber cX3_wordAsNumber 4 (some .int), Cond.methodLink RX3 80 yX2_stateScene, Cond.instanceMethod yX2_stateScene]
def wsX3_readScene_r2 : List Cond := [Cond.selects RX2 yX2_stateScene yX2_stateScene, Cond.initialized RX2, Cond.code yX2_stateScene cX2_stateScene 2 (some .int), Cond.fieldLink RX2 39 "RoleDoublingPlanner$Play" "scenes" "I", Cond.fieldLink RX2 9 "RoleDoublingPlanner$Play" "sceneLength" "[I"]
def wsX3_readScene : List Cond := .code yX3_readScene cX3_readScene 2 (some .int) :: ((wsX3_readScene_r1 ++ wsX3_readScene_r2) ++ wsX30 ++ wsX20)
def wsX3_wordAsVoice_r1 : List Cond := [Cond.methodLink RX3 59 yX3_wordIs, Cond.instanceMethod yX3_wordIs, Cond.selects RX3 yX3_wordIs yX3_wordIs, Cond.initialized RX3, Cond.code yX3_wordIs cX3_wordIs 3 (some .boolean), Cond.fieldLink RX3 41 "RoleDoublingPlanner$PlayText" "place" "I", Cond.fieldLink RX3 102 "RoleDoublingPlanner$PlayText" "wordStart" "I", Cond.fieldLink RX3 9 "RoleDoublingPlanner$PlayText" "signs" "[C", Cond.methodLink RX3 23 yJ0_length_8abf5, Cond.instanceMethod yJ0_length_8abf5, Cond.selects RJ0 yJ0_length_8abf5 yJ0_length_8abf5, Cond.initialized RJ0, Cond.code yJ0_length_8abf5 cJ0_length_8abf5 1 (some .int), Cond.fieldLink RJ0 9 "java/lang/String" "value" "[B", Cond.methodLink RJ0 335 yJ0_coder_7d493, Cond.instanceMethod yJ0_coder_7d493, Cond.selects RJ0 yJ0_coder_7d493 yJ0_coder_7d493, Cond.code yJ0_coder_7d493 cJ0_coder_7d493 1 (some .byte), Cond.fieldLink RJ0 38 "java/lang/String" "COMPACT_STRINGS" "Z", Cond.fieldLink RJ0 15 "java/lang/String" "coder" "B", Cond.methodLink RX3 28 yJ0_charAt_5068e, Cond.instanceMethod yJ0_charAt_5068e, Cond.selects RJ0 yJ0_charAt_5068e yJ0_charAt_5068e, Cond.code yJ0_charAt_5068e cJ0_charAt_5068e 2 (some .char)]
def wsX3_wordAsVoice_r2 : List Cond := [Cond.methodLink RJ0 492 yJ0_isLatin1_aae02, Cond.instanceMethod yJ0_isLatin1_aae02, Cond.selects RJ0 yJ0_isLatin1_aae02 yJ0_isLatin1_aae02, Cond.code yJ0_isLatin1_aae02 cJ0_isLatin1_aae02 1 (some .boolean), Cond.methodLink RJ0 495 yJ1_charAt_3b067, Cond.static yJ1_charAt_3b067, Cond.initialized RJ1, Cond.code yJ1_charAt_3b067 cJ1_charAt_3b067 2 (some .char), Cond.methodLink RJ1 9 yJ0_checkIndex_df160, Cond.static yJ0_checkIndex_df160, Cond.code yJ0_checkIndex_df160 cJ0_checkIndex_df160 2 none, Cond.fieldLink RJ0 1053 "jdk/internal/util/Preconditions" "SIOOBE_FORMATTER" "Ljava/util/function/BiFunction;", Cond.methodLink RJ0 1059 yJ3_checkIndex_8e157, Cond.static yJ3_checkIndex_8e157, Cond.initialized RJ3, Cond.code yJ3_checkIndex_8e157 cJ3_checkIndex_8e157 3 (some .int), Cond.methodLink RJ0 498 yJ2_charAt_3b067, Cond.static yJ2_charAt_3b067, Cond.initialized RJ2, Cond.code yJ2_charAt_3b067 cJ2_charAt_3b067 2 (some .char), Cond.methodLink RJ2 67 yJ2_checkIndex_2214a, Cond.static yJ2_checkIndex_2214a, Cond.code yJ2_checkIndex_2214a cJ2_checkIndex_2214a 2 none, Cond.methodLink RJ2 48 yJ2_length_9d52b]
def wsX3_wordAsVoice_r3 : List Cond := [Cond.static yJ2_length_9d52b, Cond.code yJ2_length_9d52b cJ2_length_9d52b 1 (some .int), Cond.methodLink RJ2 414 yJ0_checkIndex_df160, Cond.methodLink RJ2 71 yJ2_getChar_3b067, Cond.static yJ2_getChar_3b067, Cond.code yJ2_getChar_3b067 cJ2_getChar_3b067 2 (some .char), Cond.fieldLink RJ2 44 "java/lang/StringUTF16" "$assertionsDisabled" "Z", Cond.fieldLink RJ2 59 "java/lang/StringUTF16" "HI_BYTE_SHIFT" "I", Cond.fieldLink RJ2 63 "java/lang/StringUTF16" "LO_BYTE_SHIFT" "I"]
def wsX3_wordAsVoice : List Cond := .code yX3_wordAsVoice cX3_wordAsVoice 1 (some .int) :: ((wsX3_wordAsVoice_r1 ++ (wsX3_wordAsVoice_r2 ++ wsX3_wordAsVoice_r3)) ++ wsX30)
def wsX3_readRole_r1 : List Cond := [Cond.fieldLink RX3 15 "RoleDoublingPlanner$PlayText" "numbers" "[I", Cond.methodLink RX3 84 yX3_readSign, Cond.instanceMethod yX3_readSign, Cond.selects RX3 yX3_readSign yX3_readSign, Cond.initialized RX3, Cond.code yX3_readSign cX3_readSign 2 (some .boolean), Cond.fieldLink RX3 41 "RoleDoublingPlanner$PlayText" "place" "I", Cond.fieldLink RX3 19 "RoleDoublingPlanner$PlayText" "length" "I", Cond.fieldLink RX3 9 "RoleDoublingPlanner$PlayText" "signs" "[C", Cond.methodLink RX3 54 yX3_readWord, Cond.instanceMethod yX3_readWord, Cond.selects RX3 yX3_readWord yX3_readWord, Cond.code yX3_readWord cX3_readWord 1 none, Cond.fieldLink RX3 102 "RoleDoublingPlanner$PlayText" "wordStart" "I", Cond.methodLink RX3 88 yX3_wordAsVoice, Cond.instanceMethod yX3_wordAsVoice, Cond.selects RX3 yX3_wordAsVoice yX3_wordAsVoice, Cond.code yX3_wordAsVoice cX3_wordAsVoice 1 (some .int), Cond.methodLink RX3 59 yX3_wordIs, Cond.instanceMethod yX3_wordIs, Cond.selects RX3 yX3_wordIs yX3_wordIs, Cond.code yX3_wordIs cX3_wordIs 3 (some .boolean), Cond.methodLink RX3 23 yJ0_length_8abf5, Cond.instanceMethod yJ0_length_8abf5]
def wsX3_readRole_r2 : List Cond := [Cond.selects RJ0 yJ0_length_8abf5 yJ0_length_8abf5, Cond.initialized RJ0, Cond.code yJ0_length_8abf5 cJ0_length_8abf5 1 (some .int), Cond.fieldLink RJ0 9 "java/lang/String" "value" "[B", Cond.methodLink RJ0 335 yJ0_coder_7d493, Cond.instanceMethod yJ0_coder_7d493, Cond.selects RJ0 yJ0_coder_7d493 yJ0_coder_7d493, Cond.code yJ0_coder_7d493 cJ0_coder_7d493 1 (some .byte), Cond.fieldLink RJ0 38 "java/lang/String" "COMPACT_STRINGS" "Z", Cond.fieldLink RJ0 15 "java/lang/String" "coder" "B", Cond.methodLink RX3 28 yJ0_charAt_5068e, Cond.instanceMethod yJ0_charAt_5068e, Cond.selects RJ0 yJ0_charAt_5068e yJ0_charAt_5068e, Cond.code yJ0_charAt_5068e cJ0_charAt_5068e 2 (some .char), Cond.methodLink RJ0 492 yJ0_isLatin1_aae02, Cond.instanceMethod yJ0_isLatin1_aae02, Cond.selects RJ0 yJ0_isLatin1_aae02 yJ0_isLatin1_aae02, Cond.code yJ0_isLatin1_aae02 cJ0_isLatin1_aae02 1 (some .boolean), Cond.methodLink RJ0 495 yJ1_charAt_3b067, Cond.static yJ1_charAt_3b067, Cond.initialized RJ1, Cond.code yJ1_charAt_3b067 cJ1_charAt_3b067 2 (some .char), Cond.methodLink RJ1 9 yJ0_checkIndex_df160, Cond.static yJ0_checkIndex_df160]
def wsX3_readRole_r3 : List Cond := [Cond.code yJ0_checkIndex_df160 cJ0_checkIndex_df160 2 none, Cond.fieldLink RJ0 1053 "jdk/internal/util/Preconditions" "SIOOBE_FORMATTER" "Ljava/util/function/BiFunction;", Cond.methodLink RJ0 1059 yJ3_checkIndex_8e157, Cond.static yJ3_checkIndex_8e157, Cond.initialized RJ3, Cond.code yJ3_checkIndex_8e157 cJ3_checkIndex_8e157 3 (some .int), Cond.methodLink RJ0 498 yJ2_charAt_3b067, Cond.static yJ2_charAt_3b067, Cond.initialized RJ2, Cond.code yJ2_charAt_3b067 cJ2_charAt_3b067 2 (some .char), Cond.methodLink RJ2 67 yJ2_checkIndex_2214a, Cond.static yJ2_checkIndex_2214a, Cond.code yJ2_checkIndex_2214a cJ2_checkIndex_2214a 2 none, Cond.methodLink RJ2 48 yJ2_length_9d52b, Cond.static yJ2_length_9d52b, Cond.code yJ2_length_9d52b cJ2_length_9d52b 1 (some .int), Cond.methodLink RJ2 414 yJ0_checkIndex_df160, Cond.methodLink RJ2 71 yJ2_getChar_3b067, Cond.static yJ2_getChar_3b067, Cond.code yJ2_getChar_3b067 cJ2_getChar_3b067 2 (some .char), Cond.fieldLink RJ2 44 "java/lang/StringUTF16" "$assertionsDisabled" "Z", Cond.fieldLink RJ2 59 "java/lang/StringUTF16" "HI_BYTE_SHIFT" "I", Cond.fieldLink RJ2 63 "java/lang/StringUTF16" "LO_BYTE_SHIFT" "I", Cond.methodLink RX3 76 yX3_readNumbersAndEnd]
def wsX3_readRole_r4 : List Cond := [Cond.instanceMethod yX3_readNumbersAndEnd, Cond.selects RX3 yX3_readNumbersAndEnd yX3_readNumbersAndEnd, Cond.code yX3_readNumbersAndEnd cX3_readNumbersAndEnd 3 (some .boolean), Cond.methodLink RX3 99 yX3_wordAsNumber, Cond.instanceMethod yX3_wordAsNumber, Cond.selects RX3 yX3_wordAsNumber yX3_wordAsNumber, Cond.code yX3_wordAsNumber cX3_wordAsNumber 4 (some .int), Cond.methodLink RX3 91 yX2_stateRole, Cond.instanceMethod yX2_stateRole, Cond.selects RX2 yX2_stateRole yX2_stateRole, Cond.initialized RX2, Cond.code yX2_stateRole cX2_stateRole 4 (some .int), Cond.fieldLink RX2 43 "RoleDoublingPlanner$Play" "roles" "I", Cond.fieldLink RX2 15 "RoleDoublingPlanner$Play" "voice" "[I", Cond.fieldLink RX2 18 "RoleDoublingPlanner$Play" "out" "[I", Cond.fieldLink RX2 21 "RoleDoublingPlanner$Play" "in" "[I", Cond.fieldLink RX2 24 "RoleDoublingPlanner$Play" "actor" "[I", Cond.static yX5_isCostumeTime, Cond.initialized RX5, Cond.code yX5_isCostumeTime cX5_isCostumeTime 1 (some .boolean)]
def wsX3_readRole : List Cond := .code yX3_readRole cX3_readRole 3 (some .int) :: ((wsX3_readRole_r1 ++ (wsX3_readRole_r2 ++ (wsX3_readRole_r3 ++ wsX3_readRole_r4))) ++ wsX30 ++ wsX20)
def wsX3_readEnter_r1 : List Cond := [Cond.fieldLink RX3 15 "RoleDoublingPlanner$PlayText" "numbers" "[I", Cond.methodLink RX3 76 yX3_readNumbersAndEnd, Cond.instanceMethod yX3_readNumbersAndEnd, Cond.selects RX3 yX3_readNumbersAndEnd yX3_readNumbersAndEnd, Cond.initialized RX3, Cond.code yX3_readNumbersAndEnd cX3_readNumbersAndEnd 3 (some .boolean), Cond.methodLink RX3 84 yX3_readSign, Cond.instanceMethod yX3_readSign, Cond.selects RX3 yX3_readSign yX3_readSign, Cond.code yX3_readSign cX3_readSign 2 (some .boolean), Cond.fieldLink RX3 41 "RoleDoublingPlanner$PlayText" "place" "I", Cond.fieldLink RX3 19 "RoleDoublingPlanner$PlayText" "length" "I", Cond.fieldLink RX3 9 "RoleDoublingPlanner$PlayText" "signs" "[C", Cond.methodLink RX3 54 yX3_readWord, Cond.instanceMethod yX3_readWord, Cond.selects RX3 yX3_readWord yX3_readWord, Cond.code yX3_readWord cX3_readWord 1 none, Cond.fieldLink RX3 102 "RoleDoublingPlanner$PlayText" "wordStart" "I", Cond.methodLink RX3 99 yX3_wordAsNumber, Cond.instanceMethod yX3_wordAsNumber, Cond.selects RX3 yX3_wordAsNumber yX3_wordAsNumber, Cond.code yX3_wordAsNumber cX3_wordAsNumber 4 (some .int), Cond.methodLink RX3 95 yX2_stateAppearance, Cond.instanceMethod yX2_stateAppearance]
def wsX3_readEnter_r2 : List Cond := [Cond.selects RX2 yX2_stateAppearance yX2_stateAppearance, Cond.initialized RX2, Cond.code yX2_stateAppearance cX2_stateAppearance 5 (some .int), Cond.fieldLink RX2 46 "RoleDoublingPlanner$Play" "appearances" "I", Cond.methodLink RX2 65 yX2_admits, Cond.instanceMethod yX2_admits, Cond.selects RX2 yX2_admits yX2_admits, Cond.code yX2_admits cX2_admits 5 (some .boolean), Cond.fieldLink RX2 9 "RoleDoublingPlanner$Play" "sceneLength" "[I", Cond.methodLink RX2 55 yX2_hasRole, Cond.instanceMethod yX2_hasRole, Cond.selects RX2 yX2_hasRole yX2_hasRole, Cond.code yX2_hasRole cX2_hasRole 2 (some .boolean), Cond.fieldLink RX2 43 "RoleDoublingPlanner$Play" "roles" "I", Cond.methodLink RX2 59 yX2_hasScene, Cond.instanceMethod yX2_hasScene, Cond.selects RX2 yX2_hasScene yX2_hasScene, Cond.code yX2_hasScene cX2_hasScene 2 (some .boolean), Cond.fieldLink RX2 39 "RoleDoublingPlanner$Play" "scenes" "I", Cond.methodLink RX2 69 yX2_putAppearance, Cond.instanceMethod yX2_putAppearance, Cond.selects RX2 yX2_putAppearance yX2_putAppearance, Cond.code yX2_putAppearance cX2_putAppearance 6 none, Cond.fieldLink RX2 27 "RoleDoublingPlanner$Play" "appearing" "[I"]
def wsX3_readEnter_r3 : List Cond := [Cond.fieldLink RX2 30 "RoleDoublingPlanner$Play" "appearingIn" "[I", Cond.fieldLink RX2 33 "RoleDoublingPlanner$Play" "enterTime" "[I", Cond.fieldLink RX2 36 "RoleDoublingPlanner$Play" "exitTime" "[I", Cond.methodLink RX2 73 yX2_startOf, Cond.instanceMethod yX2_startOf, Cond.selects RX2 yX2_startOf yX2_startOf, Cond.code yX2_startOf cX2_startOf 4 (some .int)]
def wsX3_readEnter : List Cond := .code yX3_readEnter cX3_readEnter 2 (some .int) :: ((wsX3_readEnter_r1 ++ (wsX3_readEnter_r2 ++ wsX3_readEnter_r3)) ++ wsX30 ++ wsX20)
def wsX3_readStatement_r1 : List Cond := [Cond.methodLink RX3 54 yX3_readWord, Cond.instanceMethod yX3_readWord, Cond.selects RX3 yX3_readWord yX3_readWord, Cond.initialized RX3, Cond.code yX3_readWord cX3_readWord 1 none, Cond.fieldLink RX3 41 "RoleDoublingPlanner$PlayText" "place" "I", Cond.fieldLink RX3 102 "RoleDoublingPlanner$PlayText" "wordStart" "I", Cond.fieldLink RX3 19 "RoleDoublingPlanner$PlayText" "length" "I", Cond.fieldLink RX3 9 "RoleDoublingPlanner$PlayText" "signs" "[C", Cond.methodLink RX3 59 yX3_wordIs, Cond.instanceMethod yX3_wordIs, Cond.selects RX3 yX3_wordIs yX3_wordIs, Cond.code yX3_wordIs cX3_wordIs 3 (some .boolean), Cond.methodLink RX3 23 yJ0_length_8abf5, Cond.instanceMethod yJ0_length_8abf5, Cond.selects RJ0 yJ0_length_8abf5 yJ0_length_8abf5, Cond.initialized RJ0, Cond.code yJ0_length_8abf5 cJ0_length_8abf5 1 (some .int), Cond.fieldLink RJ0 9 "java/lang/String" "value" "[B", Cond.methodLink RJ0 335 yJ0_coder_7d493, Cond.instanceMethod yJ0_coder_7d493, Cond.selects RJ0 yJ0_coder_7d493 yJ0_coder_7d493, Cond.code yJ0_coder_7d493 cJ0_coder_7d493 1 (some .byte), Cond.fieldLink RJ0 38 "java/lang/String" "COMPACT_STRINGS" "Z"]
def wsX3_readStatement_r2 : List Cond := [Cond.fieldLink RJ0 15 "java/lang/String" "coder" "B", Cond.methodLink RX3 28 yJ0_charAt_5068e, Cond.instanceMethod yJ0_charAt_5068e, Cond.selects RJ0 yJ0_charAt_5068e yJ0_charAt_5068e, Cond.code yJ0_charAt_5068e cJ0_charAt_5068e 2 (some .char), Cond.methodLink RJ0 492 yJ0_isLatin1_aae02, Cond.instanceMethod yJ0_isLatin1_aae02, Cond.selects RJ0 yJ0_isLatin1_aae02 yJ0_isLatin1_aae02, Cond.code yJ0_isLatin1_aae02 cJ0_isLatin1_aae02 1 (some .boolean), Cond.methodLink RJ0 495 yJ1_charAt_3b067, Cond.static yJ1_charAt_3b067, Cond.initialized RJ1, Cond.code yJ1_charAt_3b067 cJ1_charAt_3b067 2 (some .char), Cond.methodLink RJ1 9 yJ0_checkIndex_df160, Cond.static yJ0_checkIndex_df160, Cond.code yJ0_checkIndex_df160 cJ0_checkIndex_df160 2 none, Cond.fieldLink RJ0 1053 "jdk/internal/util/Preconditions" "SIOOBE_FORMATTER" "Ljava/util/function/BiFunction;", Cond.methodLink RJ0 1059 yJ3_checkIndex_8e157, Cond.static yJ3_checkIndex_8e157, Cond.initialized RJ3, Cond.code yJ3_checkIndex_8e157 cJ3_checkIndex_8e157 3 (some .int), Cond.methodLink RJ0 498 yJ2_charAt_3b067, Cond.static yJ2_charAt_3b067, Cond.initialized RJ2]
def wsX3_readStatement_r3 : List Cond := [Cond.code yJ2_charAt_3b067 cJ2_charAt_3b067 2 (some .char), Cond.methodLink RJ2 67 yJ2_checkIndex_2214a, Cond.static yJ2_checkIndex_2214a, Cond.code yJ2_checkIndex_2214a cJ2_checkIndex_2214a 2 none, Cond.methodLink RJ2 48 yJ2_length_9d52b, Cond.static yJ2_length_9d52b, Cond.code yJ2_length_9d52b cJ2_length_9d52b 1 (some .int), Cond.methodLink RJ2 414 yJ0_checkIndex_df160, Cond.methodLink RJ2 71 yJ2_getChar_3b067, Cond.static yJ2_getChar_3b067, Cond.code yJ2_getChar_3b067 cJ2_getChar_3b067 2 (some .char), Cond.fieldLink RJ2 44 "java/lang/StringUTF16" "$assertionsDisabled" "Z", Cond.fieldLink RJ2 59 "java/lang/StringUTF16" "HI_BYTE_SHIFT" "I", Cond.fieldLink RJ2 63 "java/lang/StringUTF16" "LO_BYTE_SHIFT" "I", Cond.methodLink RX3 63 yX3_readScene, Cond.instanceMethod yX3_readScene, Cond.selects RX3 yX3_readScene yX3_readScene, Cond.code yX3_readScene cX3_readScene 2 (some .int), Cond.fieldLink RX3 15 "RoleDoublingPlanner$PlayText" "numbers" "[I", Cond.methodLink RX3 76 yX3_readNumbersAndEnd, Cond.instanceMethod yX3_readNumbersAndEnd, Cond.selects RX3 yX3_readNumbersAndEnd yX3_readNumbersAndEnd, Cond.code yX3_readNumbersAndEnd cX3_readNumbersAndEnd 3 (some .boolean), Cond.methodLink RX3 84 yX3_readSign]
def wsX3_readStatement_r4 : List Cond := [Cond.instanceMethod yX3_readSign, Cond.selects RX3 yX3_readSign yX3_readSign, Cond.code yX3_readSign cX3_readSign 2 (some .boolean), Cond.methodLink RX3 99 yX3_wordAsNumber, Cond.instanceMethod yX3_wordAsNumber, Cond.selects RX3 yX3_wordAsNumber yX3_wordAsNumber, Cond.code yX3_wordAsNumber cX3_wordAsNumber 4 (some .int), Cond.methodLink RX3 80 yX2_stateScene, Cond.instanceMethod yX2_stateScene, Cond.selects RX2 yX2_stateScene yX2_stateScene, Cond.initialized RX2, Cond.code yX2_stateScene cX2_stateScene 2 (some .int), Cond.fieldLink RX2 39 "RoleDoublingPlanner$Play" "scenes" "I", Cond.fieldLink RX2 9 "RoleDoublingPlanner$Play" "sceneLength" "[I", Cond.methodLink RX3 68 yX3_readRole, Cond.instanceMethod yX3_readRole, Cond.selects RX3 yX3_readRole yX3_readRole, Cond.code yX3_readRole cX3_readRole 3 (some .int), Cond.methodLink RX3 88 yX3_wordAsVoice, Cond.instanceMethod yX3_wordAsVoice, Cond.selects RX3 yX3_wordAsVoice yX3_wordAsVoice, Cond.code yX3_wordAsVoice cX3_wordAsVoice 1 (some .int), Cond.methodLink RX3 91 yX2_stateRole, Cond.instanceMethod yX2_stateRole]
def wsX3_readStatement_r5 : List Cond := [Cond.selects RX2 yX2_stateRole yX2_stateRole, Cond.code yX2_stateRole cX2_stateRole 4 (some .int), Cond.fieldLink RX2 43 "RoleDoublingPlanner$Play" "roles" "I", Cond.fieldLink RX2 15 "RoleDoublingPlanner$Play" "voice" "[I", Cond.fieldLink RX2 18 "RoleDoublingPlanner$Play" "out" "[I", Cond.fieldLink RX2 21 "RoleDoublingPlanner$Play" "in" "[I", Cond.fieldLink RX2 24 "RoleDoublingPlanner$Play" "actor" "[I", Cond.static yX5_isCostumeTime, Cond.initialized RX5, Cond.code yX5_isCostumeTime cX5_isCostumeTime 1 (some .boolean), Cond.methodLink RX3 73 yX3_readEnter, Cond.instanceMethod yX3_readEnter, Cond.selects RX3 yX3_readEnter yX3_readEnter, Cond.code yX3_readEnter cX3_readEnter 2 (some .int), Cond.methodLink RX3 95 yX2_stateAppearance, Cond.instanceMethod yX2_stateAppearance, Cond.selects RX2 yX2_stateAppearance yX2_stateAppearance, Cond.code yX2_stateAppearance cX2_stateAppearance 5 (some .int), Cond.fieldLink RX2 46 "RoleDoublingPlanner$Play" "appearances" "I", Cond.methodLink RX2 65 yX2_admits, Cond.instanceMethod yX2_admits, Cond.selects RX2 yX2_admits yX2_admits, Cond.code yX2_admits cX2_admits 5 (some .boolean), Cond.methodLink RX2 55 yX2_hasRole]
def wsX3_readStatement_r6 : List Cond := [Cond.instanceMethod yX2_hasRole, Cond.selects RX2 yX2_hasRole yX2_hasRole, Cond.code yX2_hasRole cX2_hasRole 2 (some .boolean), Cond.methodLink RX2 59 yX2_hasScene, Cond.instanceMethod yX2_hasScene, Cond.selects RX2 yX2_hasScene yX2_hasScene, Cond.code yX2_hasScene cX2_hasScene 2 (some .boolean), Cond.methodLink RX2 69 yX2_putAppearance, Cond.instanceMethod yX2_putAppearance, Cond.selects RX2 yX2_putAppearance yX2_putAppearance, Cond.code yX2_putAppearance cX2_putAppearance 6 none, Cond.fieldLink RX2 27 "RoleDoublingPlanner$Play" "appearing" "[I", Cond.fieldLink RX2 30 "RoleDoublingPlanner$Play" "appearingIn" "[I", Cond.fieldLink RX2 33 "RoleDoublingPlanner$Play" "enterTime" "[I", Cond.fieldLink RX2 36 "RoleDoublingPlanner$Play" "exitTime" "[I", Cond.methodLink RX2 73 yX2_startOf, Cond.instanceMethod yX2_startOf, Cond.selects RX2 yX2_startOf yX2_startOf, Cond.code yX2_startOf cX2_startOf 4 (some .int)]
def wsX3_readStatement : List Cond := .code yX3_readStatement cX3_readStatement 2 (some .int) :: ((wsX3_readStatement_r1 ++ (wsX3_readStatement_r2 ++ (wsX3_readStatement_r3 ++ (wsX3_readStatement_r4 ++ (wsX3_readStatement_r5 ++ wsX3_readStatement_r6))))) ++ wsX30 ++ wsX20)
def wsX3_readInto_r1 : List Cond := [Cond.fieldLink RX3 41 "RoleDoublingPlanner$PlayText" "place" "I", Cond.fieldLink RX3 44 "RoleDoublingPlanner$PlayText" "reason" "I", Cond.fieldLink RX3 19 "RoleDoublingPlanner$PlayText" "length" "I", Cond.fieldLink RX3 47 "RoleDoublingPlanner$PlayText" "statementStart" "I", Cond.methodLink RX3 36 yX2_makeEmpty, Cond.instanceMethod yX2_makeEmpty, Cond.selects RX2 yX2_makeEmpty yX2_makeEmpty, Cond.initialized RX2, Cond.code yX2_makeEmpty cX2_makeEmpty 1 none, Cond.fieldLink RX2 39 "RoleDoublingPlanner$Play" "scenes" "I", Cond.fieldLink RX2 43 "RoleDoublingPlanner$Play" "roles" "I", Cond.fieldLink RX2 46 "RoleDoublingPlanner$Play" "appearances" "I", Cond.methodLink RX3 50 yX3_readStatement, Cond.instanceMethod yX3_readStatement, Cond.selects RX3 yX3_readStatement yX3_readStatement, Cond.initialized RX3, Cond.code yX3_readStatement cX3_readStatement 2 (some .int), Cond.methodLink RX3 54 yX3_readWord, Cond.instanceMethod yX3_readWord, Cond.selects RX3 yX3_readWord yX3_readWord, Cond.code yX3_readWord cX3_readWord 1 none, Cond.fieldLink RX3 102 "RoleDoublingPlanner$PlayText" "wordStart" "I", Cond.fieldLink RX3 9 "RoleDoublingPlanner$PlayText" "signs" "[C", Cond.methodLink RX3 59 yX3_wordIs]
def wsX3_readInto_r2 : List Cond := [Cond.instanceMethod yX3_wordIs, Cond.selects RX3 yX3_wordIs yX3_wordIs, Cond.code yX3_wordIs cX3_wordIs 3 (some .boolean), Cond.methodLink RX3 23 yJ0_length_8abf5, Cond.instanceMethod yJ0_length_8abf5, Cond.selects RJ0 yJ0_length_8abf5 yJ0_length_8abf5, Cond.initialized RJ0, Cond.code yJ0_length_8abf5 cJ0_length_8abf5 1 (some .int), Cond.fieldLink RJ0 9 "java/lang/String" "value" "[B", Cond.methodLink RJ0 335 yJ0_coder_7d493, Cond.instanceMethod yJ0_coder_7d493, Cond.selects RJ0 yJ0_coder_7d493 yJ0_coder_7d493, Cond.code yJ0_coder_7d493 cJ0_coder_7d493 1 (some .byte), Cond.fieldLink RJ0 38 "java/lang/String" "COMPACT_STRINGS" "Z", Cond.fieldLink RJ0 15 "java/lang/String" "coder" "B", Cond.methodLink RX3 28 yJ0_charAt_5068e, Cond.instanceMethod yJ0_charAt_5068e, Cond.selects RJ0 yJ0_charAt_5068e yJ0_charAt_5068e, Cond.code yJ0_charAt_5068e cJ0_charAt_5068e 2 (some .char), Cond.methodLink RJ0 492 yJ0_isLatin1_aae02, Cond.instanceMethod yJ0_isLatin1_aae02, Cond.selects RJ0 yJ0_isLatin1_aae02 yJ0_isLatin1_aae02, Cond.code yJ0_isLatin1_aae02 cJ0_isLatin1_aae02 1 (some .boolean), Cond.methodLink RJ0 495 yJ1_charAt_3b067]
def wsX3_readInto_r3 : List Cond := [Cond.static yJ1_charAt_3b067, Cond.initialized RJ1, Cond.code yJ1_charAt_3b067 cJ1_charAt_3b067 2 (some .char), Cond.methodLink RJ1 9 yJ0_checkIndex_df160, Cond.static yJ0_checkIndex_df160, Cond.code yJ0_checkIndex_df160 cJ0_checkIndex_df160 2 none, Cond.fieldLink RJ0 1053 "jdk/internal/util/Preconditions" "SIOOBE_FORMATTER" "Ljava/util/function/BiFunction;", Cond.methodLink RJ0 1059 yJ3_checkIndex_8e157, Cond.static yJ3_checkIndex_8e157, Cond.initialized RJ3, Cond.code yJ3_checkIndex_8e157 cJ3_checkIndex_8e157 3 (some .int), Cond.methodLink RJ0 498 yJ2_charAt_3b067, Cond.static yJ2_charAt_3b067, Cond.initialized RJ2, Cond.code yJ2_charAt_3b067 cJ2_charAt_3b067 2 (some .char), Cond.methodLink RJ2 67 yJ2_checkIndex_2214a, Cond.static yJ2_checkIndex_2214a, Cond.code yJ2_checkIndex_2214a cJ2_checkIndex_2214a 2 none, Cond.methodLink RJ2 48 yJ2_length_9d52b, Cond.static yJ2_length_9d52b, Cond.code yJ2_length_9d52b cJ2_length_9d52b 1 (some .int), Cond.methodLink RJ2 414 yJ0_checkIndex_df160, Cond.methodLink RJ2 71 yJ2_getChar_3b067, Cond.static yJ2_getChar_3b067]
def wsX3_readInto_r4 : List Cond := [Cond.code yJ2_getChar_3b067 cJ2_getChar_3b067 2 (some .char), Cond.fieldLink RJ2 44 "java/lang/StringUTF16" "$assertionsDisabled" "Z", Cond.fieldLink RJ2 59 "java/lang/StringUTF16" "HI_BYTE_SHIFT" "I", Cond.fieldLink RJ2 63 "java/lang/StringUTF16" "LO_BYTE_SHIFT" "I", Cond.methodLink RX3 63 yX3_readScene, Cond.instanceMethod yX3_readScene, Cond.selects RX3 yX3_readScene yX3_readScene, Cond.code yX3_readScene cX3_readScene 2 (some .int), Cond.fieldLink RX3 15 "RoleDoublingPlanner$PlayText" "numbers" "[I", Cond.methodLink RX3 76 yX3_readNumbersAndEnd, Cond.instanceMethod yX3_readNumbersAndEnd, Cond.selects RX3 yX3_readNumbersAndEnd yX3_readNumbersAndEnd, Cond.code yX3_readNumbersAndEnd cX3_readNumbersAndEnd 3 (some .boolean), Cond.methodLink RX3 84 yX3_readSign, Cond.instanceMethod yX3_readSign, Cond.selects RX3 yX3_readSign yX3_readSign, Cond.code yX3_readSign cX3_readSign 2 (some .boolean), Cond.methodLink RX3 99 yX3_wordAsNumber, Cond.instanceMethod yX3_wordAsNumber, Cond.selects RX3 yX3_wordAsNumber yX3_wordAsNumber, Cond.code yX3_wordAsNumber cX3_wordAsNumber 4 (some .int), Cond.methodLink RX3 80 yX2_stateScene, Cond.instanceMethod yX2_stateScene, Cond.selects RX2 yX2_stateScene yX2_stateScene]
def wsX3_readInto_r5 : List Cond := [Cond.code yX2_stateScene cX2_stateScene 2 (some .int), Cond.fieldLink RX2 9 "RoleDoublingPlanner$Play" "sceneLength" "[I", Cond.methodLink RX3 68 yX3_readRole, Cond.instanceMethod yX3_readRole, Cond.selects RX3 yX3_readRole yX3_readRole, Cond.code yX3_readRole cX3_readRole 3 (some .int), Cond.methodLink RX3 88 yX3_wordAsVoice, Cond.instanceMethod yX3_wordAsVoice, Cond.selects RX3 yX3_wordAsVoice yX3_wordAsVoice, Cond.code yX3_wordAsVoice cX3_wordAsVoice 1 (some .int), Cond.methodLink RX3 91 yX2_stateRole, Cond.instanceMethod yX2_stateRole, Cond.selects RX2 yX2_stateRole yX2_stateRole, Cond.code yX2_stateRole cX2_stateRole 4 (some .int), Cond.fieldLink RX2 15 "RoleDoublingPlanner$Play" "voice" "[I", Cond.fieldLink RX2 18 "RoleDoublingPlanner$Play" "out" "[I", Cond.fieldLink RX2 21 "RoleDoublingPlanner$Play" "in" "[I", Cond.fieldLink RX2 24 "RoleDoublingPlanner$Play" "actor" "[I", Cond.static yX5_isCostumeTime, Cond.initialized RX5, Cond.code yX5_isCostumeTime cX5_isCostumeTime 1 (some .boolean), Cond.methodLink RX3 73 yX3_readEnter, Cond.instanceMethod yX3_readEnter, Cond.selects RX3 yX3_readEnter yX3_readEnter]
def wsX3_readInto_r6 : List Cond := [Cond.code yX3_readEnter cX3_readEnter 2 (some .int), Cond.methodLink RX3 95 yX2_stateAppearance, Cond.instanceMethod yX2_stateAppearance, Cond.selects RX2 yX2_stateAppearance yX2_stateAppearance, Cond.code yX2_stateAppearance cX2_stateAppearance 5 (some .int), Cond.methodLink RX2 65 yX2_admits, Cond.instanceMethod yX2_admits, Cond.selects RX2 yX2_admits yX2_admits, Cond.code yX2_admits cX2_admits 5 (some .boolean), Cond.methodLink RX2 55 yX2_hasRole, Cond.instanceMethod yX2_hasRole, Cond.selects RX2 yX2_hasRole yX2_hasRole, Cond.code yX2_hasRole cX2_hasRole 2 (some .boolean), Cond.methodLink RX2 59 yX2_hasScene, Cond.instanceMethod yX2_hasScene, Cond.selects RX2 yX2_hasScene yX2_hasScene, Cond.code yX2_hasScene cX2_hasScene 2 (some .boolean), Cond.methodLink RX2 69 yX2_putAppearance, Cond.instanceMethod yX2_putAppearance, Cond.selects RX2 yX2_putAppearance yX2_putAppearance, Cond.code yX2_putAppearance cX2_putAppearance 6 none, Cond.fieldLink RX2 27 "RoleDoublingPlanner$Play" "appearing" "[I", Cond.fieldLink RX2 30 "RoleDoublingPlanner$Play" "appearingIn" "[I", Cond.fieldLink RX2 33 "RoleDoublingPlanner$Play" "enterTime" "[I"]
def wsX3_readInto_r7 : List Cond := [Cond.fieldLink RX2 36 "RoleDoublingPlanner$Play" "exitTime" "[I", Cond.methodLink RX2 73 yX2_startOf, Cond.instanceMethod yX2_startOf, Cond.selects RX2 yX2_startOf yX2_startOf, Cond.code yX2_startOf cX2_startOf 4 (some .int)]
def wsX3_readInto : List Cond := .code yX3_readInto cX3_readInto 3 none :: ((wsX3_readInto_r1 ++ (wsX3_readInto_r2 ++ (wsX3_readInto_r3 ++ (wsX3_readInto_r4 ++ (wsX3_readInto_r5 ++ (wsX3_readInto_r6 ++ wsX3_readInto_r7)))))) ++ wsX30 ++ wsX20)
def wsX4_init : List Cond := .code yX4_init cX4_init 2 none :: ([.methodLink RX4 3 objectInit, .instanceMethod objectInit, .code objectInit ⟨#[0xb1]⟩ 1 none, .classLink RX4 9 "[[I", .arrayClass .int, .fieldLink RX4 11 "RoleDoublingPlanner$Slacks" "table" "[[I", .fieldLink RX4 16 "RoleDoublingPlanner$Slacks" "play" "LRoleDoublingPlanner$Play;"] ++ wsX40)
def wsX4_slackFrom : List Cond := .code yX4_slackFrom cX4_slackFrom 4 (some .int) :: ([.fieldLink RX4 16 "RoleDoublingPlanner$Slacks" "play" "LRoleDoublingPlanner$Play;", .fieldLink RX4 47 "RoleDoublingPlanner$Play" "out" "[I", .fieldLink RX4 30 "RoleDoublingPlanner$Play" "appearing" "[I", .fieldLink RX4 50 "RoleDoublingPlanner$Play" "in" "[I", .fieldLink RX4 37 "RoleDoublingPlanner$Play" "enterTime" "[I", .fieldLink RX4 34 "RoleDoublingPlanner$Play" "exitTime" "[I"] ++ wsX40 ++ wsX20)
def wsX5_lesserSlack : List Cond := .code yX5_lesserSlack cX5_lesserSlack 2 (some .int) :: ([.methodLink RX5 216 Lib.Math.min.name, .static Lib.Math.min.name, .initialized "java/lang/Math", .code Lib.Math.min.name Lib.Math.min.code 2 (some .int)])
def wsX4_compare : List Cond := .code yX4_compare cX4_compare 6 none :: ([.fieldLink RX4 16 "RoleDoublingPlanner$Slacks" "play" "LRoleDoublingPlanner$Play;", .fieldLink RX4 30 "RoleDoublingPlanner$Play" "appearing" "[I", .fieldLink RX4 11 "RoleDoublingPlanner$Slacks" "table" "[[I", .fieldLink RX4 34 "RoleDoublingPlanner$Play" "exitTime" "[I", .fieldLink RX4 37 "RoleDoublingPlanner$Play" "enterTime" "[I", .methodLink RX4 40 yX4_slackFrom, .instanceMethod yX4_slackFrom, .selects RX4 yX4_slackFrom yX4_slackFrom, .initialized RX4, .code yX4_slackFrom cX4_slackFrom 4 (some .int), .fieldLink RX4 47 "RoleDoublingPlanner$Play" "out" "[I", .fieldLink RX4 50 "RoleDoublingPlanner$Play" "in" "[I", .static yX5_lesserSlack, .initialized RX5, .code yX5_lesserSlack cX5_lesserSlack 2 (some .int), .methodLink RX5 216 Lib.Math.min.name, .static Lib.Math.min.name, .initialized "java/lang/Math", .code Lib.Math.min.name Lib.Math.min.code 2 (some .int)] ++ wsX40 ++ wsX20)
def wsX4_measure : List Cond := .code yX4_measure cX4_measure 3 none :: ([.fieldLink RX4 11 "RoleDoublingPlanner$Slacks" "table" "[[I", .fieldLink RX4 16 "RoleDoublingPlanner$Slacks" "play" "LRoleDoublingPlanner$Play;", .fieldLink RX4 20 "RoleDoublingPlanner$Play" "appearances" "I", .methodLink RX4 26 yX4_compare, .instanceMethod yX4_compare, .selects RX4 yX4_compare yX4_compare, .initialized RX4, .code yX4_compare cX4_compare 6 none, .fieldLink RX4 30 "RoleDoublingPlanner$Play" "appearing" "[I", .fieldLink RX4 34 "RoleDoublingPlanner$Play" "exitTime" "[I", .fieldLink RX4 37 "RoleDoublingPlanner$Play" "enterTime" "[I", .methodLink RX4 40 yX4_slackFrom, .instanceMethod yX4_slackFrom, .selects RX4 yX4_slackFrom yX4_slackFrom, .code yX4_slackFrom cX4_slackFrom 4 (some .int), .fieldLink RX4 47 "RoleDoublingPlanner$Play" "out" "[I", .fieldLink RX4 50 "RoleDoublingPlanner$Play" "in" "[I", .static yX5_lesserSlack, .initialized RX5, .code yX5_lesserSlack cX5_lesserSlack 2 (some .int), .methodLink RX5 216 Lib.Math.min.name, .static Lib.Math.min.name, .initialized "java/lang/Math", .code Lib.Math.min.name Lib.Math.min.code 2 (some .int)] ++ wsX40 ++ wsX20)
def wsX5_startStatedPlay_r1 : List Cond := [Cond.fieldLink RX5 23 "RoleDoublingPlanner" "play" "LRoleDoublingPlanner$Play;", Cond.fieldLink RX5 19 "RoleDoublingPlanner" "stated" "LRoleDoublingPlanner$Play;", Cond.fieldLink RX5 45 "RoleDoublingPlanner" "history" "LRoleDoublingPlanner$History;", Cond.fieldLink RX5 157 "RoleDoublingPlanner$History" "kept" "I", Cond.fieldLink RX5 31 "RoleDoublingPlanner" "slacks" "LRoleDoublingPlanner$Slacks;", Cond.methodLink RX5 210 yX2_copyFrom, Cond.instanceMethod yX2_copyFrom, Cond.selects RX2 yX2_copyFrom yX2_copyFrom, Cond.initialized RX2, Cond.code yX2_copyFrom cX2_copyFrom 2 none, Cond.fieldLink RX2 39 "RoleDoublingPlanner$Play" "scenes" "I", Cond.fieldLink RX2 43 "RoleDoublingPlanner$Play" "roles" "I", Cond.fieldLink RX2 46 "RoleDoublingPlanner$Play" "appearances" "I", Cond.fieldLink RX2 9 "RoleDoublingPlanner$Play" "sceneLength" "[I", Cond.methodLink RX2 49 arraycopyName, Cond.native arraycopyName, Cond.static arraycopyName, Cond.initialized "java/lang/System", Cond.fieldLink RX2 15 "RoleDoublingPlanner$Play" "voice" "[I", Cond.fieldLink RX2 18 "RoleDoublingPlanner$Play" "out" "[I", Cond.fieldLink RX2 21 "RoleDoublingPlanner$Play" "in" "[I", Cond.fieldLink RX2 24 "RoleDoublingPlanner$Play" "actor" "[I", Cond.fieldLink RX2 27 "RoleDoublingPlanner$Play" "appearing" "[I", Cond.fieldLink RX2 30 "RoleDoublingPlanner$Play" "appearingIn" "[I"]
def wsX5_startStatedPlay_r2 : List Cond := [Cond.fieldLink RX2 33 "RoleDoublingPlanner$Play" "enterTime" "[I", Cond.fieldLink RX2 36 "RoleDoublingPlanner$Play" "exitTime" "[I", Cond.methodLink RX5 103 yX4_measure, Cond.instanceMethod yX4_measure, Cond.selects RX4 yX4_measure yX4_measure, Cond.initialized RX4, Cond.code yX4_measure cX4_measure 3 none, Cond.fieldLink RX4 11 "RoleDoublingPlanner$Slacks" "table" "[[I", Cond.fieldLink RX4 16 "RoleDoublingPlanner$Slacks" "play" "LRoleDoublingPlanner$Play;", Cond.fieldLink RX4 20 "RoleDoublingPlanner$Play" "appearances" "I", Cond.methodLink RX4 26 yX4_compare, Cond.instanceMethod yX4_compare, Cond.selects RX4 yX4_compare yX4_compare, Cond.code yX4_compare cX4_compare 6 none, Cond.fieldLink RX4 30 "RoleDoublingPlanner$Play" "appearing" "[I", Cond.fieldLink RX4 34 "RoleDoublingPlanner$Play" "exitTime" "[I", Cond.fieldLink RX4 37 "RoleDoublingPlanner$Play" "enterTime" "[I", Cond.methodLink RX4 40 yX4_slackFrom, Cond.instanceMethod yX4_slackFrom, Cond.selects RX4 yX4_slackFrom yX4_slackFrom, Cond.code yX4_slackFrom cX4_slackFrom 4 (some .int), Cond.fieldLink RX4 47 "RoleDoublingPlanner$Play" "out" "[I", Cond.fieldLink RX4 50 "RoleDoublingPlanner$Play" "in" "[I", Cond.static yX5_lesserSlack]
def wsX5_startStatedPlay_r3 : List Cond := [Cond.initialized RX5, Cond.code yX5_lesserSlack cX5_lesserSlack 2 (some .int), Cond.methodLink RX5 216 Lib.Math.min.name, Cond.static Lib.Math.min.name, Cond.initialized "java/lang/Math", Cond.code Lib.Math.min.name Lib.Math.min.code 2 (some .int)]
def wsX5_startStatedPlay : List Cond := .code yX5_startStatedPlay cX5_startStatedPlay 1 none :: ((wsX5_startStatedPlay_r1 ++ (wsX5_startStatedPlay_r2 ++ wsX5_startStatedPlay_r3)) ++ wsX50 ++ wsX10 ++ wsX20 ++ wsX40)
def wsX5_init_r1 : List Cond := [Cond.methodLink RX5 3 objectInit, Cond.instanceMethod objectInit, Cond.code objectInit ⟨#[0xb1]⟩ 1 none, Cond.classLink RX5 9 RX3, Cond.instantiable RX3 7, Cond.initialized RX3, Cond.fieldLink RX5 12 "RoleDoublingPlanner" "text" "LRoleDoublingPlanner$PlayText;", Cond.classLink RX5 16 RX2, Cond.instantiable RX2 12, Cond.initialized RX2, Cond.fieldLink RX5 19 "RoleDoublingPlanner" "stated" "LRoleDoublingPlanner$Play;", Cond.fieldLink RX5 23 "RoleDoublingPlanner" "play" "LRoleDoublingPlanner$Play;", Cond.classLink RX5 26 RX4, Cond.instantiable RX4 2, Cond.initialized RX4, Cond.fieldLink RX5 31 "RoleDoublingPlanner" "slacks" "LRoleDoublingPlanner$Slacks;", Cond.classLink RX5 35 RX0, Cond.instantiable RX0 3, Cond.initialized RX0, Cond.fieldLink RX5 38 "RoleDoublingPlanner" "casting" "LRoleDoublingPlanner$Casting;", Cond.classLink RX5 42 RX1, Cond.instantiable RX1 2, Cond.initialized RX1, Cond.fieldLink RX5 45 "RoleDoublingPlanner" "history" "LRoleDoublingPlanner$History;"]
def wsX5_init_r2 : List Cond := [Cond.fieldLink RX5 69 "RoleDoublingPlanner$PlayText" "length" "I", Cond.instanceMethod yX3_init, Cond.code yX3_init cX3_init 1 none, Cond.methodLink RX3 3 objectInit, Cond.arrayClass .char, Cond.fieldLink RX3 9 "RoleDoublingPlanner$PlayText" "signs" "[C", Cond.arrayClass .int, Cond.fieldLink RX3 15 "RoleDoublingPlanner$PlayText" "numbers" "[I", Cond.instanceMethod yX2_init, Cond.code yX2_init cX2_init 1 none, Cond.methodLink RX2 3 objectInit, Cond.fieldLink RX2 9 "RoleDoublingPlanner$Play" "sceneLength" "[I", Cond.fieldLink RX2 15 "RoleDoublingPlanner$Play" "voice" "[I", Cond.fieldLink RX2 18 "RoleDoublingPlanner$Play" "out" "[I", Cond.fieldLink RX2 21 "RoleDoublingPlanner$Play" "in" "[I", Cond.fieldLink RX2 24 "RoleDoublingPlanner$Play" "actor" "[I", Cond.fieldLink RX2 27 "RoleDoublingPlanner$Play" "appearing" "[I", Cond.fieldLink RX2 30 "RoleDoublingPlanner$Play" "appearingIn" "[I", Cond.fieldLink RX2 33 "RoleDoublingPlanner$Play" "enterTime" "[I", Cond.fieldLink RX2 36 "RoleDoublingPlanner$Play" "exitTime" "[I", Cond.methodLink RX5 28 yX4_init, Cond.instanceMethod yX4_init, Cond.code yX4_init cX4_init 2 none, Cond.methodLink RX4 3 objectInit]
def wsX5_init_r3 : List Cond := [Cond.classLink RX4 9 "[[I", Cond.fieldLink RX4 11 "RoleDoublingPlanner$Slacks" "table" "[[I", Cond.fieldLink RX4 16 "RoleDoublingPlanner$Slacks" "play" "LRoleDoublingPlanner$Play;", Cond.instanceMethod yX0_init, Cond.code yX0_init cX0_init 1 none, Cond.methodLink RX0 3 objectInit, Cond.fieldLink RX0 9 "RoleDoublingPlanner$Casting" "rivals" "[I", Cond.fieldLink RX0 15 "RoleDoublingPlanner$Casting" "rolesOfActor" "[I", Cond.methodLink RX5 44 yX1_init, Cond.instanceMethod yX1_init, Cond.code yX1_init cX1_init 2 none, Cond.methodLink RX1 3 objectInit, Cond.classLink RX1 9 RX2, Cond.fieldLink RX1 11 "RoleDoublingPlanner$History" "past" "[LRoleDoublingPlanner$Play;", Cond.methodLink RX5 51 yX3_putAll, Cond.instanceMethod yX3_putAll, Cond.selects RX3 yX3_putAll yX3_putAll, Cond.code yX3_putAll cX3_putAll 3 none, Cond.methodLink RX3 23 yJ0_length_8abf5, Cond.instanceMethod yJ0_length_8abf5, Cond.selects RJ0 yJ0_length_8abf5 yJ0_length_8abf5, Cond.initialized RJ0, Cond.code yJ0_length_8abf5 cJ0_length_8abf5 1 (some .int), Cond.fieldLink RJ0 9 "java/lang/String" "value" "[B"]
def wsX5_init_r4 : List Cond := [Cond.methodLink RJ0 335 yJ0_coder_7d493, Cond.instanceMethod yJ0_coder_7d493, Cond.selects RJ0 yJ0_coder_7d493 yJ0_coder_7d493, Cond.code yJ0_coder_7d493 cJ0_coder_7d493 1 (some .byte), Cond.fieldLink RJ0 38 "java/lang/String" "COMPACT_STRINGS" "Z", Cond.fieldLink RJ0 15 "java/lang/String" "coder" "B", Cond.methodLink RX3 28 yJ0_charAt_5068e, Cond.instanceMethod yJ0_charAt_5068e, Cond.selects RJ0 yJ0_charAt_5068e yJ0_charAt_5068e, Cond.code yJ0_charAt_5068e cJ0_charAt_5068e 2 (some .char), Cond.methodLink RJ0 492 yJ0_isLatin1_aae02, Cond.instanceMethod yJ0_isLatin1_aae02, Cond.selects RJ0 yJ0_isLatin1_aae02 yJ0_isLatin1_aae02, Cond.code yJ0_isLatin1_aae02 cJ0_isLatin1_aae02 1 (some .boolean), Cond.methodLink RJ0 495 yJ1_charAt_3b067, Cond.static yJ1_charAt_3b067, Cond.initialized RJ1, Cond.code yJ1_charAt_3b067 cJ1_charAt_3b067 2 (some .char), Cond.methodLink RJ1 9 yJ0_checkIndex_df160, Cond.static yJ0_checkIndex_df160, Cond.code yJ0_checkIndex_df160 cJ0_checkIndex_df160 2 none, Cond.fieldLink RJ0 1053 "jdk/internal/util/Preconditions" "SIOOBE_FORMATTER" "Ljava/util/function/BiFunction;", Cond.methodLink RJ0 1059 yJ3_checkIndex_8e157, Cond.static yJ3_checkIndex_8e157]
def wsX5_init_r5 : List Cond := [Cond.initialized RJ3, Cond.code yJ3_checkIndex_8e157 cJ3_checkIndex_8e157 3 (some .int), Cond.methodLink RJ0 498 yJ2_charAt_3b067, Cond.static yJ2_charAt_3b067, Cond.initialized RJ2, Cond.code yJ2_charAt_3b067 cJ2_charAt_3b067 2 (some .char), Cond.methodLink RJ2 67 yJ2_checkIndex_2214a, Cond.static yJ2_checkIndex_2214a, Cond.code yJ2_checkIndex_2214a cJ2_checkIndex_2214a 2 none, Cond.methodLink RJ2 48 yJ2_length_9d52b, Cond.static yJ2_length_9d52b, Cond.code yJ2_length_9d52b cJ2_length_9d52b 1 (some .int), Cond.methodLink RJ2 414 yJ0_checkIndex_df160, Cond.methodLink RJ2 71 yJ2_getChar_3b067, Cond.static yJ2_getChar_3b067, Cond.code yJ2_getChar_3b067 cJ2_getChar_3b067 2 (some .char), Cond.fieldLink RJ2 44 "java/lang/StringUTF16" "$assertionsDisabled" "Z", Cond.fieldLink RJ2 59 "java/lang/StringUTF16" "HI_BYTE_SHIFT" "I", Cond.fieldLink RJ2 63 "java/lang/StringUTF16" "LO_BYTE_SHIFT" "I", Cond.methodLink RX3 32 yX3_put, Cond.instanceMethod yX3_put, Cond.selects RX3 yX3_put yX3_put, Cond.code yX3_put cX3_put 2 none, Cond.fieldLink RX3 19 "RoleDoublingPlanner$PlayText" "length" "I"]
def wsX5_init_r6 : List Cond := [Cond.methodLink RX5 63 yX3_readInto, Cond.instanceMethod yX3_readInto, Cond.selects RX3 yX3_readInto yX3_readInto, Cond.code yX3_readInto cX3_readInto 3 none, Cond.fieldLink RX3 41 "RoleDoublingPlanner$PlayText" "place" "I", Cond.fieldLink RX3 44 "RoleDoublingPlanner$PlayText" "reason" "I", Cond.fieldLink RX3 47 "RoleDoublingPlanner$PlayText" "statementStart" "I", Cond.methodLink RX3 36 yX2_makeEmpty, Cond.instanceMethod yX2_makeEmpty, Cond.selects RX2 yX2_makeEmpty yX2_makeEmpty, Cond.code yX2_makeEmpty cX2_makeEmpty 1 none, Cond.fieldLink RX2 39 "RoleDoublingPlanner$Play" "scenes" "I", Cond.fieldLink RX2 43 "RoleDoublingPlanner$Play" "roles" "I", Cond.fieldLink RX2 46 "RoleDoublingPlanner$Play" "appearances" "I", Cond.methodLink RX3 50 yX3_readStatement, Cond.instanceMethod yX3_readStatement, Cond.selects RX3 yX3_readStatement yX3_readStatement, Cond.code yX3_readStatement cX3_readStatement 2 (some .int), Cond.methodLink RX3 54 yX3_readWord, Cond.instanceMethod yX3_readWord, Cond.selects RX3 yX3_readWord yX3_readWord, Cond.code yX3_readWord cX3_readWord 1 none, Cond.fieldLink RX3 102 "RoleDoublingPlanner$PlayText" "wordStart" "I", Cond.methodLink RX3 59 yX3_wordIs]
def wsX5_init_r7 : List Cond := [Cond.instanceMethod yX3_wordIs, Cond.selects RX3 yX3_wordIs yX3_wordIs, Cond.code yX3_wordIs cX3_wordIs 3 (some .boolean), Cond.methodLink RX3 63 yX3_readScene, Cond.instanceMethod yX3_readScene, Cond.selects RX3 yX3_readScene yX3_readScene, Cond.code yX3_readScene cX3_readScene 2 (some .int), Cond.methodLink RX3 76 yX3_readNumbersAndEnd, Cond.instanceMethod yX3_readNumbersAndEnd, Cond.selects RX3 yX3_readNumbersAndEnd yX3_readNumbersAndEnd, Cond.code yX3_readNumbersAndEnd cX3_readNumbersAndEnd 3 (some .boolean), Cond.methodLink RX3 84 yX3_readSign, Cond.instanceMethod yX3_readSign, Cond.selects RX3 yX3_readSign yX3_readSign, Cond.code yX3_readSign cX3_readSign 2 (some .boolean), Cond.methodLink RX3 99 yX3_wordAsNumber, Cond.instanceMethod yX3_wordAsNumber, Cond.selects RX3 yX3_wordAsNumber yX3_wordAsNumber, Cond.code yX3_wordAsNumber cX3_wordAsNumber 4 (some .int), Cond.methodLink RX3 80 yX2_stateScene, Cond.instanceMethod yX2_stateScene, Cond.selects RX2 yX2_stateScene yX2_stateScene, Cond.code yX2_stateScene cX2_stateScene 2 (some .int), Cond.methodLink RX3 68 yX3_readRole]
def wsX5_init_r8 : List Cond := [Cond.instanceMethod yX3_readRole, Cond.selects RX3 yX3_readRole yX3_readRole, Cond.code yX3_readRole cX3_readRole 3 (some .int), Cond.methodLink RX3 88 yX3_wordAsVoice, Cond.instanceMethod yX3_wordAsVoice, Cond.selects RX3 yX3_wordAsVoice yX3_wordAsVoice, Cond.code yX3_wordAsVoice cX3_wordAsVoice 1 (some .int), Cond.methodLink RX3 91 yX2_stateRole, Cond.instanceMethod yX2_stateRole, Cond.selects RX2 yX2_stateRole yX2_stateRole, Cond.code yX2_stateRole cX2_stateRole 4 (some .int), Cond.static yX5_isCostumeTime, Cond.initialized RX5, Cond.code yX5_isCostumeTime cX5_isCostumeTime 1 (some .boolean), Cond.methodLink RX3 73 yX3_readEnter, Cond.instanceMethod yX3_readEnter, Cond.selects RX3 yX3_readEnter yX3_readEnter, Cond.code yX3_readEnter cX3_readEnter 2 (some .int), Cond.methodLink RX3 95 yX2_stateAppearance, Cond.instanceMethod yX2_stateAppearance, Cond.selects RX2 yX2_stateAppearance yX2_stateAppearance, Cond.code yX2_stateAppearance cX2_stateAppearance 5 (some .int), Cond.methodLink RX2 65 yX2_admits, Cond.instanceMethod yX2_admits]
def wsX5_init_r9 : List Cond := [Cond.selects RX2 yX2_admits yX2_admits, Cond.code yX2_admits cX2_admits 5 (some .boolean), Cond.methodLink RX2 55 yX2_hasRole, Cond.instanceMethod yX2_hasRole, Cond.selects RX2 yX2_hasRole yX2_hasRole, Cond.code yX2_hasRole cX2_hasRole 2 (some .boolean), Cond.methodLink RX2 59 yX2_hasScene, Cond.instanceMethod yX2_hasScene, Cond.selects RX2 yX2_hasScene yX2_hasScene, Cond.code yX2_hasScene cX2_hasScene 2 (some .boolean), Cond.methodLink RX2 69 yX2_putAppearance, Cond.instanceMethod yX2_putAppearance, Cond.selects RX2 yX2_putAppearance yX2_putAppearance, Cond.code yX2_putAppearance cX2_putAppearance 6 none, Cond.methodLink RX2 73 yX2_startOf, Cond.instanceMethod yX2_startOf, Cond.selects RX2 yX2_startOf yX2_startOf, Cond.code yX2_startOf cX2_startOf 4 (some .int), Cond.methodLink RX5 66 yX5_startStatedPlay, Cond.instanceMethod yX5_startStatedPlay, Cond.selects RX5 yX5_startStatedPlay yX5_startStatedPlay, Cond.code yX5_startStatedPlay cX5_startStatedPlay 1 none, Cond.fieldLink RX5 157 "RoleDoublingPlanner$History" "kept" "I", Cond.methodLink RX5 210 yX2_copyFrom]
def wsX5_init_r10 : List Cond := [Cond.instanceMethod yX2_copyFrom, Cond.selects RX2 yX2_copyFrom yX2_copyFrom, Cond.code yX2_copyFrom cX2_copyFrom 2 none, Cond.methodLink RX2 49 arraycopyName, Cond.native arraycopyName, Cond.static arraycopyName, Cond.initialized "java/lang/System", Cond.methodLink RX5 103 yX4_measure, Cond.instanceMethod yX4_measure, Cond.selects RX4 yX4_measure yX4_measure, Cond.code yX4_measure cX4_measure 3 none, Cond.fieldLink RX4 20 "RoleDoublingPlanner$Play" "appearances" "I", Cond.methodLink RX4 26 yX4_compare, Cond.instanceMethod yX4_compare, Cond.selects RX4 yX4_compare yX4_compare, Cond.code yX4_compare cX4_compare 6 none, Cond.fieldLink RX4 30 "RoleDoublingPlanner$Play" "appearing" "[I", Cond.fieldLink RX4 34 "RoleDoublingPlanner$Play" "exitTime" "[I", Cond.fieldLink RX4 37 "RoleDoublingPlanner$Play" "enterTime" "[I", Cond.methodLink RX4 40 yX4_slackFrom, Cond.instanceMethod yX4_slackFrom, Cond.selects RX4 yX4_slackFrom yX4_slackFrom, Cond.code yX4_slackFrom cX4_slackFrom 4 (some .int), Cond.fieldLink RX4 47 "RoleDoublingPlanner$Play" "out" "[I"]
def wsX5_init_r11 : List Cond := [Cond.fieldLink RX4 50 "RoleDoublingPlanner$Play" "in" "[I", Cond.static yX5_lesserSlack, Cond.code yX5_lesserSlack cX5_lesserSlack 2 (some .int), Cond.methodLink RX5 216 Lib.Math.min.name, Cond.static Lib.Math.min.name, Cond.initialized "java/lang/Math", Cond.code Lib.Math.min.name Lib.Math.min.code 2 (some .int)]
def wsX5_init : List Cond := .code yX5_init cX5_init 1 none :: ((wsX5_init_r1 ++ (wsX5_init_r2 ++ (wsX5_init_r3 ++ (wsX5_init_r4 ++ (wsX5_init_r5 ++ (wsX5_init_r6 ++ (wsX5_init_r7 ++ (wsX5_init_r8 ++ (wsX5_init_r9 ++ (wsX5_init_r10 ++ wsX5_init_r11)))))))))) ++ wsX30 ++ wsX50 ++ wsX20 ++ wsX40 ++ wsX00 ++ wsX10)
def wsX5_append : List Cond := .code yX5_append cX5_append 2 (some .int) :: ([.fieldLink RX5 12 "RoleDoublingPlanner" "text" "LRoleDoublingPlanner$PlayText;", .fieldLink RX5 69 "RoleDoublingPlanner$PlayText" "length" "I", .methodLink RX5 73 yX3_put, .instanceMethod yX3_put, .selects RX3 yX3_put yX3_put, .initialized RX3, .code yX3_put cX3_put 2 none, .fieldLink RX3 19 "RoleDoublingPlanner$PlayText" "length" "I", .fieldLink RX3 9 "RoleDoublingPlanner$PlayText" "signs" "[C"] ++ wsX50 ++ wsX30)
def wsX5_clearText : List Cond := .code yX5_clearText cX5_clearText 2 (some .int) :: ([.fieldLink RX5 12 "RoleDoublingPlanner" "text" "LRoleDoublingPlanner$PlayText;", .fieldLink RX5 69 "RoleDoublingPlanner$PlayText" "length" "I"] ++ wsX50 ++ wsX30)
def wsX5_firstError_r1 : List Cond := [Cond.fieldLink RX5 12 "RoleDoublingPlanner" "text" "LRoleDoublingPlanner$PlayText;", Cond.fieldLink RX5 19 "RoleDoublingPlanner" "stated" "LRoleDoublingPlanner$Play;", Cond.fieldLink RX5 77 "RoleDoublingPlanner$PlayText" "reason" "I", Cond.fieldLink RX5 80 "RoleDoublingPlanner$PlayText" "statementStart" "I", Cond.methodLink RX5 63 yX3_readInto, Cond.instanceMethod yX3_readInto, Cond.selects RX3 yX3_readInto yX3_readInto, Cond.initialized RX3, Cond.code yX3_readInto cX3_readInto 3 none, Cond.fieldLink RX3 41 "RoleDoublingPlanner$PlayText" "place" "I", Cond.fieldLink RX3 44 "RoleDoublingPlanner$PlayText" "reason" "I", Cond.fieldLink RX3 19 "RoleDoublingPlanner$PlayText" "length" "I", Cond.fieldLink RX3 47 "RoleDoublingPlanner$PlayText" "statementStart" "I", Cond.methodLink RX3 36 yX2_makeEmpty, Cond.instanceMethod yX2_makeEmpty, Cond.selects RX2 yX2_makeEmpty yX2_makeEmpty, Cond.initialized RX2, Cond.code yX2_makeEmpty cX2_makeEmpty 1 none, Cond.fieldLink RX2 39 "RoleDoublingPlanner$Play" "scenes" "I", Cond.fieldLink RX2 43 "RoleDoublingPlanner$Play" "roles" "I", Cond.fieldLink RX2 46 "RoleDoublingPlanner$Play" "appearances" "I", Cond.methodLink RX3 50 yX3_readStatement, Cond.instanceMethod yX3_readStatement, Cond.selects RX3 yX3_readStatement yX3_readStatement]
def wsX5_firstError_r2 : List Cond := [Cond.code yX3_readStatement cX3_readStatement 2 (some .int), Cond.methodLink RX3 54 yX3_readWord, Cond.instanceMethod yX3_readWord, Cond.selects RX3 yX3_readWord yX3_readWord, Cond.code yX3_readWord cX3_readWord 1 none, Cond.fieldLink RX3 102 "RoleDoublingPlanner$PlayText" "wordStart" "I", Cond.fieldLink RX3 9 "RoleDoublingPlanner$PlayText" "signs" "[C", Cond.methodLink RX3 59 yX3_wordIs, Cond.instanceMethod yX3_wordIs, Cond.selects RX3 yX3_wordIs yX3_wordIs, Cond.code yX3_wordIs cX3_wordIs 3 (some .boolean), Cond.methodLink RX3 23 yJ0_length_8abf5, Cond.instanceMethod yJ0_length_8abf5, Cond.selects RJ0 yJ0_length_8abf5 yJ0_length_8abf5, Cond.initialized RJ0, Cond.code yJ0_length_8abf5 cJ0_length_8abf5 1 (some .int), Cond.fieldLink RJ0 9 "java/lang/String" "value" "[B", Cond.methodLink RJ0 335 yJ0_coder_7d493, Cond.instanceMethod yJ0_coder_7d493, Cond.selects RJ0 yJ0_coder_7d493 yJ0_coder_7d493, Cond.code yJ0_coder_7d493 cJ0_coder_7d493 1 (some .byte), Cond.fieldLink RJ0 38 "java/lang/String" "COMPACT_STRINGS" "Z", Cond.fieldLink RJ0 15 "java/lang/String" "coder" "B", Cond.methodLink RX3 28 yJ0_charAt_5068e]
def wsX5_firstError_r3 : List Cond := [Cond.instanceMethod yJ0_charAt_5068e, Cond.selects RJ0 yJ0_charAt_5068e yJ0_charAt_5068e, Cond.code yJ0_charAt_5068e cJ0_charAt_5068e 2 (some .char), Cond.methodLink RJ0 492 yJ0_isLatin1_aae02, Cond.instanceMethod yJ0_isLatin1_aae02, Cond.selects RJ0 yJ0_isLatin1_aae02 yJ0_isLatin1_aae02, Cond.code yJ0_isLatin1_aae02 cJ0_isLatin1_aae02 1 (some .boolean), Cond.methodLink RJ0 495 yJ1_charAt_3b067, Cond.static yJ1_charAt_3b067, Cond.initialized RJ1, Cond.code yJ1_charAt_3b067 cJ1_charAt_3b067 2 (some .char), Cond.methodLink RJ1 9 yJ0_checkIndex_df160, Cond.static yJ0_checkIndex_df160, Cond.code yJ0_checkIndex_df160 cJ0_checkIndex_df160 2 none, Cond.fieldLink RJ0 1053 "jdk/internal/util/Preconditions" "SIOOBE_FORMATTER" "Ljava/util/function/BiFunction;", Cond.methodLink RJ0 1059 yJ3_checkIndex_8e157, Cond.static yJ3_checkIndex_8e157, Cond.initialized RJ3, Cond.code yJ3_checkIndex_8e157 cJ3_checkIndex_8e157 3 (some .int), Cond.methodLink RJ0 498 yJ2_charAt_3b067, Cond.static yJ2_charAt_3b067, Cond.initialized RJ2, Cond.code yJ2_charAt_3b067 cJ2_charAt_3b067 2 (some .char), Cond.methodLink RJ2 67 yJ2_checkIndex_2214a]
def wsX5_firstError_r4 : List Cond := [Cond.static yJ2_checkIndex_2214a, Cond.code yJ2_checkIndex_2214a cJ2_checkIndex_2214a 2 none, Cond.methodLink RJ2 48 yJ2_length_9d52b, Cond.static yJ2_length_9d52b, Cond.code yJ2_length_9d52b cJ2_length_9d52b 1 (some .int), Cond.methodLink RJ2 414 yJ0_checkIndex_df160, Cond.methodLink RJ2 71 yJ2_getChar_3b067, Cond.static yJ2_getChar_3b067, Cond.code yJ2_getChar_3b067 cJ2_getChar_3b067 2 (some .char), Cond.fieldLink RJ2 44 "java/lang/StringUTF16" "$assertionsDisabled" "Z", Cond.fieldLink RJ2 59 "java/lang/StringUTF16" "HI_BYTE_SHIFT" "I", Cond.fieldLink RJ2 63 "java/lang/StringUTF16" "LO_BYTE_SHIFT" "I", Cond.methodLink RX3 63 yX3_readScene, Cond.instanceMethod yX3_readScene, Cond.selects RX3 yX3_readScene yX3_readScene, Cond.code yX3_readScene cX3_readScene 2 (some .int), Cond.fieldLink RX3 15 "RoleDoublingPlanner$PlayText" "numbers" "[I", Cond.methodLink RX3 76 yX3_readNumbersAndEnd, Cond.instanceMethod yX3_readNumbersAndEnd, Cond.selects RX3 yX3_readNumbersAndEnd yX3_readNumbersAndEnd, Cond.code yX3_readNumbersAndEnd cX3_readNumbersAndEnd 3 (some .boolean), Cond.methodLink RX3 84 yX3_readSign, Cond.instanceMethod yX3_readSign, Cond.selects RX3 yX3_readSign yX3_readSign]
def wsX5_firstError_r5 : List Cond := [Cond.code yX3_readSign cX3_readSign 2 (some .boolean), Cond.methodLink RX3 99 yX3_wordAsNumber, Cond.instanceMethod yX3_wordAsNumber, Cond.selects RX3 yX3_wordAsNumber yX3_wordAsNumber, Cond.code yX3_wordAsNumber cX3_wordAsNumber 4 (some .int), Cond.methodLink RX3 80 yX2_stateScene, Cond.instanceMethod yX2_stateScene, Cond.selects RX2 yX2_stateScene yX2_stateScene, Cond.code yX2_stateScene cX2_stateScene 2 (some .int), Cond.fieldLink RX2 9 "RoleDoublingPlanner$Play" "sceneLength" "[I", Cond.methodLink RX3 68 yX3_readRole, Cond.instanceMethod yX3_readRole, Cond.selects RX3 yX3_readRole yX3_readRole, Cond.code yX3_readRole cX3_readRole 3 (some .int), Cond.methodLink RX3 88 yX3_wordAsVoice, Cond.instanceMethod yX3_wordAsVoice, Cond.selects RX3 yX3_wordAsVoice yX3_wordAsVoice, Cond.code yX3_wordAsVoice cX3_wordAsVoice 1 (some .int), Cond.methodLink RX3 91 yX2_stateRole, Cond.instanceMethod yX2_stateRole, Cond.selects RX2 yX2_stateRole yX2_stateRole, Cond.code yX2_stateRole cX2_stateRole 4 (some .int), Cond.fieldLink RX2 15 "RoleDoublingPlanner$Play" "voice" "[I", Cond.fieldLink RX2 18 "RoleDoublingPlanner$Play" "out" "[I"]
def wsX5_firstError_r6 : List Cond := [Cond.fieldLink RX2 21 "RoleDoublingPlanner$Play" "in" "[I", Cond.fieldLink RX2 24 "RoleDoublingPlanner$Play" "actor" "[I", Cond.static yX5_isCostumeTime, Cond.initialized RX5, Cond.code yX5_isCostumeTime cX5_isCostumeTime 1 (some .boolean), Cond.methodLink RX3 73 yX3_readEnter, Cond.instanceMethod yX3_readEnter, Cond.selects RX3 yX3_readEnter yX3_readEnter, Cond.code yX3_readEnter cX3_readEnter 2 (some .int), Cond.methodLink RX3 95 yX2_stateAppearance, Cond.instanceMethod yX2_stateAppearance, Cond.selects RX2 yX2_stateAppearance yX2_stateAppearance, Cond.code yX2_stateAppearance cX2_stateAppearance 5 (some .int), Cond.methodLink RX2 65 yX2_admits, Cond.instanceMethod yX2_admits, Cond.selects RX2 yX2_admits yX2_admits, Cond.code yX2_admits cX2_admits 5 (some .boolean), Cond.methodLink RX2 55 yX2_hasRole, Cond.instanceMethod yX2_hasRole, Cond.selects RX2 yX2_hasRole yX2_hasRole, Cond.code yX2_hasRole cX2_hasRole 2 (some .boolean), Cond.methodLink RX2 59 yX2_hasScene, Cond.instanceMethod yX2_hasScene, Cond.selects RX2 yX2_hasScene yX2_hasScene]
def wsX5_firstError_r7 : List Cond := [Cond.code yX2_hasScene cX2_hasScene 2 (some .boolean), Cond.methodLink RX2 69 yX2_putAppearance, Cond.instanceMethod yX2_putAppearance, Cond.selects RX2 yX2_putAppearance yX2_putAppearance, Cond.code yX2_putAppearance cX2_putAppearance 6 none, Cond.fieldLink RX2 27 "RoleDoublingPlanner$Play" "appearing" "[I", Cond.fieldLink RX2 30 "RoleDoublingPlanner$Play" "appearingIn" "[I", Cond.fieldLink RX2 33 "RoleDoublingPlanner$Play" "enterTime" "[I", Cond.fieldLink RX2 36 "RoleDoublingPlanner$Play" "exitTime" "[I", Cond.methodLink RX2 73 yX2_startOf, Cond.instanceMethod yX2_startOf, Cond.selects RX2 yX2_startOf yX2_startOf, Cond.code yX2_startOf cX2_startOf 4 (some .int)]
def wsX5_firstError : List Cond := .code yX5_firstError cX5_firstError 1 (some .int) :: ((wsX5_firstError_r1 ++ (wsX5_firstError_r2 ++ (wsX5_firstError_r3 ++ (wsX5_firstError_r4 ++ (wsX5_firstError_r5 ++ (wsX5_firstError_r6 ++ wsX5_firstError_r7)))))) ++ wsX50 ++ wsX30 ++ wsX20)
def wsX5_errorReason_r1 : List Cond := [Cond.fieldLink RX5 12 "RoleDoublingPlanner" "text" "LRoleDoublingPlanner$PlayText;", Cond.fieldLink RX5 19 "RoleDoublingPlanner" "stated" "LRoleDoublingPlanner$Play;", Cond.fieldLink RX5 77 "RoleDoublingPlanner$PlayText" "reason" "I", Cond.methodLink RX5 63 yX3_readInto, Cond.instanceMethod yX3_readInto, Cond.selects RX3 yX3_readInto yX3_readInto, Cond.initialized RX3, Cond.code yX3_readInto cX3_readInto 3 none, Cond.fieldLink RX3 41 "RoleDoublingPlanner$PlayText" "place" "I", Cond.fieldLink RX3 44 "RoleDoublingPlanner$PlayText" "reason" "I", Cond.fieldLink RX3 19 "RoleDoublingPlanner$PlayText" "length" "I", Cond.fieldLink RX3 47 "RoleDoublingPlanner$PlayText" "statementStart" "I", Cond.methodLink RX3 36 yX2_makeEmpty, Cond.instanceMethod yX2_makeEmpty, Cond.selects RX2 yX2_makeEmpty yX2_makeEmpty, Cond.initialized RX2, Cond.code yX2_makeEmpty cX2_makeEmpty 1 none, Cond.fieldLink RX2 39 "RoleDoublingPlanner$Play" "scenes" "I", Cond.fieldLink RX2 43 "RoleDoublingPlanner$Play" "roles" "I", Cond.fieldLink RX2 46 "RoleDoublingPlanner$Play" "appearances" "I", Cond.methodLink RX3 50 yX3_readStatement, Cond.instanceMethod yX3_readStatement, Cond.selects RX3 yX3_readStatement yX3_readStatement, Cond.code yX3_readStatement cX3_readStatement 2 (some .int)]
def wsX5_errorReason_r2 : List Cond := [Cond.methodLink RX3 54 yX3_readWord, Cond.instanceMethod yX3_readWord, Cond.selects RX3 yX3_readWord yX3_readWord, Cond.code yX3_readWord cX3_readWord 1 none, Cond.fieldLink RX3 102 "RoleDoublingPlanner$PlayText" "wordStart" "I", Cond.fieldLink RX3 9 "RoleDoublingPlanner$PlayText" "signs" "[C", Cond.methodLink RX3 59 yX3_wordIs, Cond.instanceMethod yX3_wordIs, Cond.selects RX3 yX3_wordIs yX3_wordIs, Cond.code yX3_wordIs cX3_wordIs 3 (some .boolean), Cond.methodLink RX3 23 yJ0_length_8abf5, Cond.instanceMethod yJ0_length_8abf5, Cond.selects RJ0 yJ0_length_8abf5 yJ0_length_8abf5, Cond.initialized RJ0, Cond.code yJ0_length_8abf5 cJ0_length_8abf5 1 (some .int), Cond.fieldLink RJ0 9 "java/lang/String" "value" "[B", Cond.methodLink RJ0 335 yJ0_coder_7d493, Cond.instanceMethod yJ0_coder_7d493, Cond.selects RJ0 yJ0_coder_7d493 yJ0_coder_7d493, Cond.code yJ0_coder_7d493 cJ0_coder_7d493 1 (some .byte), Cond.fieldLink RJ0 38 "java/lang/String" "COMPACT_STRINGS" "Z", Cond.fieldLink RJ0 15 "java/lang/String" "coder" "B", Cond.methodLink RX3 28 yJ0_charAt_5068e, Cond.instanceMethod yJ0_charAt_5068e]
def wsX5_errorReason_r3 : List Cond := [Cond.selects RJ0 yJ0_charAt_5068e yJ0_charAt_5068e, Cond.code yJ0_charAt_5068e cJ0_charAt_5068e 2 (some .char), Cond.methodLink RJ0 492 yJ0_isLatin1_aae02, Cond.instanceMethod yJ0_isLatin1_aae02, Cond.selects RJ0 yJ0_isLatin1_aae02 yJ0_isLatin1_aae02, Cond.code yJ0_isLatin1_aae02 cJ0_isLatin1_aae02 1 (some .boolean), Cond.methodLink RJ0 495 yJ1_charAt_3b067, Cond.static yJ1_charAt_3b067, Cond.initialized RJ1, Cond.code yJ1_charAt_3b067 cJ1_charAt_3b067 2 (some .char), Cond.methodLink RJ1 9 yJ0_checkIndex_df160, Cond.static yJ0_checkIndex_df160, Cond.code yJ0_checkIndex_df160 cJ0_checkIndex_df160 2 none, Cond.fieldLink RJ0 1053 "jdk/internal/util/Preconditions" "SIOOBE_FORMATTER" "Ljava/util/function/BiFunction;", Cond.methodLink RJ0 1059 yJ3_checkIndex_8e157, Cond.static yJ3_checkIndex_8e157, Cond.initialized RJ3, Cond.code yJ3_checkIndex_8e157 cJ3_checkIndex_8e157 3 (some .int), Cond.methodLink RJ0 498 yJ2_charAt_3b067, Cond.static yJ2_charAt_3b067, Cond.initialized RJ2, Cond.code yJ2_charAt_3b067 cJ2_charAt_3b067 2 (some .char), Cond.methodLink RJ2 67 yJ2_checkIndex_2214a, Cond.static yJ2_checkIndex_2214a]
def wsX5_errorReason_r4 : List Cond := [Cond.code yJ2_checkIndex_2214a cJ2_checkIndex_2214a 2 none, Cond.methodLink RJ2 48 yJ2_length_9d52b, Cond.static yJ2_length_9d52b, Cond.code yJ2_length_9d52b cJ2_length_9d52b 1 (some .int), Cond.methodLink RJ2 414 yJ0_checkIndex_df160, Cond.methodLink RJ2 71 yJ2_getChar_3b067, Cond.static yJ2_getChar_3b067, Cond.code yJ2_getChar_3b067 cJ2_getChar_3b067 2 (some .char), Cond.fieldLink RJ2 44 "java/lang/StringUTF16" "$assertionsDisabled" "Z", Cond.fieldLink RJ2 59 "java/lang/StringUTF16" "HI_BYTE_SHIFT" "I", Cond.fieldLink RJ2 63 "java/lang/StringUTF16" "LO_BYTE_SHIFT" "I", Cond.methodLink RX3 63 yX3_readScene, Cond.instanceMethod yX3_readScene, Cond.selects RX3 yX3_readScene yX3_readScene, Cond.code yX3_readScene cX3_readScene 2 (some .int), Cond.fieldLink RX3 15 "RoleDoublingPlanner$PlayText" "numbers" "[I", Cond.methodLink RX3 76 yX3_readNumbersAndEnd, Cond.instanceMethod yX3_readNumbersAndEnd, Cond.selects RX3 yX3_readNumbersAndEnd yX3_readNumbersAndEnd, Cond.code yX3_readNumbersAndEnd cX3_readNumbersAndEnd 3 (some .boolean), Cond.methodLink RX3 84 yX3_readSign, Cond.instanceMethod yX3_readSign, Cond.selects RX3 yX3_readSign yX3_readSign, Cond.code yX3_readSign cX3_readSign 2 (some .boolean)]
def wsX5_errorReason_r5 : List Cond := [Cond.methodLink RX3 99 yX3_wordAsNumber, Cond.instanceMethod yX3_wordAsNumber, Cond.selects RX3 yX3_wordAsNumber yX3_wordAsNumber, Cond.code yX3_wordAsNumber cX3_wordAsNumber 4 (some .int), Cond.methodLink RX3 80 yX2_stateScene, Cond.instanceMethod yX2_stateScene, Cond.selects RX2 yX2_stateScene yX2_stateScene, Cond.code yX2_stateScene cX2_stateScene 2 (some .int), Cond.fieldLink RX2 9 "RoleDoublingPlanner$Play" "sceneLength" "[I", Cond.methodLink RX3 68 yX3_readRole, Cond.instanceMethod yX3_readRole, Cond.selects RX3 yX3_readRole yX3_readRole, Cond.code yX3_readRole cX3_readRole 3 (some .int), Cond.methodLink RX3 88 yX3_wordAsVoice, Cond.instanceMethod yX3_wordAsVoice, Cond.selects RX3 yX3_wordAsVoice yX3_wordAsVoice, Cond.code yX3_wordAsVoice cX3_wordAsVoice 1 (some .int), Cond.methodLink RX3 91 yX2_stateRole, Cond.instanceMethod yX2_stateRole, Cond.selects RX2 yX2_stateRole yX2_stateRole, Cond.code yX2_stateRole cX2_stateRole 4 (some .int), Cond.fieldLink RX2 15 "RoleDoublingPlanner$Play" "voice" "[I", Cond.fieldLink RX2 18 "RoleDoublingPlanner$Play" "out" "[I", Cond.fieldLink RX2 21 "RoleDoublingPlanner$Play" "in" "[I"]
def wsX5_errorReason_r6 : List Cond := [Cond.fieldLink RX2 24 "RoleDoublingPlanner$Play" "actor" "[I", Cond.static yX5_isCostumeTime, Cond.initialized RX5, Cond.code yX5_isCostumeTime cX5_isCostumeTime 1 (some .boolean), Cond.methodLink RX3 73 yX3_readEnter, Cond.instanceMethod yX3_readEnter, Cond.selects RX3 yX3_readEnter yX3_readEnter, Cond.code yX3_readEnter cX3_readEnter 2 (some .int), Cond.methodLink RX3 95 yX2_stateAppearance, Cond.instanceMethod yX2_stateAppearance, Cond.selects RX2 yX2_stateAppearance yX2_stateAppearance, Cond.code yX2_stateAppearance cX2_stateAppearance 5 (some .int), Cond.methodLink RX2 65 yX2_admits, Cond.instanceMethod yX2_admits, Cond.selects RX2 yX2_admits yX2_admits, Cond.code yX2_admits cX2_admits 5 (some .boolean), Cond.methodLink RX2 55 yX2_hasRole, Cond.instanceMethod yX2_hasRole, Cond.selects RX2 yX2_hasRole yX2_hasRole, Cond.code yX2_hasRole cX2_hasRole 2 (some .boolean), Cond.methodLink RX2 59 yX2_hasScene, Cond.instanceMethod yX2_hasScene, Cond.selects RX2 yX2_hasScene yX2_hasScene, Cond.code yX2_hasScene cX2_hasScene 2 (some .boolean)]
def wsX5_errorReason_r7 : List Cond := [Cond.methodLink RX2 69 yX2_putAppearance, Cond.instanceMethod yX2_putAppearance, Cond.selects RX2 yX2_putAppearance yX2_putAppearance, Cond.code yX2_putAppearance cX2_putAppearance 6 none, Cond.fieldLink RX2 27 "RoleDoublingPlanner$Play" "appearing" "[I", Cond.fieldLink RX2 30 "RoleDoublingPlanner$Play" "appearingIn" "[I", Cond.fieldLink RX2 33 "RoleDoublingPlanner$Play" "enterTime" "[I", Cond.fieldLink RX2 36 "RoleDoublingPlanner$Play" "exitTime" "[I", Cond.methodLink RX2 73 yX2_startOf, Cond.instanceMethod yX2_startOf, Cond.selects RX2 yX2_startOf yX2_startOf, Cond.code yX2_startOf cX2_startOf 4 (some .int)]
def wsX5_errorReason : List Cond := .code yX5_errorReason cX5_errorReason 1 (some .int) :: ((wsX5_errorReason_r1 ++ (wsX5_errorReason_r2 ++ (wsX5_errorReason_r3 ++ (wsX5_errorReason_r4 ++ (wsX5_errorReason_r5 ++ (wsX5_errorReason_r6 ++ wsX5_errorReason_r7)))))) ++ wsX50 ++ wsX30 ++ wsX20)
def wsX5_configure_r1 : List Cond := [Cond.fieldLink RX5 12 "RoleDoublingPlanner" "text" "LRoleDoublingPlanner$PlayText;", Cond.fieldLink RX5 19 "RoleDoublingPlanner" "stated" "LRoleDoublingPlanner$Play;", Cond.fieldLink RX5 77 "RoleDoublingPlanner$PlayText" "reason" "I", Cond.fieldLink RX5 83 "RoleDoublingPlanner$Play" "scenes" "I", Cond.fieldLink RX5 86 "RoleDoublingPlanner$Play" "roles" "I", Cond.fieldLink RX5 23 "RoleDoublingPlanner" "play" "LRoleDoublingPlanner$Play;", Cond.methodLink RX5 63 yX3_readInto, Cond.instanceMethod yX3_readInto, Cond.selects RX3 yX3_readInto yX3_readInto, Cond.initialized RX3, Cond.code yX3_readInto cX3_readInto 3 none, Cond.fieldLink RX3 41 "RoleDoublingPlanner$PlayText" "place" "I", Cond.fieldLink RX3 44 "RoleDoublingPlanner$PlayText" "reason" "I", Cond.fieldLink RX3 19 "RoleDoublingPlanner$PlayText" "length" "I", Cond.fieldLink RX3 47 "RoleDoublingPlanner$PlayText" "statementStart" "I", Cond.methodLink RX3 36 yX2_makeEmpty, Cond.instanceMethod yX2_makeEmpty, Cond.selects RX2 yX2_makeEmpty yX2_makeEmpty, Cond.initialized RX2, Cond.code yX2_makeEmpty cX2_makeEmpty 1 none, Cond.fieldLink RX2 39 "RoleDoublingPlanner$Play" "scenes" "I", Cond.fieldLink RX2 43 "RoleDoublingPlanner$Play" "roles" "I", Cond.fieldLink RX2 46 "RoleDoublingPlanner$Play" "appearances" "I", Cond.methodLink RX3 50 yX3_readStatement]
def wsX5_configure_r2 : List Cond := [Cond.instanceMethod yX3_readStatement, Cond.selects RX3 yX3_readStatement yX3_readStatement, Cond.code yX3_readStatement cX3_readStatement 2 (some .int), Cond.methodLink RX3 54 yX3_readWord, Cond.instanceMethod yX3_readWord, Cond.selects RX3 yX3_readWord yX3_readWord, Cond.code yX3_readWord cX3_readWord 1 none, Cond.fieldLink RX3 102 "RoleDoublingPlanner$PlayText" "wordStart" "I", Cond.fieldLink RX3 9 "RoleDoublingPlanner$PlayText" "signs" "[C", Cond.methodLink RX3 59 yX3_wordIs, Cond.instanceMethod yX3_wordIs, Cond.selects RX3 yX3_wordIs yX3_wordIs, Cond.code yX3_wordIs cX3_wordIs 3 (some .boolean), Cond.methodLink RX3 23 yJ0_length_8abf5, Cond.instanceMethod yJ0_length_8abf5, Cond.selects RJ0 yJ0_length_8abf5 yJ0_length_8abf5, Cond.initialized RJ0, Cond.code yJ0_length_8abf5 cJ0_length_8abf5 1 (some .int), Cond.fieldLink RJ0 9 "java/lang/String" "value" "[B", Cond.methodLink RJ0 335 yJ0_coder_7d493, Cond.instanceMethod yJ0_coder_7d493, Cond.selects RJ0 yJ0_coder_7d493 yJ0_coder_7d493, Cond.code yJ0_coder_7d493 cJ0_coder_7d493 1 (some .byte), Cond.fieldLink RJ0 38 "java/lang/String" "COMPACT_STRINGS" "Z"]
def wsX5_configure_r3 : List Cond := [Cond.fieldLink RJ0 15 "java/lang/String" "coder" "B", Cond.methodLink RX3 28 yJ0_charAt_5068e, Cond.instanceMethod yJ0_charAt_5068e, Cond.selects RJ0 yJ0_charAt_5068e yJ0_charAt_5068e, Cond.code yJ0_charAt_5068e cJ0_charAt_5068e 2 (some .char), Cond.methodLink RJ0 492 yJ0_isLatin1_aae02, Cond.instanceMethod yJ0_isLatin1_aae02, Cond.selects RJ0 yJ0_isLatin1_aae02 yJ0_isLatin1_aae02, Cond.code yJ0_isLatin1_aae02 cJ0_isLatin1_aae02 1 (some .boolean), Cond.methodLink RJ0 495 yJ1_charAt_3b067, Cond.static yJ1_charAt_3b067, Cond.initialized RJ1, Cond.code yJ1_charAt_3b067 cJ1_charAt_3b067 2 (some .char), Cond.methodLink RJ1 9 yJ0_checkIndex_df160, Cond.static yJ0_checkIndex_df160, Cond.code yJ0_checkIndex_df160 cJ0_checkIndex_df160 2 none, Cond.fieldLink RJ0 1053 "jdk/internal/util/Preconditions" "SIOOBE_FORMATTER" "Ljava/util/function/BiFunction;", Cond.methodLink RJ0 1059 yJ3_checkIndex_8e157, Cond.static yJ3_checkIndex_8e157, Cond.initialized RJ3, Cond.code yJ3_checkIndex_8e157 cJ3_checkIndex_8e157 3 (some .int), Cond.methodLink RJ0 498 yJ2_charAt_3b067, Cond.static yJ2_charAt_3b067, Cond.initialized RJ2]
def wsX5_configure_r4 : List Cond := [Cond.code yJ2_charAt_3b067 cJ2_charAt_3b067 2 (some .char), Cond.methodLink RJ2 67 yJ2_checkIndex_2214a, Cond.static yJ2_checkIndex_2214a, Cond.code yJ2_checkIndex_2214a cJ2_checkIndex_2214a 2 none, Cond.methodLink RJ2 48 yJ2_length_9d52b, Cond.static yJ2_length_9d52b, Cond.code yJ2_length_9d52b cJ2_length_9d52b 1 (some .int), Cond.methodLink RJ2 414 yJ0_checkIndex_df160, Cond.methodLink RJ2 71 yJ2_getChar_3b067, Cond.static yJ2_getChar_3b067, Cond.code yJ2_getChar_3b067 cJ2_getChar_3b067 2 (some .char), Cond.fieldLink RJ2 44 "java/lang/StringUTF16" "$assertionsDisabled" "Z", Cond.fieldLink RJ2 59 "java/lang/StringUTF16" "HI_BYTE_SHIFT" "I", Cond.fieldLink RJ2 63 "java/lang/StringUTF16" "LO_BYTE_SHIFT" "I", Cond.methodLink RX3 63 yX3_readScene, Cond.instanceMethod yX3_readScene, Cond.selects RX3 yX3_readScene yX3_readScene, Cond.code yX3_readScene cX3_readScene 2 (some .int), Cond.fieldLink RX3 15 "RoleDoublingPlanner$PlayText" "numbers" "[I", Cond.methodLink RX3 76 yX3_readNumbersAndEnd, Cond.instanceMethod yX3_readNumbersAndEnd, Cond.selects RX3 yX3_readNumbersAndEnd yX3_readNumbersAndEnd, Cond.code yX3_readNumbersAndEnd cX3_readNumbersAndEnd 3 (some .boolean), Cond.methodLink RX3 84 yX3_readSign]
def wsX5_configure_r5 : List Cond := [Cond.instanceMethod yX3_readSign, Cond.selects RX3 yX3_readSign yX3_readSign, Cond.code yX3_readSign cX3_readSign 2 (some .boolean), Cond.methodLink RX3 99 yX3_wordAsNumber, Cond.instanceMethod yX3_wordAsNumber, Cond.selects RX3 yX3_wordAsNumber yX3_wordAsNumber, Cond.code yX3_wordAsNumber cX3_wordAsNumber 4 (some .int), Cond.methodLink RX3 80 yX2_stateScene, Cond.instanceMethod yX2_stateScene, Cond.selects RX2 yX2_stateScene yX2_stateScene, Cond.code yX2_stateScene cX2_stateScene 2 (some .int), Cond.fieldLink RX2 9 "RoleDoublingPlanner$Play" "sceneLength" "[I", Cond.methodLink RX3 68 yX3_readRole, Cond.instanceMethod yX3_readRole, Cond.selects RX3 yX3_readRole yX3_readRole, Cond.code yX3_readRole cX3_readRole 3 (some .int), Cond.methodLink RX3 88 yX3_wordAsVoice, Cond.instanceMethod yX3_wordAsVoice, Cond.selects RX3 yX3_wordAsVoice yX3_wordAsVoice, Cond.code yX3_wordAsVoice cX3_wordAsVoice 1 (some .int), Cond.methodLink RX3 91 yX2_stateRole, Cond.instanceMethod yX2_stateRole, Cond.selects RX2 yX2_stateRole yX2_stateRole, Cond.code yX2_stateRole cX2_stateRole 4 (some .int)]
def wsX5_configure_r6 : List Cond := [Cond.fieldLink RX2 15 "RoleDoublingPlanner$Play" "voice" "[I", Cond.fieldLink RX2 18 "RoleDoublingPlanner$Play" "out" "[I", Cond.fieldLink RX2 21 "RoleDoublingPlanner$Play" "in" "[I", Cond.fieldLink RX2 24 "RoleDoublingPlanner$Play" "actor" "[I", Cond.static yX5_isCostumeTime, Cond.initialized RX5, Cond.code yX5_isCostumeTime cX5_isCostumeTime 1 (some .boolean), Cond.methodLink RX3 73 yX3_readEnter, Cond.instanceMethod yX3_readEnter, Cond.selects RX3 yX3_readEnter yX3_readEnter, Cond.code yX3_readEnter cX3_readEnter 2 (some .int), Cond.methodLink RX3 95 yX2_stateAppearance, Cond.instanceMethod yX2_stateAppearance, Cond.selects RX2 yX2_stateAppearance yX2_stateAppearance, Cond.code yX2_stateAppearance cX2_stateAppearance 5 (some .int), Cond.methodLink RX2 65 yX2_admits, Cond.instanceMethod yX2_admits, Cond.selects RX2 yX2_admits yX2_admits, Cond.code yX2_admits cX2_admits 5 (some .boolean), Cond.methodLink RX2 55 yX2_hasRole, Cond.instanceMethod yX2_hasRole, Cond.selects RX2 yX2_hasRole yX2_hasRole, Cond.code yX2_hasRole cX2_hasRole 2 (some .boolean), Cond.methodLink RX2 59 yX2_hasScene]
def wsX5_configure_r7 : List Cond := [Cond.instanceMethod yX2_hasScene, Cond.selects RX2 yX2_hasScene yX2_hasScene, Cond.code yX2_hasScene cX2_hasScene 2 (some .boolean), Cond.methodLink RX2 69 yX2_putAppearance, Cond.instanceMethod yX2_putAppearance, Cond.selects RX2 yX2_putAppearance yX2_putAppearance, Cond.code yX2_putAppearance cX2_putAppearance 6 none, Cond.fieldLink RX2 27 "RoleDoublingPlanner$Play" "appearing" "[I", Cond.fieldLink RX2 30 "RoleDoublingPlanner$Play" "appearingIn" "[I", Cond.fieldLink RX2 33 "RoleDoublingPlanner$Play" "enterTime" "[I", Cond.fieldLink RX2 36 "RoleDoublingPlanner$Play" "exitTime" "[I", Cond.methodLink RX2 73 yX2_startOf, Cond.instanceMethod yX2_startOf, Cond.selects RX2 yX2_startOf yX2_startOf, Cond.code yX2_startOf cX2_startOf 4 (some .int), Cond.methodLink RX5 66 yX5_startStatedPlay, Cond.instanceMethod yX5_startStatedPlay, Cond.selects RX5 yX5_startStatedPlay yX5_startStatedPlay, Cond.code yX5_startStatedPlay cX5_startStatedPlay 1 none, Cond.fieldLink RX5 45 "RoleDoublingPlanner" "history" "LRoleDoublingPlanner$History;", Cond.fieldLink RX5 157 "RoleDoublingPlanner$History" "kept" "I", Cond.fieldLink RX5 31 "RoleDoublingPlanner" "slacks" "LRoleDoublingPlanner$Slacks;", Cond.methodLink RX5 210 yX2_copyFrom, Cond.instanceMethod yX2_copyFrom]
def wsX5_configure_r8 : List Cond := [Cond.selects RX2 yX2_copyFrom yX2_copyFrom, Cond.code yX2_copyFrom cX2_copyFrom 2 none, Cond.methodLink RX2 49 arraycopyName, Cond.native arraycopyName, Cond.static arraycopyName, Cond.initialized "java/lang/System", Cond.methodLink RX5 103 yX4_measure, Cond.instanceMethod yX4_measure, Cond.selects RX4 yX4_measure yX4_measure, Cond.initialized RX4, Cond.code yX4_measure cX4_measure 3 none, Cond.fieldLink RX4 11 "RoleDoublingPlanner$Slacks" "table" "[[I", Cond.fieldLink RX4 16 "RoleDoublingPlanner$Slacks" "play" "LRoleDoublingPlanner$Play;", Cond.fieldLink RX4 20 "RoleDoublingPlanner$Play" "appearances" "I", Cond.methodLink RX4 26 yX4_compare, Cond.instanceMethod yX4_compare, Cond.selects RX4 yX4_compare yX4_compare, Cond.code yX4_compare cX4_compare 6 none, Cond.fieldLink RX4 30 "RoleDoublingPlanner$Play" "appearing" "[I", Cond.fieldLink RX4 34 "RoleDoublingPlanner$Play" "exitTime" "[I", Cond.fieldLink RX4 37 "RoleDoublingPlanner$Play" "enterTime" "[I", Cond.methodLink RX4 40 yX4_slackFrom, Cond.instanceMethod yX4_slackFrom, Cond.selects RX4 yX4_slackFrom yX4_slackFrom]
def wsX5_configure_r9 : List Cond := [Cond.code yX4_slackFrom cX4_slackFrom 4 (some .int), Cond.fieldLink RX4 47 "RoleDoublingPlanner$Play" "out" "[I", Cond.fieldLink RX4 50 "RoleDoublingPlanner$Play" "in" "[I", Cond.static yX5_lesserSlack, Cond.code yX5_lesserSlack cX5_lesserSlack 2 (some .int), Cond.methodLink RX5 216 Lib.Math.min.name, Cond.static Lib.Math.min.name, Cond.initialized "java/lang/Math", Cond.code Lib.Math.min.name Lib.Math.min.code 2 (some .int)]
def wsX5_configure : List Cond := .code yX5_configure cX5_configure 1 (some .int) :: ((wsX5_configure_r1 ++ (wsX5_configure_r2 ++ (wsX5_configure_r3 ++ (wsX5_configure_r4 ++ (wsX5_configure_r5 ++ (wsX5_configure_r6 ++ (wsX5_configure_r7 ++ (wsX5_configure_r8 ++ wsX5_configure_r9)))))))) ++ wsX50 ++ wsX30 ++ wsX20 ++ wsX10 ++ wsX40)
def wsX5_hasRivalOf : List Cond := .code yX5_hasRivalOf cX5_hasRivalOf 5 (some .boolean) :: ([.fieldLink RX5 23 "RoleDoublingPlanner" "play" "LRoleDoublingPlanner$Play;", .fieldLink RX5 135 "RoleDoublingPlanner$Play" "actor" "[I", .fieldLink RX5 31 "RoleDoublingPlanner" "slacks" "LRoleDoublingPlanner$Slacks;", .methodLink RX5 191 yX4_reason, .instanceMethod yX4_reason, .selects RX4 yX4_reason yX4_reason, .initialized RX4, .code yX4_reason cX4_reason 5 (some .int), .fieldLink RX4 16 "RoleDoublingPlanner$Slacks" "play" "LRoleDoublingPlanner$Play;", .fieldLink RX4 53 "RoleDoublingPlanner$Play" "voice" "[I", .fieldLink RX4 11 "RoleDoublingPlanner$Slacks" "table" "[[I"] ++ wsX50 ++ wsX20 ++ wsX40)
def wsX5_freeRivals : List Cond := .code yX5_freeRivals cX5_freeRivals 4 (some .int) :: ([.fieldLink RX5 23 "RoleDoublingPlanner" "play" "LRoleDoublingPlanner$Play;", .fieldLink RX5 86 "RoleDoublingPlanner$Play" "roles" "I", .fieldLink RX5 135 "RoleDoublingPlanner$Play" "actor" "[I", .methodLink RX5 131 yX5_hasRivalOf, .instanceMethod yX5_hasRivalOf, .selects RX5 yX5_hasRivalOf yX5_hasRivalOf, .initialized RX5, .code yX5_hasRivalOf cX5_hasRivalOf 5 (some .boolean), .fieldLink RX5 31 "RoleDoublingPlanner" "slacks" "LRoleDoublingPlanner$Slacks;", .methodLink RX5 191 yX4_reason, .instanceMethod yX4_reason, .selects RX4 yX4_reason yX4_reason, .initialized RX4, .code yX4_reason cX4_reason 5 (some .int), .fieldLink RX4 16 "RoleDoublingPlanner$Slacks" "play" "LRoleDoublingPlanner$Play;", .fieldLink RX4 53 "RoleDoublingPlanner$Play" "voice" "[I", .fieldLink RX4 11 "RoleDoublingPlanner$Slacks" "table" "[[I"] ++ wsX50 ++ wsX20 ++ wsX40)
def wsX5_addAppearance_r1 : List Cond := [Cond.fieldLink RX5 23 "RoleDoublingPlanner" "play" "LRoleDoublingPlanner$Play;", Cond.fieldLink RX5 93 "RoleDoublingPlanner$Play" "appearances" "I", Cond.fieldLink RX5 45 "RoleDoublingPlanner" "history" "LRoleDoublingPlanner$History;", Cond.fieldLink RX5 31 "RoleDoublingPlanner" "slacks" "LRoleDoublingPlanner$Slacks;", Cond.methodLink RX5 89 yX2_admits, Cond.instanceMethod yX2_admits, Cond.selects RX2 yX2_admits yX2_admits, Cond.initialized RX2, Cond.code yX2_admits cX2_admits 5 (some .boolean), Cond.fieldLink RX2 9 "RoleDoublingPlanner$Play" "sceneLength" "[I", Cond.methodLink RX2 55 yX2_hasRole, Cond.instanceMethod yX2_hasRole, Cond.selects RX2 yX2_hasRole yX2_hasRole, Cond.code yX2_hasRole cX2_hasRole 2 (some .boolean), Cond.fieldLink RX2 43 "RoleDoublingPlanner$Play" "roles" "I", Cond.methodLink RX2 59 yX2_hasScene, Cond.instanceMethod yX2_hasScene, Cond.selects RX2 yX2_hasScene yX2_hasScene, Cond.code yX2_hasScene cX2_hasScene 2 (some .boolean), Cond.fieldLink RX2 39 "RoleDoublingPlanner$Play" "scenes" "I", Cond.methodLink RX5 96 yX1_remember, Cond.instanceMethod yX1_remember, Cond.selects RX1 yX1_remember yX1_remember, Cond.initialized RX1]
def wsX5_addAppearance_r2 : List Cond := [Cond.code yX1_remember cX1_remember 2 none, Cond.fieldLink RX1 18 "RoleDoublingPlanner$History" "kept" "I", Cond.fieldLink RX1 11 "RoleDoublingPlanner$History" "past" "[LRoleDoublingPlanner$Play;", Cond.methodLink RX1 22 yX1_forgetOldest, Cond.instanceMethod yX1_forgetOldest, Cond.selects RX1 yX1_forgetOldest yX1_forgetOldest, Cond.code yX1_forgetOldest cX1_forgetOldest 3 none, Cond.methodLink RX1 25 yX2_copyFrom, Cond.instanceMethod yX2_copyFrom, Cond.selects RX2 yX2_copyFrom yX2_copyFrom, Cond.code yX2_copyFrom cX2_copyFrom 2 none, Cond.fieldLink RX2 46 "RoleDoublingPlanner$Play" "appearances" "I", Cond.methodLink RX2 49 arraycopyName, Cond.native arraycopyName, Cond.static arraycopyName, Cond.initialized "java/lang/System", Cond.fieldLink RX2 15 "RoleDoublingPlanner$Play" "voice" "[I", Cond.fieldLink RX2 18 "RoleDoublingPlanner$Play" "out" "[I", Cond.fieldLink RX2 21 "RoleDoublingPlanner$Play" "in" "[I", Cond.fieldLink RX2 24 "RoleDoublingPlanner$Play" "actor" "[I", Cond.fieldLink RX2 27 "RoleDoublingPlanner$Play" "appearing" "[I", Cond.fieldLink RX2 30 "RoleDoublingPlanner$Play" "appearingIn" "[I", Cond.fieldLink RX2 33 "RoleDoublingPlanner$Play" "enterTime" "[I", Cond.fieldLink RX2 36 "RoleDoublingPlanner$Play" "exitTime" "[I"]
def wsX5_addAppearance_r3 : List Cond := [Cond.methodLink RX5 99 yX2_putAppearance, Cond.instanceMethod yX2_putAppearance, Cond.selects RX2 yX2_putAppearance yX2_putAppearance, Cond.code yX2_putAppearance cX2_putAppearance 6 none, Cond.methodLink RX2 73 yX2_startOf, Cond.instanceMethod yX2_startOf, Cond.selects RX2 yX2_startOf yX2_startOf, Cond.code yX2_startOf cX2_startOf 4 (some .int), Cond.methodLink RX5 103 yX4_measure, Cond.instanceMethod yX4_measure, Cond.selects RX4 yX4_measure yX4_measure, Cond.initialized RX4, Cond.code yX4_measure cX4_measure 3 none, Cond.fieldLink RX4 11 "RoleDoublingPlanner$Slacks" "table" "[[I", Cond.fieldLink RX4 16 "RoleDoublingPlanner$Slacks" "play" "LRoleDoublingPlanner$Play;", Cond.fieldLink RX4 20 "RoleDoublingPlanner$Play" "appearances" "I", Cond.methodLink RX4 26 yX4_compare, Cond.instanceMethod yX4_compare, Cond.selects RX4 yX4_compare yX4_compare, Cond.code yX4_compare cX4_compare 6 none, Cond.fieldLink RX4 30 "RoleDoublingPlanner$Play" "appearing" "[I", Cond.fieldLink RX4 34 "RoleDoublingPlanner$Play" "exitTime" "[I", Cond.fieldLink RX4 37 "RoleDoublingPlanner$Play" "enterTime" "[I", Cond.methodLink RX4 40 yX4_slackFrom]
def wsX5_addAppearance_r4 : List Cond := [Cond.instanceMethod yX4_slackFrom, Cond.selects RX4 yX4_slackFrom yX4_slackFrom, Cond.code yX4_slackFrom cX4_slackFrom 4 (some .int), Cond.fieldLink RX4 47 "RoleDoublingPlanner$Play" "out" "[I", Cond.fieldLink RX4 50 "RoleDoublingPlanner$Play" "in" "[I", Cond.static yX5_lesserSlack, Cond.initialized RX5, Cond.code yX5_lesserSlack cX5_lesserSlack 2 (some .int), Cond.methodLink RX5 216 Lib.Math.min.name, Cond.static Lib.Math.min.name, Cond.initialized "java/lang/Math", Cond.code Lib.Math.min.name Lib.Math.min.code 2 (some .int), Cond.methodLink RX5 106 yX5_freeRivals, Cond.instanceMethod yX5_freeRivals, Cond.selects RX5 yX5_freeRivals yX5_freeRivals, Cond.code yX5_freeRivals cX5_freeRivals 4 (some .int), Cond.fieldLink RX5 86 "RoleDoublingPlanner$Play" "roles" "I", Cond.fieldLink RX5 135 "RoleDoublingPlanner$Play" "actor" "[I", Cond.methodLink RX5 131 yX5_hasRivalOf, Cond.instanceMethod yX5_hasRivalOf, Cond.selects RX5 yX5_hasRivalOf yX5_hasRivalOf, Cond.code yX5_hasRivalOf cX5_hasRivalOf 5 (some .boolean), Cond.methodLink RX5 191 yX4_reason, Cond.instanceMethod yX4_reason]
def wsX5_addAppearance_r5 : List Cond := [Cond.selects RX4 yX4_reason yX4_reason, Cond.code yX4_reason cX4_reason 5 (some .int), Cond.fieldLink RX4 53 "RoleDoublingPlanner$Play" "voice" "[I"]
def wsX5_addAppearance : List Cond := .code yX5_addAppearance cX5_addAppearance 5 (some .int) :: ((wsX5_addAppearance_r1 ++ (wsX5_addAppearance_r2 ++ (wsX5_addAppearance_r3 ++ (wsX5_addAppearance_r4 ++ wsX5_addAppearance_r5)))) ++ wsX50 ++ wsX20 ++ wsX10 ++ wsX40)
def wsX5_removeAppearance_r1 : List Cond := [Cond.fieldLink RX5 23 "RoleDoublingPlanner" "play" "LRoleDoublingPlanner$Play;", Cond.fieldLink RX5 93 "RoleDoublingPlanner$Play" "appearances" "I", Cond.fieldLink RX5 45 "RoleDoublingPlanner" "history" "LRoleDoublingPlanner$History;", Cond.fieldLink RX5 31 "RoleDoublingPlanner" "slacks" "LRoleDoublingPlanner$Slacks;", Cond.methodLink RX5 96 yX1_remember, Cond.instanceMethod yX1_remember, Cond.selects RX1 yX1_remember yX1_remember, Cond.initialized RX1, Cond.code yX1_remember cX1_remember 2 none, Cond.fieldLink RX1 18 "RoleDoublingPlanner$History" "kept" "I", Cond.fieldLink RX1 11 "RoleDoublingPlanner$History" "past" "[LRoleDoublingPlanner$Play;", Cond.methodLink RX1 22 yX1_forgetOldest, Cond.instanceMethod yX1_forgetOldest, Cond.selects RX1 yX1_forgetOldest yX1_forgetOldest, Cond.code yX1_forgetOldest cX1_forgetOldest 3 none, Cond.methodLink RX1 25 yX2_copyFrom, Cond.instanceMethod yX2_copyFrom, Cond.selects RX2 yX2_copyFrom yX2_copyFrom, Cond.initialized RX2, Cond.code yX2_copyFrom cX2_copyFrom 2 none, Cond.fieldLink RX2 39 "RoleDoublingPlanner$Play" "scenes" "I", Cond.fieldLink RX2 43 "RoleDoublingPlanner$Play" "roles" "I", Cond.fieldLink RX2 46 "RoleDoublingPlanner$Play" "appearances" "I", Cond.fieldLink RX2 9 "RoleDoublingPlanner$Play" "sceneLength" "[I"]
def wsX5_removeAppearance_r2 : List Cond := [Cond.methodLink RX2 49 arraycopyName, Cond.native arraycopyName, Cond.static arraycopyName, Cond.initialized "java/lang/System", Cond.fieldLink RX2 15 "RoleDoublingPlanner$Play" "voice" "[I", Cond.fieldLink RX2 18 "RoleDoublingPlanner$Play" "out" "[I", Cond.fieldLink RX2 21 "RoleDoublingPlanner$Play" "in" "[I", Cond.fieldLink RX2 24 "RoleDoublingPlanner$Play" "actor" "[I", Cond.fieldLink RX2 27 "RoleDoublingPlanner$Play" "appearing" "[I", Cond.fieldLink RX2 30 "RoleDoublingPlanner$Play" "appearingIn" "[I", Cond.fieldLink RX2 33 "RoleDoublingPlanner$Play" "enterTime" "[I", Cond.fieldLink RX2 36 "RoleDoublingPlanner$Play" "exitTime" "[I", Cond.methodLink RX5 110 yX2_dropAppearance, Cond.instanceMethod yX2_dropAppearance, Cond.selects RX2 yX2_dropAppearance yX2_dropAppearance, Cond.code yX2_dropAppearance cX2_dropAppearance 3 none, Cond.methodLink RX5 103 yX4_measure, Cond.instanceMethod yX4_measure, Cond.selects RX4 yX4_measure yX4_measure, Cond.initialized RX4, Cond.code yX4_measure cX4_measure 3 none, Cond.fieldLink RX4 11 "RoleDoublingPlanner$Slacks" "table" "[[I", Cond.fieldLink RX4 16 "RoleDoublingPlanner$Slacks" "play" "LRoleDoublingPlanner$Play;", Cond.fieldLink RX4 20 "RoleDoublingPlanner$Play" "appearances" "I"]
def wsX5_removeAppearance_r3 : List Cond := [Cond.methodLink RX4 26 yX4_compare, Cond.instanceMethod yX4_compare, Cond.selects RX4 yX4_compare yX4_compare, Cond.code yX4_compare cX4_compare 6 none, Cond.fieldLink RX4 30 "RoleDoublingPlanner$Play" "appearing" "[I", Cond.fieldLink RX4 34 "RoleDoublingPlanner$Play" "exitTime" "[I", Cond.fieldLink RX4 37 "RoleDoublingPlanner$Play" "enterTime" "[I", Cond.methodLink RX4 40 yX4_slackFrom, Cond.instanceMethod yX4_slackFrom, Cond.selects RX4 yX4_slackFrom yX4_slackFrom, Cond.code yX4_slackFrom cX4_slackFrom 4 (some .int), Cond.fieldLink RX4 47 "RoleDoublingPlanner$Play" "out" "[I", Cond.fieldLink RX4 50 "RoleDoublingPlanner$Play" "in" "[I", Cond.static yX5_lesserSlack, Cond.initialized RX5, Cond.code yX5_lesserSlack cX5_lesserSlack 2 (some .int), Cond.methodLink RX5 216 Lib.Math.min.name, Cond.static Lib.Math.min.name, Cond.initialized "java/lang/Math", Cond.code Lib.Math.min.name Lib.Math.min.code 2 (some .int)]
def wsX5_removeAppearance : List Cond := .code yX5_removeAppearance cX5_removeAppearance 2 (some .int) :: ((wsX5_removeAppearance_r1 ++ (wsX5_removeAppearance_r2 ++ wsX5_removeAppearance_r3)) ++ wsX50 ++ wsX20 ++ wsX10 ++ wsX40)
def wsX5_setChangeTimes_r1 : List Cond := [Cond.fieldLink RX5 23 "RoleDoublingPlanner" "play" "LRoleDoublingPlanner$Play;", Cond.fieldLink RX5 45 "RoleDoublingPlanner" "history" "LRoleDoublingPlanner$History;", Cond.fieldLink RX5 121 "RoleDoublingPlanner$Play" "out" "[I", Cond.fieldLink RX5 125 "RoleDoublingPlanner$Play" "in" "[I", Cond.fieldLink RX5 31 "RoleDoublingPlanner" "slacks" "LRoleDoublingPlanner$Slacks;", Cond.methodLink RX5 114 yX2_hasRole, Cond.instanceMethod yX2_hasRole, Cond.selects RX2 yX2_hasRole yX2_hasRole, Cond.initialized RX2, Cond.code yX2_hasRole cX2_hasRole 2 (some .boolean), Cond.fieldLink RX2 43 "RoleDoublingPlanner$Play" "roles" "I", Cond.methodLink RX5 118 yX5_isCostumeTime, Cond.static yX5_isCostumeTime, Cond.initialized RX5, Cond.code yX5_isCostumeTime cX5_isCostumeTime 1 (some .boolean), Cond.methodLink RX5 96 yX1_remember, Cond.instanceMethod yX1_remember, Cond.selects RX1 yX1_remember yX1_remember, Cond.initialized RX1, Cond.code yX1_remember cX1_remember 2 none, Cond.fieldLink RX1 18 "RoleDoublingPlanner$History" "kept" "I", Cond.fieldLink RX1 11 "RoleDoublingPlanner$History" "past" "[LRoleDoublingPlanner$Play;", Cond.methodLink RX1 22 yX1_forgetOldest, Cond.instanceMethod yX1_forgetOldest]
def wsX5_setChangeTimes_r2 : List Cond := [Cond.selects RX1 yX1_forgetOldest yX1_forgetOldest, Cond.code yX1_forgetOldest cX1_forgetOldest 3 none, Cond.methodLink RX1 25 yX2_copyFrom, Cond.instanceMethod yX2_copyFrom, Cond.selects RX2 yX2_copyFrom yX2_copyFrom, Cond.code yX2_copyFrom cX2_copyFrom 2 none, Cond.fieldLink RX2 39 "RoleDoublingPlanner$Play" "scenes" "I", Cond.fieldLink RX2 46 "RoleDoublingPlanner$Play" "appearances" "I", Cond.fieldLink RX2 9 "RoleDoublingPlanner$Play" "sceneLength" "[I", Cond.methodLink RX2 49 arraycopyName, Cond.native arraycopyName, Cond.static arraycopyName, Cond.initialized "java/lang/System", Cond.fieldLink RX2 15 "RoleDoublingPlanner$Play" "voice" "[I", Cond.fieldLink RX2 18 "RoleDoublingPlanner$Play" "out" "[I", Cond.fieldLink RX2 21 "RoleDoublingPlanner$Play" "in" "[I", Cond.fieldLink RX2 24 "RoleDoublingPlanner$Play" "actor" "[I", Cond.fieldLink RX2 27 "RoleDoublingPlanner$Play" "appearing" "[I", Cond.fieldLink RX2 30 "RoleDoublingPlanner$Play" "appearingIn" "[I", Cond.fieldLink RX2 33 "RoleDoublingPlanner$Play" "enterTime" "[I", Cond.fieldLink RX2 36 "RoleDoublingPlanner$Play" "exitTime" "[I", Cond.methodLink RX5 103 yX4_measure, Cond.instanceMethod yX4_measure, Cond.selects RX4 yX4_measure yX4_measure]
def wsX5_setChangeTimes_r3 : List Cond := [Cond.initialized RX4, Cond.code yX4_measure cX4_measure 3 none, Cond.fieldLink RX4 11 "RoleDoublingPlanner$Slacks" "table" "[[I", Cond.fieldLink RX4 16 "RoleDoublingPlanner$Slacks" "play" "LRoleDoublingPlanner$Play;", Cond.fieldLink RX4 20 "RoleDoublingPlanner$Play" "appearances" "I", Cond.methodLink RX4 26 yX4_compare, Cond.instanceMethod yX4_compare, Cond.selects RX4 yX4_compare yX4_compare, Cond.code yX4_compare cX4_compare 6 none, Cond.fieldLink RX4 30 "RoleDoublingPlanner$Play" "appearing" "[I", Cond.fieldLink RX4 34 "RoleDoublingPlanner$Play" "exitTime" "[I", Cond.fieldLink RX4 37 "RoleDoublingPlanner$Play" "enterTime" "[I", Cond.methodLink RX4 40 yX4_slackFrom, Cond.instanceMethod yX4_slackFrom, Cond.selects RX4 yX4_slackFrom yX4_slackFrom, Cond.code yX4_slackFrom cX4_slackFrom 4 (some .int), Cond.fieldLink RX4 47 "RoleDoublingPlanner$Play" "out" "[I", Cond.fieldLink RX4 50 "RoleDoublingPlanner$Play" "in" "[I", Cond.static yX5_lesserSlack, Cond.code yX5_lesserSlack cX5_lesserSlack 2 (some .int), Cond.methodLink RX5 216 Lib.Math.min.name, Cond.static Lib.Math.min.name, Cond.initialized "java/lang/Math", Cond.code Lib.Math.min.name Lib.Math.min.code 2 (some .int)]
def wsX5_setChangeTimes_r4 : List Cond := [Cond.methodLink RX5 106 yX5_freeRivals, Cond.instanceMethod yX5_freeRivals, Cond.selects RX5 yX5_freeRivals yX5_freeRivals, Cond.code yX5_freeRivals cX5_freeRivals 4 (some .int), Cond.fieldLink RX5 86 "RoleDoublingPlanner$Play" "roles" "I", Cond.fieldLink RX5 135 "RoleDoublingPlanner$Play" "actor" "[I", Cond.methodLink RX5 131 yX5_hasRivalOf, Cond.instanceMethod yX5_hasRivalOf, Cond.selects RX5 yX5_hasRivalOf yX5_hasRivalOf, Cond.code yX5_hasRivalOf cX5_hasRivalOf 5 (some .boolean), Cond.methodLink RX5 191 yX4_reason, Cond.instanceMethod yX4_reason, Cond.selects RX4 yX4_reason yX4_reason, Cond.code yX4_reason cX4_reason 5 (some .int), Cond.fieldLink RX4 53 "RoleDoublingPlanner$Play" "voice" "[I"]
def wsX5_setChangeTimes : List Cond := .code yX5_setChangeTimes cX5_setChangeTimes 4 (some .int) :: ((wsX5_setChangeTimes_r1 ++ (wsX5_setChangeTimes_r2 ++ (wsX5_setChangeTimes_r3 ++ wsX5_setChangeTimes_r4))) ++ wsX50 ++ wsX20 ++ wsX10 ++ wsX40)
def wsX5_isActor : List Cond := .code yX5_isActor cX5_isActor 1 (some .boolean) :: ([])
def wsX5_cast_r1 : List Cond := [Cond.fieldLink RX5 23 "RoleDoublingPlanner" "play" "LRoleDoublingPlanner$Play;", Cond.fieldLink RX5 86 "RoleDoublingPlanner$Play" "roles" "I", Cond.fieldLink RX5 45 "RoleDoublingPlanner" "history" "LRoleDoublingPlanner$History;", Cond.fieldLink RX5 135 "RoleDoublingPlanner$Play" "actor" "[I", Cond.methodLink RX5 114 yX2_hasRole, Cond.instanceMethod yX2_hasRole, Cond.selects RX2 yX2_hasRole yX2_hasRole, Cond.initialized RX2, Cond.code yX2_hasRole cX2_hasRole 2 (some .boolean), Cond.fieldLink RX2 43 "RoleDoublingPlanner$Play" "roles" "I", Cond.methodLink RX5 128 yX5_isActor, Cond.static yX5_isActor, Cond.initialized RX5, Cond.code yX5_isActor cX5_isActor 1 (some .boolean), Cond.methodLink RX5 131 yX5_hasRivalOf, Cond.instanceMethod yX5_hasRivalOf, Cond.selects RX5 yX5_hasRivalOf yX5_hasRivalOf, Cond.code yX5_hasRivalOf cX5_hasRivalOf 5 (some .boolean), Cond.fieldLink RX5 31 "RoleDoublingPlanner" "slacks" "LRoleDoublingPlanner$Slacks;", Cond.methodLink RX5 191 yX4_reason, Cond.instanceMethod yX4_reason, Cond.selects RX4 yX4_reason yX4_reason, Cond.initialized RX4, Cond.code yX4_reason cX4_reason 5 (some .int)]
def wsX5_cast_r2 : List Cond := [Cond.fieldLink RX4 16 "RoleDoublingPlanner$Slacks" "play" "LRoleDoublingPlanner$Play;", Cond.fieldLink RX4 53 "RoleDoublingPlanner$Play" "voice" "[I", Cond.fieldLink RX4 11 "RoleDoublingPlanner$Slacks" "table" "[[I", Cond.methodLink RX5 96 yX1_remember, Cond.instanceMethod yX1_remember, Cond.selects RX1 yX1_remember yX1_remember, Cond.initialized RX1, Cond.code yX1_remember cX1_remember 2 none, Cond.fieldLink RX1 18 "RoleDoublingPlanner$History" "kept" "I", Cond.fieldLink RX1 11 "RoleDoublingPlanner$History" "past" "[LRoleDoublingPlanner$Play;", Cond.methodLink RX1 22 yX1_forgetOldest, Cond.instanceMethod yX1_forgetOldest, Cond.selects RX1 yX1_forgetOldest yX1_forgetOldest, Cond.code yX1_forgetOldest cX1_forgetOldest 3 none, Cond.methodLink RX1 25 yX2_copyFrom, Cond.instanceMethod yX2_copyFrom, Cond.selects RX2 yX2_copyFrom yX2_copyFrom, Cond.code yX2_copyFrom cX2_copyFrom 2 none, Cond.fieldLink RX2 39 "RoleDoublingPlanner$Play" "scenes" "I", Cond.fieldLink RX2 46 "RoleDoublingPlanner$Play" "appearances" "I", Cond.fieldLink RX2 9 "RoleDoublingPlanner$Play" "sceneLength" "[I", Cond.methodLink RX2 49 arraycopyName, Cond.native arraycopyName, Cond.static arraycopyName]
def wsX5_cast_r3 : List Cond := [Cond.initialized "java/lang/System", Cond.fieldLink RX2 15 "RoleDoublingPlanner$Play" "voice" "[I", Cond.fieldLink RX2 18 "RoleDoublingPlanner$Play" "out" "[I", Cond.fieldLink RX2 21 "RoleDoublingPlanner$Play" "in" "[I", Cond.fieldLink RX2 24 "RoleDoublingPlanner$Play" "actor" "[I", Cond.fieldLink RX2 27 "RoleDoublingPlanner$Play" "appearing" "[I", Cond.fieldLink RX2 30 "RoleDoublingPlanner$Play" "appearingIn" "[I", Cond.fieldLink RX2 33 "RoleDoublingPlanner$Play" "enterTime" "[I", Cond.fieldLink RX2 36 "RoleDoublingPlanner$Play" "exitTime" "[I", Cond.methodLink RX5 138 yX2_rolesWith, Cond.instanceMethod yX2_rolesWith, Cond.selects RX2 yX2_rolesWith yX2_rolesWith, Cond.code yX2_rolesWith cX2_rolesWith 4 (some .int), Cond.methodLink RX5 142 yJ6_bitCount_0f7a4, Cond.static yJ6_bitCount_0f7a4, Cond.initialized RJ6, Cond.code yJ6_bitCount_0f7a4 cJ6_bitCount_0f7a4 1 (some .int), Cond.constant RJ6 265 (1431655765), Cond.constant RJ6 266 (858993459), Cond.constant RJ6 267 (252645135)]
def wsX5_cast : List Cond := .code yX5_cast cX5_cast 3 (some .int) :: ((wsX5_cast_r1 ++ (wsX5_cast_r2 ++ wsX5_cast_r3)) ++ wsX50 ++ wsX20 ++ wsX40 ++ wsX10)
def wsX5_uncast_r1 : List Cond := [Cond.fieldLink RX5 23 "RoleDoublingPlanner" "play" "LRoleDoublingPlanner$Play;", Cond.fieldLink RX5 135 "RoleDoublingPlanner$Play" "actor" "[I", Cond.fieldLink RX5 45 "RoleDoublingPlanner" "history" "LRoleDoublingPlanner$History;", Cond.methodLink RX5 114 yX2_hasRole, Cond.instanceMethod yX2_hasRole, Cond.selects RX2 yX2_hasRole yX2_hasRole, Cond.initialized RX2, Cond.code yX2_hasRole cX2_hasRole 2 (some .boolean), Cond.fieldLink RX2 43 "RoleDoublingPlanner$Play" "roles" "I", Cond.methodLink RX5 96 yX1_remember, Cond.instanceMethod yX1_remember, Cond.selects RX1 yX1_remember yX1_remember, Cond.initialized RX1, Cond.code yX1_remember cX1_remember 2 none, Cond.fieldLink RX1 18 "RoleDoublingPlanner$History" "kept" "I", Cond.fieldLink RX1 11 "RoleDoublingPlanner$History" "past" "[LRoleDoublingPlanner$Play;", Cond.methodLink RX1 22 yX1_forgetOldest, Cond.instanceMethod yX1_forgetOldest, Cond.selects RX1 yX1_forgetOldest yX1_forgetOldest, Cond.code yX1_forgetOldest cX1_forgetOldest 3 none, Cond.methodLink RX1 25 yX2_copyFrom, Cond.instanceMethod yX2_copyFrom, Cond.selects RX2 yX2_copyFrom yX2_copyFrom, Cond.code yX2_copyFrom cX2_copyFrom 2 none]
def wsX5_uncast_r2 : List Cond := [Cond.fieldLink RX2 39 "RoleDoublingPlanner$Play" "scenes" "I", Cond.fieldLink RX2 46 "RoleDoublingPlanner$Play" "appearances" "I", Cond.fieldLink RX2 9 "RoleDoublingPlanner$Play" "sceneLength" "[I", Cond.methodLink RX2 49 arraycopyName, Cond.native arraycopyName, Cond.static arraycopyName, Cond.initialized "java/lang/System", Cond.fieldLink RX2 15 "RoleDoublingPlanner$Play" "voice" "[I", Cond.fieldLink RX2 18 "RoleDoublingPlanner$Play" "out" "[I", Cond.fieldLink RX2 21 "RoleDoublingPlanner$Play" "in" "[I", Cond.fieldLink RX2 24 "RoleDoublingPlanner$Play" "actor" "[I", Cond.fieldLink RX2 27 "RoleDoublingPlanner$Play" "appearing" "[I", Cond.fieldLink RX2 30 "RoleDoublingPlanner$Play" "appearingIn" "[I", Cond.fieldLink RX2 33 "RoleDoublingPlanner$Play" "enterTime" "[I", Cond.fieldLink RX2 36 "RoleDoublingPlanner$Play" "exitTime" "[I"]
def wsX5_uncast : List Cond := .code yX5_uncast cX5_uncast 3 (some .int) :: ((wsX5_uncast_r1 ++ wsX5_uncast_r2) ++ wsX50 ++ wsX20 ++ wsX10)
def wsX5_adoptFirstCast_r1 : List Cond := [Cond.fieldLink RX5 45 "RoleDoublingPlanner" "history" "LRoleDoublingPlanner$History;", Cond.fieldLink RX5 23 "RoleDoublingPlanner" "play" "LRoleDoublingPlanner$Play;", Cond.fieldLink RX5 38 "RoleDoublingPlanner" "casting" "LRoleDoublingPlanner$Casting;", Cond.fieldLink RX5 31 "RoleDoublingPlanner" "slacks" "LRoleDoublingPlanner$Slacks;", Cond.fieldLink RX5 86 "RoleDoublingPlanner$Play" "roles" "I", Cond.fieldLink RX5 135 "RoleDoublingPlanner$Play" "actor" "[I", Cond.methodLink RX5 96 yX1_remember, Cond.instanceMethod yX1_remember, Cond.selects RX1 yX1_remember yX1_remember, Cond.initialized RX1, Cond.code yX1_remember cX1_remember 2 none, Cond.fieldLink RX1 18 "RoleDoublingPlanner$History" "kept" "I", Cond.fieldLink RX1 11 "RoleDoublingPlanner$History" "past" "[LRoleDoublingPlanner$Play;", Cond.methodLink RX1 22 yX1_forgetOldest, Cond.instanceMethod yX1_forgetOldest, Cond.selects RX1 yX1_forgetOldest yX1_forgetOldest, Cond.code yX1_forgetOldest cX1_forgetOldest 3 none, Cond.methodLink RX1 25 yX2_copyFrom, Cond.instanceMethod yX2_copyFrom, Cond.selects RX2 yX2_copyFrom yX2_copyFrom, Cond.initialized RX2, Cond.code yX2_copyFrom cX2_copyFrom 2 none, Cond.fieldLink RX2 39 "RoleDoublingPlanner$Play" "scenes" "I", Cond.fieldLink RX2 43 "RoleDoublingPlanner$Play" "roles" "I"]
def wsX5_adoptFirstCast_r2 : List Cond := [Cond.fieldLink RX2 46 "RoleDoublingPlanner$Play" "appearances" "I", Cond.fieldLink RX2 9 "RoleDoublingPlanner$Play" "sceneLength" "[I", Cond.methodLink RX2 49 arraycopyName, Cond.native arraycopyName, Cond.static arraycopyName, Cond.initialized "java/lang/System", Cond.fieldLink RX2 15 "RoleDoublingPlanner$Play" "voice" "[I", Cond.fieldLink RX2 18 "RoleDoublingPlanner$Play" "out" "[I", Cond.fieldLink RX2 21 "RoleDoublingPlanner$Play" "in" "[I", Cond.fieldLink RX2 24 "RoleDoublingPlanner$Play" "actor" "[I", Cond.fieldLink RX2 27 "RoleDoublingPlanner$Play" "appearing" "[I", Cond.fieldLink RX2 30 "RoleDoublingPlanner$Play" "appearingIn" "[I", Cond.fieldLink RX2 33 "RoleDoublingPlanner$Play" "enterTime" "[I", Cond.fieldLink RX2 36 "RoleDoublingPlanner$Play" "exitTime" "[I", Cond.methodLink RX5 147 yX0_lookAt, Cond.instanceMethod yX0_lookAt, Cond.selects RX0 yX0_lookAt yX0_lookAt, Cond.initialized RX0, Cond.code yX0_lookAt cX0_lookAt 5 none, Cond.fieldLink RX0 18 "RoleDoublingPlanner$Slacks" "play" "LRoleDoublingPlanner$Play;", Cond.fieldLink RX0 24 "RoleDoublingPlanner$Play" "roles" "I", Cond.fieldLink RX0 30 "RoleDoublingPlanner$Casting" "roles" "I", Cond.fieldLink RX0 9 "RoleDoublingPlanner$Casting" "rivals" "[I", Cond.methodLink RX0 31 yX4_reason]
def wsX5_adoptFirstCast_r3 : List Cond := [Cond.instanceMethod yX4_reason, Cond.selects RX4 yX4_reason yX4_reason, Cond.initialized RX4, Cond.code yX4_reason cX4_reason 5 (some .int), Cond.fieldLink RX4 16 "RoleDoublingPlanner$Slacks" "play" "LRoleDoublingPlanner$Play;", Cond.fieldLink RX4 53 "RoleDoublingPlanner$Play" "voice" "[I", Cond.fieldLink RX4 11 "RoleDoublingPlanner$Slacks" "table" "[[I", Cond.methodLink RX5 151 yX0_findFirstCast, Cond.instanceMethod yX0_findFirstCast, Cond.selects RX0 yX0_findFirstCast yX0_findFirstCast, Cond.code yX0_findFirstCast cX0_findFirstCast 2 (some .int), Cond.methodLink RX0 35 yX0_findCast, Cond.instanceMethod yX0_findCast, Cond.selects RX0 yX0_findCast yX0_findCast, Cond.code yX0_findCast cX0_findCast 2 (some .boolean), Cond.methodLink RX0 42 Lib.Math.min.name, Cond.static Lib.Math.min.name, Cond.initialized "java/lang/Math", Cond.code Lib.Math.min.name Lib.Math.min.code 2 (some .int), Cond.methodLink RX0 39 yX0_dismissAll, Cond.instanceMethod yX0_dismissAll, Cond.selects RX0 yX0_dismissAll yX0_dismissAll, Cond.code yX0_dismissAll cX0_dismissAll 2 none, Cond.fieldLink RX0 15 "RoleDoublingPlanner$Casting" "rolesOfActor" "[I"]
def wsX5_adoptFirstCast_r4 : List Cond := [Cond.methodLink RX0 48 yX0_castFrom, Cond.static yX0_castFrom, Cond.code yX0_castFrom cX0_castFrom 5 (some .boolean), Cond.methodLink RX0 56 Lib.Math.max.name, Cond.static Lib.Math.max.name, Cond.code Lib.Math.max.name Lib.Math.max.code 2 (some .int), Cond.methodLink RX0 52 yX0_isFree, Cond.instanceMethod yX0_isFree, Cond.selects RX0 yX0_isFree yX0_isFree, Cond.code yX0_isFree cX0_isFree 3 (some .boolean), Cond.methodLink RX5 154 yX0_foundActor, Cond.instanceMethod yX0_foundActor, Cond.selects RX0 yX0_foundActor yX0_foundActor, Cond.code yX0_foundActor cX0_foundActor 3 (some .int)]
def wsX5_adoptFirstCast : List Cond := .code yX5_adoptFirstCast cX5_adoptFirstCast 3 (some .int) :: ((wsX5_adoptFirstCast_r1 ++ (wsX5_adoptFirstCast_r2 ++ (wsX5_adoptFirstCast_r3 ++ wsX5_adoptFirstCast_r4))) ++ wsX50 ++ wsX20 ++ wsX10 ++ wsX40 ++ wsX00)
def wsX5_undo_r1 : List Cond := [Cond.fieldLink RX5 45 "RoleDoublingPlanner" "history" "LRoleDoublingPlanner$History;", Cond.fieldLink RX5 157 "RoleDoublingPlanner$History" "kept" "I", Cond.fieldLink RX5 23 "RoleDoublingPlanner" "play" "LRoleDoublingPlanner$Play;", Cond.fieldLink RX5 31 "RoleDoublingPlanner" "slacks" "LRoleDoublingPlanner$Slacks;", Cond.methodLink RX5 160 yX1_bringBack, Cond.instanceMethod yX1_bringBack, Cond.selects RX1 yX1_bringBack yX1_bringBack, Cond.initialized RX1, Cond.code yX1_bringBack cX1_bringBack 2 none, Cond.fieldLink RX1 18 "RoleDoublingPlanner$History" "kept" "I", Cond.fieldLink RX1 11 "RoleDoublingPlanner$History" "past" "[LRoleDoublingPlanner$Play;", Cond.methodLink RX1 25 yX2_copyFrom, Cond.instanceMethod yX2_copyFrom, Cond.selects RX2 yX2_copyFrom yX2_copyFrom, Cond.initialized RX2, Cond.code yX2_copyFrom cX2_copyFrom 2 none, Cond.fieldLink RX2 39 "RoleDoublingPlanner$Play" "scenes" "I", Cond.fieldLink RX2 43 "RoleDoublingPlanner$Play" "roles" "I", Cond.fieldLink RX2 46 "RoleDoublingPlanner$Play" "appearances" "I", Cond.fieldLink RX2 9 "RoleDoublingPlanner$Play" "sceneLength" "[I", Cond.methodLink RX2 49 arraycopyName, Cond.native arraycopyName, Cond.static arraycopyName, Cond.initialized "java/lang/System"]
def wsX5_undo_r2 : List Cond := [Cond.fieldLink RX2 15 "RoleDoublingPlanner$Play" "voice" "[I", Cond.fieldLink RX2 18 "RoleDoublingPlanner$Play" "out" "[I", Cond.fieldLink RX2 21 "RoleDoublingPlanner$Play" "in" "[I", Cond.fieldLink RX2 24 "RoleDoublingPlanner$Play" "actor" "[I", Cond.fieldLink RX2 27 "RoleDoublingPlanner$Play" "appearing" "[I", Cond.fieldLink RX2 30 "RoleDoublingPlanner$Play" "appearingIn" "[I", Cond.fieldLink RX2 33 "RoleDoublingPlanner$Play" "enterTime" "[I", Cond.fieldLink RX2 36 "RoleDoublingPlanner$Play" "exitTime" "[I", Cond.methodLink RX5 103 yX4_measure, Cond.instanceMethod yX4_measure, Cond.selects RX4 yX4_measure yX4_measure, Cond.initialized RX4, Cond.code yX4_measure cX4_measure 3 none, Cond.fieldLink RX4 11 "RoleDoublingPlanner$Slacks" "table" "[[I", Cond.fieldLink RX4 16 "RoleDoublingPlanner$Slacks" "play" "LRoleDoublingPlanner$Play;", Cond.fieldLink RX4 20 "RoleDoublingPlanner$Play" "appearances" "I", Cond.methodLink RX4 26 yX4_compare, Cond.instanceMethod yX4_compare, Cond.selects RX4 yX4_compare yX4_compare, Cond.code yX4_compare cX4_compare 6 none, Cond.fieldLink RX4 30 "RoleDoublingPlanner$Play" "appearing" "[I", Cond.fieldLink RX4 34 "RoleDoublingPlanner$Play" "exitTime" "[I", Cond.fieldLink RX4 37 "RoleDoublingPlanner$Play" "enterTime" "[I", Cond.methodLink RX4 40 yX4_slackFrom]
def wsX5_undo_r3 : List Cond := [Cond.instanceMethod yX4_slackFrom, Cond.selects RX4 yX4_slackFrom yX4_slackFrom, Cond.code yX4_slackFrom cX4_slackFrom 4 (some .int), Cond.fieldLink RX4 47 "RoleDoublingPlanner$Play" "out" "[I", Cond.fieldLink RX4 50 "RoleDoublingPlanner$Play" "in" "[I", Cond.static yX5_lesserSlack, Cond.initialized RX5, Cond.code yX5_lesserSlack cX5_lesserSlack 2 (some .int), Cond.methodLink RX5 216 Lib.Math.min.name, Cond.static Lib.Math.min.name, Cond.initialized "java/lang/Math", Cond.code Lib.Math.min.name Lib.Math.min.code 2 (some .int)]
def wsX5_undo : List Cond := .code yX5_undo cX5_undo 1 (some .int) :: ((wsX5_undo_r1 ++ (wsX5_undo_r2 ++ wsX5_undo_r3)) ++ wsX50 ++ wsX10 ++ wsX20 ++ wsX40)
def wsX5_roleCount : List Cond := .code yX5_roleCount cX5_roleCount 1 (some .int) :: ([.fieldLink RX5 23 "RoleDoublingPlanner" "play" "LRoleDoublingPlanner$Play;", .fieldLink RX5 86 "RoleDoublingPlanner$Play" "roles" "I"] ++ wsX50 ++ wsX20)
def wsX5_appearanceCount : List Cond := .code yX5_appearanceCount cX5_appearanceCount 1 (some .int) :: ([.fieldLink RX5 23 "RoleDoublingPlanner" "play" "LRoleDoublingPlanner$Play;", .fieldLink RX5 93 "RoleDoublingPlanner$Play" "appearances" "I"] ++ wsX50 ++ wsX20)
def wsX5_playLength : List Cond := .code yX5_playLength cX5_playLength 1 (some .int) :: ([.fieldLink RX5 23 "RoleDoublingPlanner" "play" "LRoleDoublingPlanner$Play;", .fieldLink RX5 83 "RoleDoublingPlanner$Play" "scenes" "I", .methodLink RX5 163 yX2_startOf, .instanceMethod yX2_startOf, .selects RX2 yX2_startOf yX2_startOf, .initialized RX2, .code yX2_startOf cX2_startOf 4 (some .int), .fieldLink RX2 39 "RoleDoublingPlanner$Play" "scenes" "I", .fieldLink RX2 9 "RoleDoublingPlanner$Play" "sceneLength" "[I"] ++ wsX50 ++ wsX20)
def wsX5_onStage : List Cond := .code yX5_onStage cX5_onStage 2 (some .int) :: ([.fieldLink RX5 23 "RoleDoublingPlanner" "play" "LRoleDoublingPlanner$Play;", .fieldLink RX5 83 "RoleDoublingPlanner$Play" "scenes" "I", .methodLink RX5 163 yX2_startOf, .instanceMethod yX2_startOf, .selects RX2 yX2_startOf yX2_startOf, .initialized RX2, .code yX2_startOf cX2_startOf 4 (some .int), .fieldLink RX2 39 "RoleDoublingPlanner$Play" "scenes" "I", .fieldLink RX2 9 "RoleDoublingPlanner$Play" "sceneLength" "[I", .methodLink RX5 166 yX2_rolesAt, .instanceMethod yX2_rolesAt, .selects RX2 yX2_rolesAt yX2_rolesAt, .code yX2_rolesAt cX2_rolesAt 4 (some .int), .fieldLink RX2 46 "RoleDoublingPlanner$Play" "appearances" "I", .fieldLink RX2 33 "RoleDoublingPlanner$Play" "enterTime" "[I", .fieldLink RX2 36 "RoleDoublingPlanner$Play" "exitTime" "[I", .fieldLink RX2 27 "RoleDoublingPlanner$Play" "appearing" "[I"] ++ wsX50 ++ wsX20)
def wsX5_peak : List Cond := .code yX5_peak cX5_peak 3 (some .int) :: ([.fieldLink RX5 23 "RoleDoublingPlanner" "play" "LRoleDoublingPlanner$Play;", .fieldLink RX5 93 "RoleDoublingPlanner$Play" "appearances" "I", .fieldLink RX5 169 "RoleDoublingPlanner$Play" "enterTime" "[I", .methodLink RX5 172 Lib.Math.max.name, .static Lib.Math.max.name, .initialized "java/lang/Math", .code Lib.Math.max.name Lib.Math.max.code 2 (some .int), .methodLink RX5 166 yX2_rolesAt, .instanceMethod yX2_rolesAt, .selects RX2 yX2_rolesAt yX2_rolesAt, .initialized RX2, .code yX2_rolesAt cX2_rolesAt 4 (some .int), .fieldLink RX2 46 "RoleDoublingPlanner$Play" "appearances" "I", .fieldLink RX2 33 "RoleDoublingPlanner$Play" "enterTime" "[I", .fieldLink RX2 36 "RoleDoublingPlanner$Play" "exitTime" "[I", .fieldLink RX2 27 "RoleDoublingPlanner$Play" "appearing" "[I", .methodLink RX5 142 yJ6_bitCount_0f7a4, .static yJ6_bitCount_0f7a4, .initialized RJ6, .code yJ6_bitCount_0f7a4 cJ6_bitCount_0f7a4 1 (some .int), .constant RJ6 265 (1431655765), .constant RJ6 266 (858993459), .constant RJ6 267 (252645135)] ++ wsX50 ++ wsX20)
def wsX5_rolesInScene : List Cond := .code yX5_rolesInScene cX5_rolesInScene 4 (some .int) :: ([.fieldLink RX5 23 "RoleDoublingPlanner" "play" "LRoleDoublingPlanner$Play;", .fieldLink RX5 93 "RoleDoublingPlanner$Play" "appearances" "I", .fieldLink RX5 181 "RoleDoublingPlanner$Play" "appearingIn" "[I", .fieldLink RX5 184 "RoleDoublingPlanner$Play" "appearing" "[I", .methodLink RX5 178 yX2_hasScene, .instanceMethod yX2_hasScene, .selects RX2 yX2_hasScene yX2_hasScene, .initialized RX2, .code yX2_hasScene cX2_hasScene 2 (some .boolean), .fieldLink RX2 39 "RoleDoublingPlanner$Play" "scenes" "I"] ++ wsX50 ++ wsX20)
def wsX5_areTwoRoles : List Cond := .code yX5_areTwoRoles cX5_areTwoRoles 3 (some .boolean) :: ([.fieldLink RX5 23 "RoleDoublingPlanner" "play" "LRoleDoublingPlanner$Play;", .methodLink RX5 114 yX2_hasRole, .instanceMethod yX2_hasRole, .selects RX2 yX2_hasRole yX2_hasRole, .initialized RX2, .code yX2_hasRole cX2_hasRole 2 (some .boolean), .fieldLink RX2 43 "RoleDoublingPlanner$Play" "roles" "I"] ++ wsX50 ++ wsX20)
def wsX5_conflict : List Cond := .code yX5_conflict cX5_conflict 3 (some .int) :: ([.fieldLink RX5 31 "RoleDoublingPlanner" "slacks" "LRoleDoublingPlanner$Slacks;", .methodLink RX5 187 yX5_areTwoRoles, .instanceMethod yX5_areTwoRoles, .selects RX5 yX5_areTwoRoles yX5_areTwoRoles, .initialized RX5, .code yX5_areTwoRoles cX5_areTwoRoles 3 (some .boolean), .fieldLink RX5 23 "RoleDoublingPlanner" "play" "LRoleDoublingPlanner$Play;", .methodLink RX5 114 yX2_hasRole, .instanceMethod yX2_hasRole, .selects RX2 yX2_hasRole yX2_hasRole, .initialized RX2, .code yX2_hasRole cX2_hasRole 2 (some .boolean), .fieldLink RX2 43 "RoleDoublingPlanner$Play" "roles" "I", .methodLink RX5 191 yX4_reason, .instanceMethod yX4_reason, .selects RX4 yX4_reason yX4_reason, .initialized RX4, .code yX4_reason cX4_reason 5 (some .int), .fieldLink RX4 16 "RoleDoublingPlanner$Slacks" "play" "LRoleDoublingPlanner$Play;", .fieldLink RX4 53 "RoleDoublingPlanner$Play" "voice" "[I", .fieldLink RX4 11 "RoleDoublingPlanner$Slacks" "table" "[[I"] ++ wsX50 ++ wsX20 ++ wsX40)
def wsX5_conflictCount : List Cond := .code yX5_conflictCount cX5_conflictCount 4 (some .int) :: ([.fieldLink RX5 23 "RoleDoublingPlanner" "play" "LRoleDoublingPlanner$Play;", .fieldLink RX5 86 "RoleDoublingPlanner$Play" "roles" "I", .fieldLink RX5 31 "RoleDoublingPlanner" "slacks" "LRoleDoublingPlanner$Slacks;", .methodLink RX5 191 yX4_reason, .instanceMethod yX4_reason, .selects RX4 yX4_reason yX4_reason, .initialized RX4, .code yX4_reason cX4_reason 5 (some .int), .fieldLink RX4 16 "RoleDoublingPlanner$Slacks" "play" "LRoleDoublingPlanner$Play;", .fieldLink RX4 53 "RoleDoublingPlanner$Play" "voice" "[I", .fieldLink RX4 11 "RoleDoublingPlanner$Slacks" "table" "[[I"] ++ wsX50 ++ wsX20 ++ wsX40)
def wsX5_slack : List Cond := .code yX5_slack cX5_slack 3 (some .int) :: ([.fieldLink RX5 31 "RoleDoublingPlanner" "slacks" "LRoleDoublingPlanner$Slacks;", .fieldLink RX5 194 "RoleDoublingPlanner$Slacks" "table" "[[I", .methodLink RX5 187 yX5_areTwoRoles, .instanceMethod yX5_areTwoRoles, .selects RX5 yX5_areTwoRoles yX5_areTwoRoles, .initialized RX5, .code yX5_areTwoRoles cX5_areTwoRoles 3 (some .boolean), .fieldLink RX5 23 "RoleDoublingPlanner" "play" "LRoleDoublingPlanner$Play;", .methodLink RX5 114 yX2_hasRole, .instanceMethod yX2_hasRole, .selects RX2 yX2_hasRole yX2_hasRole, .initialized RX2, .code yX2_hasRole cX2_hasRole 2 (some .boolean), .fieldLink RX2 43 "RoleDoublingPlanner$Play" "roles" "I"] ++ wsX50 ++ wsX40 ++ wsX20)
def wsX5_actorOf : List Cond := .code yX5_actorOf cX5_actorOf 3 (some .int) :: ([.fieldLink RX5 23 "RoleDoublingPlanner" "play" "LRoleDoublingPlanner$Play;", .fieldLink RX5 135 "RoleDoublingPlanner$Play" "actor" "[I", .methodLink RX5 114 yX2_hasRole, .instanceMethod yX2_hasRole, .selects RX2 yX2_hasRole yX2_hasRole, .initialized RX2, .code yX2_hasRole cX2_hasRole 2 (some .boolean), .fieldLink RX2 43 "RoleDoublingPlanner$Play" "roles" "I"] ++ wsX50 ++ wsX20)
def wsX5_rolesOf : List Cond := .code yX5_rolesOf cX5_rolesOf 2 (some .int) :: ([.fieldLink RX5 23 "RoleDoublingPlanner" "play" "LRoleDoublingPlanner$Play;", .methodLink RX5 128 yX5_isActor, .static yX5_isActor, .initialized RX5, .code yX5_isActor cX5_isActor 1 (some .boolean), .methodLink RX5 138 yX2_rolesWith, .instanceMethod yX2_rolesWith, .selects RX2 yX2_rolesWith yX2_rolesWith, .initialized RX2, .code yX2_rolesWith cX2_rolesWith 4 (some .int), .fieldLink RX2 43 "RoleDoublingPlanner$Play" "roles" "I", .fieldLink RX2 24 "RoleDoublingPlanner$Play" "actor" "[I"] ++ wsX50 ++ wsX20)
def wsX5_tightestChange : List Cond := .code yX5_tightestChange cX5_tightestChange 5 (some .int) :: ([.fieldLink RX5 23 "RoleDoublingPlanner" "play" "LRoleDoublingPlanner$Play;", .fieldLink RX5 86 "RoleDoublingPlanner$Play" "roles" "I", .fieldLink RX5 135 "RoleDoublingPlanner$Play" "actor" "[I", .fieldLink RX5 31 "RoleDoublingPlanner" "slacks" "LRoleDoublingPlanner$Slacks;", .fieldLink RX5 194 "RoleDoublingPlanner$Slacks" "table" "[[I", .methodLink RX5 128 yX5_isActor, .static yX5_isActor, .initialized RX5, .code yX5_isActor cX5_isActor 1 (some .boolean), .methodLink RX5 198 yX5_lesserSlack, .static yX5_lesserSlack, .code yX5_lesserSlack cX5_lesserSlack 2 (some .int), .methodLink RX5 216 Lib.Math.min.name, .static Lib.Math.min.name, .initialized "java/lang/Math", .code Lib.Math.min.name Lib.Math.min.code 2 (some .int)] ++ wsX50 ++ wsX20 ++ wsX40)
def wsX5_cliqueNumber_r1 : List Cond := [Cond.fieldLink RX5 38 "RoleDoublingPlanner" "casting" "LRoleDoublingPlanner$Casting;", Cond.fieldLink RX5 31 "RoleDoublingPlanner" "slacks" "LRoleDoublingPlanner$Slacks;", Cond.methodLink RX5 147 yX0_lookAt, Cond.instanceMethod yX0_lookAt, Cond.selects RX0 yX0_lookAt yX0_lookAt, Cond.initialized RX0, Cond.code yX0_lookAt cX0_lookAt 5 none, Cond.fieldLink RX0 18 "RoleDoublingPlanner$Slacks" "play" "LRoleDoublingPlanner$Play;", Cond.fieldLink RX0 24 "RoleDoublingPlanner$Play" "roles" "I", Cond.fieldLink RX0 30 "RoleDoublingPlanner$Casting" "roles" "I", Cond.fieldLink RX0 9 "RoleDoublingPlanner$Casting" "rivals" "[I", Cond.methodLink RX0 31 yX4_reason, Cond.instanceMethod yX4_reason, Cond.selects RX4 yX4_reason yX4_reason, Cond.initialized RX4, Cond.code yX4_reason cX4_reason 5 (some .int), Cond.fieldLink RX4 16 "RoleDoublingPlanner$Slacks" "play" "LRoleDoublingPlanner$Play;", Cond.fieldLink RX4 53 "RoleDoublingPlanner$Play" "voice" "[I", Cond.fieldLink RX4 11 "RoleDoublingPlanner$Slacks" "table" "[[I", Cond.methodLink RX5 201 yX0_largestClique, Cond.instanceMethod yX0_largestClique, Cond.selects RX0 yX0_largestClique yX0_largestClique, Cond.code yX0_largestClique cX0_largestClique 3 (some .int), Cond.methodLink RX0 56 Lib.Math.max.name]
def wsX5_cliqueNumber_r2 : List Cond := [Cond.static Lib.Math.max.name, Cond.initialized "java/lang/Math", Cond.code Lib.Math.max.name Lib.Math.max.code 2 (some .int), Cond.methodLink RX0 59 yX0_isClique, Cond.instanceMethod yX0_isClique, Cond.selects RX0 yX0_isClique yX0_isClique, Cond.code yX0_isClique cX0_isClique 4 (some .boolean), Cond.methodLink RX0 62 yJ6_bitCount_0f7a4, Cond.static yJ6_bitCount_0f7a4, Cond.initialized RJ6, Cond.code yJ6_bitCount_0f7a4 cJ6_bitCount_0f7a4 1 (some .int), Cond.constant RJ6 265 (1431655765), Cond.constant RJ6 266 (858993459), Cond.constant RJ6 267 (252645135)]
def wsX5_cliqueNumber : List Cond := .code yX5_cliqueNumber cX5_cliqueNumber 1 (some .int) :: ((wsX5_cliqueNumber_r1 ++ wsX5_cliqueNumber_r2) ++ wsX50 ++ wsX40 ++ wsX20 ++ wsX00)
def wsX5_leastCast_r1 : List Cond := [Cond.fieldLink RX5 38 "RoleDoublingPlanner" "casting" "LRoleDoublingPlanner$Casting;", Cond.fieldLink RX5 31 "RoleDoublingPlanner" "slacks" "LRoleDoublingPlanner$Slacks;", Cond.methodLink RX5 147 yX0_lookAt, Cond.instanceMethod yX0_lookAt, Cond.selects RX0 yX0_lookAt yX0_lookAt, Cond.initialized RX0, Cond.code yX0_lookAt cX0_lookAt 5 none, Cond.fieldLink RX0 18 "RoleDoublingPlanner$Slacks" "play" "LRoleDoublingPlanner$Play;", Cond.fieldLink RX0 24 "RoleDoublingPlanner$Play" "roles" "I", Cond.fieldLink RX0 30 "RoleDoublingPlanner$Casting" "roles" "I", Cond.fieldLink RX0 9 "RoleDoublingPlanner$Casting" "rivals" "[I", Cond.methodLink RX0 31 yX4_reason, Cond.instanceMethod yX4_reason, Cond.selects RX4 yX4_reason yX4_reason, Cond.initialized RX4, Cond.code yX4_reason cX4_reason 5 (some .int), Cond.fieldLink RX4 16 "RoleDoublingPlanner$Slacks" "play" "LRoleDoublingPlanner$Play;", Cond.fieldLink RX4 53 "RoleDoublingPlanner$Play" "voice" "[I", Cond.fieldLink RX4 11 "RoleDoublingPlanner$Slacks" "table" "[[I", Cond.methodLink RX5 151 yX0_findFirstCast, Cond.instanceMethod yX0_findFirstCast, Cond.selects RX0 yX0_findFirstCast yX0_findFirstCast, Cond.code yX0_findFirstCast cX0_findFirstCast 2 (some .int), Cond.methodLink RX0 35 yX0_findCast]
def wsX5_leastCast_r2 : List Cond := [Cond.instanceMethod yX0_findCast, Cond.selects RX0 yX0_findCast yX0_findCast, Cond.code yX0_findCast cX0_findCast 2 (some .boolean), Cond.methodLink RX0 42 Lib.Math.min.name, Cond.static Lib.Math.min.name, Cond.initialized "java/lang/Math", Cond.code Lib.Math.min.name Lib.Math.min.code 2 (some .int), Cond.methodLink RX0 39 yX0_dismissAll, Cond.instanceMethod yX0_dismissAll, Cond.selects RX0 yX0_dismissAll yX0_dismissAll, Cond.code yX0_dismissAll cX0_dismissAll 2 none, Cond.fieldLink RX0 15 "RoleDoublingPlanner$Casting" "rolesOfActor" "[I", Cond.methodLink RX0 48 yX0_castFrom, Cond.static yX0_castFrom, Cond.code yX0_castFrom cX0_castFrom 5 (some .boolean), Cond.methodLink RX0 56 Lib.Math.max.name, Cond.static Lib.Math.max.name, Cond.code Lib.Math.max.name Lib.Math.max.code 2 (some .int), Cond.methodLink RX0 52 yX0_isFree, Cond.instanceMethod yX0_isFree, Cond.selects RX0 yX0_isFree yX0_isFree, Cond.code yX0_isFree cX0_isFree 3 (some .boolean)]
def wsX5_leastCast : List Cond := .code yX5_leastCast cX5_leastCast 1 (some .int) :: ((wsX5_leastCast_r1 ++ wsX5_leastCast_r2) ++ wsX50 ++ wsX40 ++ wsX20 ++ wsX00)
def wsX5_firstCastActor_r1 : List Cond := [Cond.fieldLink RX5 23 "RoleDoublingPlanner" "play" "LRoleDoublingPlanner$Play;", Cond.fieldLink RX5 38 "RoleDoublingPlanner" "casting" "LRoleDoublingPlanner$Casting;", Cond.fieldLink RX5 31 "RoleDoublingPlanner" "slacks" "LRoleDoublingPlanner$Slacks;", Cond.methodLink RX5 114 yX2_hasRole, Cond.instanceMethod yX2_hasRole, Cond.selects RX2 yX2_hasRole yX2_hasRole, Cond.initialized RX2, Cond.code yX2_hasRole cX2_hasRole 2 (some .boolean), Cond.fieldLink RX2 43 "RoleDoublingPlanner$Play" "roles" "I", Cond.methodLink RX5 147 yX0_lookAt, Cond.instanceMethod yX0_lookAt, Cond.selects RX0 yX0_lookAt yX0_lookAt, Cond.initialized RX0, Cond.code yX0_lookAt cX0_lookAt 5 none, Cond.fieldLink RX0 18 "RoleDoublingPlanner$Slacks" "play" "LRoleDoublingPlanner$Play;", Cond.fieldLink RX0 24 "RoleDoublingPlanner$Play" "roles" "I", Cond.fieldLink RX0 30 "RoleDoublingPlanner$Casting" "roles" "I", Cond.fieldLink RX0 9 "RoleDoublingPlanner$Casting" "rivals" "[I", Cond.methodLink RX0 31 yX4_reason, Cond.instanceMethod yX4_reason, Cond.selects RX4 yX4_reason yX4_reason, Cond.initialized RX4, Cond.code yX4_reason cX4_reason 5 (some .int), Cond.fieldLink RX4 16 "RoleDoublingPlanner$Slacks" "play" "LRoleDoublingPlanner$Play;"]
def wsX5_firstCastActor_r2 : List Cond := [Cond.fieldLink RX4 53 "RoleDoublingPlanner$Play" "voice" "[I", Cond.fieldLink RX4 11 "RoleDoublingPlanner$Slacks" "table" "[[I", Cond.methodLink RX5 151 yX0_findFirstCast, Cond.instanceMethod yX0_findFirstCast, Cond.selects RX0 yX0_findFirstCast yX0_findFirstCast, Cond.code yX0_findFirstCast cX0_findFirstCast 2 (some .int), Cond.methodLink RX0 35 yX0_findCast, Cond.instanceMethod yX0_findCast, Cond.selects RX0 yX0_findCast yX0_findCast, Cond.code yX0_findCast cX0_findCast 2 (some .boolean), Cond.methodLink RX0 42 Lib.Math.min.name, Cond.static Lib.Math.min.name, Cond.initialized "java/lang/Math", Cond.code Lib.Math.min.name Lib.Math.min.code 2 (some .int), Cond.methodLink RX0 39 yX0_dismissAll, Cond.instanceMethod yX0_dismissAll, Cond.selects RX0 yX0_dismissAll yX0_dismissAll, Cond.code yX0_dismissAll cX0_dismissAll 2 none, Cond.fieldLink RX0 15 "RoleDoublingPlanner$Casting" "rolesOfActor" "[I", Cond.methodLink RX0 48 yX0_castFrom, Cond.static yX0_castFrom, Cond.code yX0_castFrom cX0_castFrom 5 (some .boolean), Cond.methodLink RX0 56 Lib.Math.max.name, Cond.static Lib.Math.max.name]
def wsX5_firstCastActor_r3 : List Cond := [Cond.code Lib.Math.max.name Lib.Math.max.code 2 (some .int), Cond.methodLink RX0 52 yX0_isFree, Cond.instanceMethod yX0_isFree, Cond.selects RX0 yX0_isFree yX0_isFree, Cond.code yX0_isFree cX0_isFree 3 (some .boolean), Cond.methodLink RX5 154 yX0_foundActor, Cond.instanceMethod yX0_foundActor, Cond.selects RX0 yX0_foundActor yX0_foundActor, Cond.code yX0_foundActor cX0_foundActor 3 (some .int)]
def wsX5_firstCastActor : List Cond := .code yX5_firstCastActor cX5_firstCastActor 2 (some .int) :: ((wsX5_firstCastActor_r1 ++ (wsX5_firstCastActor_r2 ++ wsX5_firstCastActor_r3)) ++ wsX50 ++ wsX20 ++ wsX40 ++ wsX00)
def wsX5_greedyCast_r1 : List Cond := [Cond.fieldLink RX5 38 "RoleDoublingPlanner" "casting" "LRoleDoublingPlanner$Casting;", Cond.fieldLink RX5 31 "RoleDoublingPlanner" "slacks" "LRoleDoublingPlanner$Slacks;", Cond.methodLink RX5 147 yX0_lookAt, Cond.instanceMethod yX0_lookAt, Cond.selects RX0 yX0_lookAt yX0_lookAt, Cond.initialized RX0, Cond.code yX0_lookAt cX0_lookAt 5 none, Cond.fieldLink RX0 18 "RoleDoublingPlanner$Slacks" "play" "LRoleDoublingPlanner$Play;", Cond.fieldLink RX0 24 "RoleDoublingPlanner$Play" "roles" "I", Cond.fieldLink RX0 30 "RoleDoublingPlanner$Casting" "roles" "I", Cond.fieldLink RX0 9 "RoleDoublingPlanner$Casting" "rivals" "[I", Cond.methodLink RX0 31 yX4_reason, Cond.instanceMethod yX4_reason, Cond.selects RX4 yX4_reason yX4_reason, Cond.initialized RX4, Cond.code yX4_reason cX4_reason 5 (some .int), Cond.fieldLink RX4 16 "RoleDoublingPlanner$Slacks" "play" "LRoleDoublingPlanner$Play;", Cond.fieldLink RX4 53 "RoleDoublingPlanner$Play" "voice" "[I", Cond.fieldLink RX4 11 "RoleDoublingPlanner$Slacks" "table" "[[I", Cond.methodLink RX5 204 yX0_greedySize, Cond.instanceMethod yX0_greedySize, Cond.selects RX0 yX0_greedySize yX0_greedySize, Cond.code yX0_greedySize cX0_greedySize 4 (some .int), Cond.fieldLink RX0 15 "RoleDoublingPlanner$Casting" "rolesOfActor" "[I"]
def wsX5_greedyCast_r2 : List Cond := [Cond.methodLink RX0 56 Lib.Math.max.name, Cond.static Lib.Math.max.name, Cond.initialized "java/lang/Math", Cond.code Lib.Math.max.name Lib.Math.max.code 2 (some .int), Cond.methodLink RX0 39 yX0_dismissAll, Cond.instanceMethod yX0_dismissAll, Cond.selects RX0 yX0_dismissAll yX0_dismissAll, Cond.code yX0_dismissAll cX0_dismissAll 2 none, Cond.methodLink RX0 52 yX0_isFree, Cond.instanceMethod yX0_isFree, Cond.selects RX0 yX0_isFree yX0_isFree, Cond.code yX0_isFree cX0_isFree 3 (some .boolean)]
def wsX5_greedyCast : List Cond := .code yX5_greedyCast cX5_greedyCast 1 (some .int) :: ((wsX5_greedyCast_r1 ++ wsX5_greedyCast_r2) ++ wsX50 ++ wsX40 ++ wsX20 ++ wsX00)
def wsX5_leastCastIfFaster_r1 : List Cond := [Cond.fieldLink RX5 38 "RoleDoublingPlanner" "casting" "LRoleDoublingPlanner$Casting;", Cond.fieldLink RX5 31 "RoleDoublingPlanner" "slacks" "LRoleDoublingPlanner$Slacks;", Cond.methodLink RX5 147 yX0_lookAt, Cond.instanceMethod yX0_lookAt, Cond.selects RX0 yX0_lookAt yX0_lookAt, Cond.initialized RX0, Cond.code yX0_lookAt cX0_lookAt 5 none, Cond.fieldLink RX0 18 "RoleDoublingPlanner$Slacks" "play" "LRoleDoublingPlanner$Play;", Cond.fieldLink RX0 24 "RoleDoublingPlanner$Play" "roles" "I", Cond.fieldLink RX0 30 "RoleDoublingPlanner$Casting" "roles" "I", Cond.fieldLink RX0 9 "RoleDoublingPlanner$Casting" "rivals" "[I", Cond.methodLink RX0 31 yX4_reason, Cond.instanceMethod yX4_reason, Cond.selects RX4 yX4_reason yX4_reason, Cond.initialized RX4, Cond.code yX4_reason cX4_reason 5 (some .int), Cond.fieldLink RX4 16 "RoleDoublingPlanner$Slacks" "play" "LRoleDoublingPlanner$Play;", Cond.fieldLink RX4 53 "RoleDoublingPlanner$Play" "voice" "[I", Cond.fieldLink RX4 11 "RoleDoublingPlanner$Slacks" "table" "[[I", Cond.methodLink RX5 151 yX0_findFirstCast, Cond.instanceMethod yX0_findFirstCast, Cond.selects RX0 yX0_findFirstCast yX0_findFirstCast, Cond.code yX0_findFirstCast cX0_findFirstCast 2 (some .int), Cond.methodLink RX0 35 yX0_findCast]
def wsX5_leastCastIfFaster_r2 : List Cond := [Cond.instanceMethod yX0_findCast, Cond.selects RX0 yX0_findCast yX0_findCast, Cond.code yX0_findCast cX0_findCast 2 (some .boolean), Cond.methodLink RX0 42 Lib.Math.min.name, Cond.static Lib.Math.min.name, Cond.initialized "java/lang/Math", Cond.code Lib.Math.min.name Lib.Math.min.code 2 (some .int), Cond.methodLink RX0 39 yX0_dismissAll, Cond.instanceMethod yX0_dismissAll, Cond.selects RX0 yX0_dismissAll yX0_dismissAll, Cond.code yX0_dismissAll cX0_dismissAll 2 none, Cond.fieldLink RX0 15 "RoleDoublingPlanner$Casting" "rolesOfActor" "[I", Cond.methodLink RX0 48 yX0_castFrom, Cond.static yX0_castFrom, Cond.code yX0_castFrom cX0_castFrom 5 (some .boolean), Cond.methodLink RX0 56 Lib.Math.max.name, Cond.static Lib.Math.max.name, Cond.code Lib.Math.max.name Lib.Math.max.code 2 (some .int), Cond.methodLink RX0 52 yX0_isFree, Cond.instanceMethod yX0_isFree, Cond.selects RX0 yX0_isFree yX0_isFree, Cond.code yX0_isFree cX0_isFree 3 (some .boolean)]
def wsX5_leastCastIfFaster : List Cond := .code yX5_leastCastIfFaster cX5_leastCastIfFaster 2 (some .int) :: ((wsX5_leastCastIfFaster_r1 ++ wsX5_leastCastIfFaster_r2) ++ wsX50 ++ wsX40 ++ wsX20 ++ wsX00)
def wsX5_sizeIsEnough_r1 : List Cond := [Cond.fieldLink RX5 38 "RoleDoublingPlanner" "casting" "LRoleDoublingPlanner$Casting;", Cond.fieldLink RX5 31 "RoleDoublingPlanner" "slacks" "LRoleDoublingPlanner$Slacks;", Cond.methodLink RX5 147 yX0_lookAt, Cond.instanceMethod yX0_lookAt, Cond.selects RX0 yX0_lookAt yX0_lookAt, Cond.initialized RX0, Cond.code yX0_lookAt cX0_lookAt 5 none, Cond.fieldLink RX0 18 "RoleDoublingPlanner$Slacks" "play" "LRoleDoublingPlanner$Play;", Cond.fieldLink RX0 24 "RoleDoublingPlanner$Play" "roles" "I", Cond.fieldLink RX0 30 "RoleDoublingPlanner$Casting" "roles" "I", Cond.fieldLink RX0 9 "RoleDoublingPlanner$Casting" "rivals" "[I", Cond.methodLink RX0 31 yX4_reason, Cond.instanceMethod yX4_reason, Cond.selects RX4 yX4_reason yX4_reason, Cond.initialized RX4, Cond.code yX4_reason cX4_reason 5 (some .int), Cond.fieldLink RX4 16 "RoleDoublingPlanner$Slacks" "play" "LRoleDoublingPlanner$Play;", Cond.fieldLink RX4 53 "RoleDoublingPlanner$Play" "voice" "[I", Cond.fieldLink RX4 11 "RoleDoublingPlanner$Slacks" "table" "[[I", Cond.methodLink RX5 213 yX0_findCast, Cond.instanceMethod yX0_findCast, Cond.selects RX0 yX0_findCast yX0_findCast, Cond.code yX0_findCast cX0_findCast 2 (some .boolean), Cond.methodLink RX0 42 Lib.Math.min.name]
def wsX5_sizeIsEnough_r2 : List Cond := [Cond.static Lib.Math.min.name, Cond.initialized "java/lang/Math", Cond.code Lib.Math.min.name Lib.Math.min.code 2 (some .int), Cond.methodLink RX0 39 yX0_dismissAll, Cond.instanceMethod yX0_dismissAll, Cond.selects RX0 yX0_dismissAll yX0_dismissAll, Cond.code yX0_dismissAll cX0_dismissAll 2 none, Cond.fieldLink RX0 15 "RoleDoublingPlanner$Casting" "rolesOfActor" "[I", Cond.methodLink RX0 48 yX0_castFrom, Cond.static yX0_castFrom, Cond.code yX0_castFrom cX0_castFrom 5 (some .boolean), Cond.methodLink RX0 56 Lib.Math.max.name, Cond.static Lib.Math.max.name, Cond.code Lib.Math.max.name Lib.Math.max.code 2 (some .int), Cond.methodLink RX0 52 yX0_isFree, Cond.instanceMethod yX0_isFree, Cond.selects RX0 yX0_isFree yX0_isFree, Cond.code yX0_isFree cX0_isFree 3 (some .boolean)]
def wsX5_sizeIsEnough : List Cond := .code yX5_sizeIsEnough cX5_sizeIsEnough 3 (some .boolean) :: ((wsX5_sizeIsEnough_r1 ++ wsX5_sizeIsEnough_r2) ++ wsX50 ++ wsX40 ++ wsX20 ++ wsX00)
def wsX5_speedUpFor_r1 : List Cond := [Cond.methodLink RX5 207 yX5_sizeIsEnough, Cond.instanceMethod yX5_sizeIsEnough, Cond.selects RX5 yX5_sizeIsEnough yX5_sizeIsEnough, Cond.initialized RX5, Cond.code yX5_sizeIsEnough cX5_sizeIsEnough 3 (some .boolean), Cond.fieldLink RX5 38 "RoleDoublingPlanner" "casting" "LRoleDoublingPlanner$Casting;", Cond.fieldLink RX5 31 "RoleDoublingPlanner" "slacks" "LRoleDoublingPlanner$Slacks;", Cond.methodLink RX5 147 yX0_lookAt, Cond.instanceMethod yX0_lookAt, Cond.selects RX0 yX0_lookAt yX0_lookAt, Cond.initialized RX0, Cond.code yX0_lookAt cX0_lookAt 5 none, Cond.fieldLink RX0 18 "RoleDoublingPlanner$Slacks" "play" "LRoleDoublingPlanner$Play;", Cond.fieldLink RX0 24 "RoleDoublingPlanner$Play" "roles" "I", Cond.fieldLink RX0 30 "RoleDoublingPlanner$Casting" "roles" "I", Cond.fieldLink RX0 9 "RoleDoublingPlanner$Casting" "rivals" "[I", Cond.methodLink RX0 31 yX4_reason, Cond.instanceMethod yX4_reason, Cond.selects RX4 yX4_reason yX4_reason, Cond.initialized RX4, Cond.code yX4_reason cX4_reason 5 (some .int), Cond.fieldLink RX4 16 "RoleDoublingPlanner$Slacks" "play" "LRoleDoublingPlanner$Play;", Cond.fieldLink RX4 53 "RoleDoublingPlanner$Play" "voice" "[I", Cond.fieldLink RX4 11 "RoleDoublingPlanner$Slacks" "table" "[[I"]
def wsX5_speedUpFor_r2 : List Cond := [Cond.methodLink RX5 213 yX0_findCast, Cond.instanceMethod yX0_findCast, Cond.selects RX0 yX0_findCast yX0_findCast, Cond.code yX0_findCast cX0_findCast 2 (some .boolean), Cond.methodLink RX0 42 Lib.Math.min.name, Cond.static Lib.Math.min.name, Cond.initialized "java/lang/Math", Cond.code Lib.Math.min.name Lib.Math.min.code 2 (some .int), Cond.methodLink RX0 39 yX0_dismissAll, Cond.instanceMethod yX0_dismissAll, Cond.selects RX0 yX0_dismissAll yX0_dismissAll, Cond.code yX0_dismissAll cX0_dismissAll 2 none, Cond.fieldLink RX0 15 "RoleDoublingPlanner$Casting" "rolesOfActor" "[I", Cond.methodLink RX0 48 yX0_castFrom, Cond.static yX0_castFrom, Cond.code yX0_castFrom cX0_castFrom 5 (some .boolean), Cond.methodLink RX0 56 Lib.Math.max.name, Cond.static Lib.Math.max.name, Cond.code Lib.Math.max.name Lib.Math.max.code 2 (some .int), Cond.methodLink RX0 52 yX0_isFree, Cond.instanceMethod yX0_isFree, Cond.selects RX0 yX0_isFree yX0_isFree, Cond.code yX0_isFree cX0_isFree 3 (some .boolean)]
def wsX5_speedUpFor : List Cond := .code yX5_speedUpFor cX5_speedUpFor 6 (some .int) :: ((wsX5_speedUpFor_r1 ++ wsX5_speedUpFor_r2) ++ wsX50 ++ wsX40 ++ wsX20 ++ wsX00)
def wsX6_empty : List Cond := .code yX6_empty cX6_empty 2 none :: ([])
def wsX6_role : List Cond := .code yX6_role cX6_role 4 none :: ([])
def wsX6_appear : List Cond := .code yX6_appear cX6_appear 6 none :: ([])
def wsX6_init : List Cond := .code yX6_init cX6_init 1 none :: ([.methodLink RX6 1 objectInit, .instanceMethod objectInit, .code objectInit ⟨#[0xb1]⟩ 1 none, .arrayClass .int, .fieldLink RX6 7 "RoleDoublingPlannerModel" "s" "[I", .fieldLink RX6 13 "RoleDoublingPlannerModel" "read" "[I", .fieldLink RX6 16 "RoleDoublingPlannerModel" "kept" "[I", .fieldLink RX6 19 "RoleDoublingPlannerModel" "text" "[I", .fieldLink RX6 22 "RoleDoublingPlannerModel" "with" "[I", .fieldLink RX6 25 "RoleDoublingPlannerModel" "given" "[I", .methodLink RX6 28 yX6_empty, .static yX6_empty, .initialized RX6, .code yX6_empty cX6_empty 2 none, .methodLink RX6 32 yX6_role, .static yX6_role, .code yX6_role cX6_role 4 none, .methodLink RX6 36 yX6_appear, .static yX6_appear, .code yX6_appear cX6_appear 6 none] ++ wsX60)
def wsX6_in : List Cond := .code yX6_in cX6_in 6 (some .boolean) :: ([])
def wsX6_append : List Cond := .code yX6_append cX6_append 2 (some .int) :: ([.constantLong RX6 40 (32), .constantLong RX6 42 (126), .fieldLink RX6 48 "RoleDoublingPlannerModel" "length" "I", .fieldLink RX6 19 "RoleDoublingPlannerModel" "text" "[I", .methodLink RX6 44 yX6_in, .static yX6_in, .initialized RX6, .code yX6_in cX6_in 6 (some .boolean)] ++ wsX60)
def wsX6_clearText : List Cond := .code yX6_clearText cX6_clearText 2 (some .int) :: ([.fieldLink RX6 48 "RoleDoublingPlannerModel" "length" "I"] ++ wsX60)
def wsX6_here : List Cond := .code yX6_here cX6_here 1 (some .int) :: ([.fieldLink RX6 52 "RoleDoublingPlannerModel" "spot" "I", .fieldLink RX6 48 "RoleDoublingPlannerModel" "length" "I", .fieldLink RX6 19 "RoleDoublingPlannerModel" "text" "[I"] ++ wsX60)
def wsX6_word : List Cond := .code yX6_word cX6_word 4 (some .int) :: ([.fieldLink RX6 52 "RoleDoublingPlannerModel" "spot" "I", .fieldLink RX6 48 "RoleDoublingPlannerModel" "length" "I", .fieldLink RX6 19 "RoleDoublingPlannerModel" "text" "[I", .constantLong RX6 55 (97), .constantLong RX6 57 (122), .methodLink RX6 44 yX6_in, .static yX6_in, .initialized RX6, .code yX6_in cX6_in 6 (some .boolean)] ++ wsX60)
def wsX6_named : List Cond := .code yX6_named cX6_named 6 (some .int) :: ([])
def wsX6_wants : List Cond := .code yX6_wants cX6_wants 2 none :: ([.fieldLink RX6 59 "RoleDoublingPlannerModel" "reason" "I", .fieldLink RX6 52 "RoleDoublingPlannerModel" "spot" "I", .methodLink RX6 62 yX6_here, .instanceMethod yX6_here, .selects RX6 yX6_here yX6_here, .initialized RX6, .code yX6_here cX6_here 1 (some .int), .fieldLink RX6 48 "RoleDoublingPlannerModel" "length" "I", .fieldLink RX6 19 "RoleDoublingPlannerModel" "text" "[I"] ++ wsX60)
def wsX6_number : List Cond := .code yX6_number cX6_number 3 (some .int) :: ([.fieldLink RX6 59 "RoleDoublingPlannerModel" "reason" "I", .fieldLink RX6 52 "RoleDoublingPlannerModel" "spot" "I", .fieldLink RX6 48 "RoleDoublingPlannerModel" "length" "I", .fieldLink RX6 19 "RoleDoublingPlannerModel" "text" "[I", .constantLong RX6 70 (48), .constantLong RX6 72 (57), .constantLong RX6 74 (3), .methodLink RX6 66 yX6_wants, .instanceMethod yX6_wants, .selects RX6 yX6_wants yX6_wants, .initialized RX6, .code yX6_wants cX6_wants 2 none, .methodLink RX6 62 yX6_here, .instanceMethod yX6_here, .selects RX6 yX6_here yX6_here, .code yX6_here cX6_here 1 (some .int), .methodLink RX6 44 yX6_in, .static yX6_in, .code yX6_in cX6_in 6 (some .boolean)] ++ wsX60)
def wsX6_voice_r1 : List Cond := [Cond.fieldLink RX6 59 "RoleDoublingPlannerModel" "reason" "I", Cond.methodLink RX6 66 yX6_wants, Cond.instanceMethod yX6_wants, Cond.selects RX6 yX6_wants yX6_wants, Cond.initialized RX6, Cond.code yX6_wants cX6_wants 2 none, Cond.fieldLink RX6 52 "RoleDoublingPlannerModel" "spot" "I", Cond.methodLink RX6 62 yX6_here, Cond.instanceMethod yX6_here, Cond.selects RX6 yX6_here yX6_here, Cond.code yX6_here cX6_here 1 (some .int), Cond.fieldLink RX6 48 "RoleDoublingPlannerModel" "length" "I", Cond.fieldLink RX6 19 "RoleDoublingPlannerModel" "text" "[I", Cond.methodLink RX6 76 yX6_word, Cond.instanceMethod yX6_word, Cond.selects RX6 yX6_word yX6_word, Cond.code yX6_word cX6_word 4 (some .int), Cond.constantLong RX6 55 (97), Cond.constantLong RX6 57 (122), Cond.methodLink RX6 44 yX6_in, Cond.static yX6_in, Cond.code yX6_in cX6_in 6 (some .boolean), Cond.methodLink RX6 79 yX6_named, Cond.static yX6_named]
def wsX6_voice_r2 : List Cond := [Cond.code yX6_named cX6_named 6 (some .int)]
def wsX6_voice : List Cond := .code yX6_voice cX6_voice 3 (some .int) :: ((wsX6_voice_r1 ++ wsX6_voice_r2) ++ wsX60)
def wsX6_checked : List Cond := .code yX6_checked cX6_checked 3 none :: ([.fieldLink RX6 59 "RoleDoublingPlannerModel" "reason" "I"] ++ wsX60)
def wsX6_statement_r1 : List Cond := [Cond.constantLong RX6 86 (99), Cond.fieldLink RX6 13 "RoleDoublingPlannerModel" "read" "[I", Cond.fieldLink RX6 59 "RoleDoublingPlannerModel" "reason" "I", Cond.methodLink RX6 76 yX6_word, Cond.instanceMethod yX6_word, Cond.selects RX6 yX6_word yX6_word, Cond.initialized RX6, Cond.code yX6_word cX6_word 4 (some .int), Cond.fieldLink RX6 52 "RoleDoublingPlannerModel" "spot" "I", Cond.fieldLink RX6 48 "RoleDoublingPlannerModel" "length" "I", Cond.fieldLink RX6 19 "RoleDoublingPlannerModel" "text" "[I", Cond.constantLong RX6 55 (97), Cond.constantLong RX6 57 (122), Cond.methodLink RX6 44 yX6_in, Cond.static yX6_in, Cond.code yX6_in cX6_in 6 (some .boolean), Cond.methodLink RX6 79 yX6_named, Cond.static yX6_named, Cond.code yX6_named cX6_named 6 (some .int), Cond.methodLink RX6 83 yX6_number, Cond.instanceMethod yX6_number, Cond.selects RX6 yX6_number yX6_number, Cond.code yX6_number cX6_number 3 (some .int), Cond.constantLong RX6 70 (48)]
def wsX6_statement_r2 : List Cond := [Cond.constantLong RX6 72 (57), Cond.constantLong RX6 74 (3), Cond.methodLink RX6 66 yX6_wants, Cond.instanceMethod yX6_wants, Cond.selects RX6 yX6_wants yX6_wants, Cond.code yX6_wants cX6_wants 2 none, Cond.methodLink RX6 62 yX6_here, Cond.instanceMethod yX6_here, Cond.selects RX6 yX6_here yX6_here, Cond.code yX6_here cX6_here 1 (some .int), Cond.methodLink RX6 88 yX6_checked, Cond.instanceMethod yX6_checked, Cond.selects RX6 yX6_checked yX6_checked, Cond.code yX6_checked cX6_checked 3 none, Cond.methodLink RX6 92 yX6_voice, Cond.instanceMethod yX6_voice, Cond.selects RX6 yX6_voice yX6_voice, Cond.code yX6_voice cX6_voice 3 (some .int), Cond.methodLink RX6 32 yX6_role, Cond.static yX6_role, Cond.code yX6_role cX6_role 4 none, Cond.methodLink RX6 36 yX6_appear, Cond.static yX6_appear, Cond.code yX6_appear cX6_appear 6 none]
def wsX6_statement : List Cond := .code yX6_statement cX6_statement 6 none :: ((wsX6_statement_r1 ++ wsX6_statement_r2) ++ wsX60)
def wsX6_readAll_r1 : List Cond := [Cond.fieldLink RX6 13 "RoleDoublingPlannerModel" "read" "[I", Cond.fieldLink RX6 52 "RoleDoublingPlannerModel" "spot" "I", Cond.fieldLink RX6 59 "RoleDoublingPlannerModel" "reason" "I", Cond.fieldLink RX6 48 "RoleDoublingPlannerModel" "length" "I", Cond.methodLink RX6 28 yX6_empty, Cond.static yX6_empty, Cond.initialized RX6, Cond.code yX6_empty cX6_empty 2 none, Cond.methodLink RX6 95 yX6_statement, Cond.instanceMethod yX6_statement, Cond.selects RX6 yX6_statement yX6_statement, Cond.code yX6_statement cX6_statement 6 none, Cond.constantLong RX6 86 (99), Cond.methodLink RX6 76 yX6_word, Cond.instanceMethod yX6_word, Cond.selects RX6 yX6_word yX6_word, Cond.code yX6_word cX6_word 4 (some .int), Cond.fieldLink RX6 19 "RoleDoublingPlannerModel" "text" "[I", Cond.constantLong RX6 55 (97), Cond.constantLong RX6 57 (122), Cond.methodLink RX6 44 yX6_in, Cond.static yX6_in, Cond.code yX6_in cX6_in 6 (some .boolean), Cond.methodLink RX6 79 yX6_named]
def wsX6_readAll_r2 : List Cond := [Cond.static yX6_named, Cond.code yX6_named cX6_named 6 (some .int), Cond.methodLink RX6 83 yX6_number, Cond.instanceMethod yX6_number, Cond.selects RX6 yX6_number yX6_number, Cond.code yX6_number cX6_number 3 (some .int), Cond.constantLong RX6 70 (48), Cond.constantLong RX6 72 (57), Cond.constantLong RX6 74 (3), Cond.methodLink RX6 66 yX6_wants, Cond.instanceMethod yX6_wants, Cond.selects RX6 yX6_wants yX6_wants, Cond.code yX6_wants cX6_wants 2 none, Cond.methodLink RX6 62 yX6_here, Cond.instanceMethod yX6_here, Cond.selects RX6 yX6_here yX6_here, Cond.code yX6_here cX6_here 1 (some .int), Cond.methodLink RX6 88 yX6_checked, Cond.instanceMethod yX6_checked, Cond.selects RX6 yX6_checked yX6_checked, Cond.code yX6_checked cX6_checked 3 none, Cond.methodLink RX6 92 yX6_voice, Cond.instanceMethod yX6_voice, Cond.selects RX6 yX6_voice yX6_voice]
def wsX6_readAll_r3 : List Cond := [Cond.code yX6_voice cX6_voice 3 (some .int), Cond.methodLink RX6 32 yX6_role, Cond.static yX6_role, Cond.code yX6_role cX6_role 4 none, Cond.methodLink RX6 36 yX6_appear, Cond.static yX6_appear, Cond.code yX6_appear cX6_appear 6 none]
def wsX6_readAll : List Cond := .code yX6_readAll cX6_readAll 2 (some .int) :: ((wsX6_readAll_r1 ++ (wsX6_readAll_r2 ++ wsX6_readAll_r3)) ++ wsX60)
def wsX6_firstError_r1 : List Cond := [Cond.methodLink RX6 98 yX6_readAll, Cond.instanceMethod yX6_readAll, Cond.selects RX6 yX6_readAll yX6_readAll, Cond.initialized RX6, Cond.code yX6_readAll cX6_readAll 2 (some .int), Cond.fieldLink RX6 13 "RoleDoublingPlannerModel" "read" "[I", Cond.fieldLink RX6 52 "RoleDoublingPlannerModel" "spot" "I", Cond.fieldLink RX6 59 "RoleDoublingPlannerModel" "reason" "I", Cond.fieldLink RX6 48 "RoleDoublingPlannerModel" "length" "I", Cond.methodLink RX6 28 yX6_empty, Cond.static yX6_empty, Cond.code yX6_empty cX6_empty 2 none, Cond.methodLink RX6 95 yX6_statement, Cond.instanceMethod yX6_statement, Cond.selects RX6 yX6_statement yX6_statement, Cond.code yX6_statement cX6_statement 6 none, Cond.constantLong RX6 86 (99), Cond.methodLink RX6 76 yX6_word, Cond.instanceMethod yX6_word, Cond.selects RX6 yX6_word yX6_word, Cond.code yX6_word cX6_word 4 (some .int), Cond.fieldLink RX6 19 "RoleDoublingPlannerModel" "text" "[I", Cond.constantLong RX6 55 (97), Cond.constantLong RX6 57 (122)]
def wsX6_firstError_r2 : List Cond := [Cond.methodLink RX6 44 yX6_in, Cond.static yX6_in, Cond.code yX6_in cX6_in 6 (some .boolean), Cond.methodLink RX6 79 yX6_named, Cond.static yX6_named, Cond.code yX6_named cX6_named 6 (some .int), Cond.methodLink RX6 83 yX6_number, Cond.instanceMethod yX6_number, Cond.selects RX6 yX6_number yX6_number, Cond.code yX6_number cX6_number 3 (some .int), Cond.constantLong RX6 70 (48), Cond.constantLong RX6 72 (57), Cond.constantLong RX6 74 (3), Cond.methodLink RX6 66 yX6_wants, Cond.instanceMethod yX6_wants, Cond.selects RX6 yX6_wants yX6_wants, Cond.code yX6_wants cX6_wants 2 none, Cond.methodLink RX6 62 yX6_here, Cond.instanceMethod yX6_here, Cond.selects RX6 yX6_here yX6_here, Cond.code yX6_here cX6_here 1 (some .int), Cond.methodLink RX6 88 yX6_checked, Cond.instanceMethod yX6_checked, Cond.selects RX6 yX6_checked yX6_checked]
def wsX6_firstError_r3 : List Cond := [Cond.code yX6_checked cX6_checked 3 none, Cond.methodLink RX6 92 yX6_voice, Cond.instanceMethod yX6_voice, Cond.selects RX6 yX6_voice yX6_voice, Cond.code yX6_voice cX6_voice 3 (some .int), Cond.methodLink RX6 32 yX6_role, Cond.static yX6_role, Cond.code yX6_role cX6_role 4 none, Cond.methodLink RX6 36 yX6_appear, Cond.static yX6_appear, Cond.code yX6_appear cX6_appear 6 none]
def wsX6_firstError : List Cond := .code yX6_firstError cX6_firstError 1 (some .int) :: ((wsX6_firstError_r1 ++ (wsX6_firstError_r2 ++ wsX6_firstError_r3)) ++ wsX60)
def wsX6_errorReason_r1 : List Cond := [Cond.fieldLink RX6 59 "RoleDoublingPlannerModel" "reason" "I", Cond.methodLink RX6 98 yX6_readAll, Cond.instanceMethod yX6_readAll, Cond.selects RX6 yX6_readAll yX6_readAll, Cond.initialized RX6, Cond.code yX6_readAll cX6_readAll 2 (some .int), Cond.fieldLink RX6 13 "RoleDoublingPlannerModel" "read" "[I", Cond.fieldLink RX6 52 "RoleDoublingPlannerModel" "spot" "I", Cond.fieldLink RX6 48 "RoleDoublingPlannerModel" "length" "I", Cond.methodLink RX6 28 yX6_empty, Cond.static yX6_empty, Cond.code yX6_empty cX6_empty 2 none, Cond.methodLink RX6 95 yX6_statement, Cond.instanceMethod yX6_statement, Cond.selects RX6 yX6_statement yX6_statement, Cond.code yX6_statement cX6_statement 6 none, Cond.constantLong RX6 86 (99), Cond.methodLink RX6 76 yX6_word, Cond.instanceMethod yX6_word, Cond.selects RX6 yX6_word yX6_word, Cond.code yX6_word cX6_word 4 (some .int), Cond.fieldLink RX6 19 "RoleDoublingPlannerModel" "text" "[I", Cond.constantLong RX6 55 (97), Cond.constantLong RX6 57 (122)]
def wsX6_errorReason_r2 : List Cond := [Cond.methodLink RX6 44 yX6_in, Cond.static yX6_in, Cond.code yX6_in cX6_in 6 (some .boolean), Cond.methodLink RX6 79 yX6_named, Cond.static yX6_named, Cond.code yX6_named cX6_named 6 (some .int), Cond.methodLink RX6 83 yX6_number, Cond.instanceMethod yX6_number, Cond.selects RX6 yX6_number yX6_number, Cond.code yX6_number cX6_number 3 (some .int), Cond.constantLong RX6 70 (48), Cond.constantLong RX6 72 (57), Cond.constantLong RX6 74 (3), Cond.methodLink RX6 66 yX6_wants, Cond.instanceMethod yX6_wants, Cond.selects RX6 yX6_wants yX6_wants, Cond.code yX6_wants cX6_wants 2 none, Cond.methodLink RX6 62 yX6_here, Cond.instanceMethod yX6_here, Cond.selects RX6 yX6_here yX6_here, Cond.code yX6_here cX6_here 1 (some .int), Cond.methodLink RX6 88 yX6_checked, Cond.instanceMethod yX6_checked, Cond.selects RX6 yX6_checked yX6_checked]
def wsX6_errorReason_r3 : List Cond := [Cond.code yX6_checked cX6_checked 3 none, Cond.methodLink RX6 92 yX6_voice, Cond.instanceMethod yX6_voice, Cond.selects RX6 yX6_voice yX6_voice, Cond.code yX6_voice cX6_voice 3 (some .int), Cond.methodLink RX6 32 yX6_role, Cond.static yX6_role, Cond.code yX6_role cX6_role 4 none, Cond.methodLink RX6 36 yX6_appear, Cond.static yX6_appear, Cond.code yX6_appear cX6_appear 6 none]
def wsX6_errorReason : List Cond := .code yX6_errorReason cX6_errorReason 1 (some .int) :: ((wsX6_errorReason_r1 ++ (wsX6_errorReason_r2 ++ wsX6_errorReason_r3)) ++ wsX60)
def wsX6_configure_r1 : List Cond := [Cond.fieldLink RX6 13 "RoleDoublingPlannerModel" "read" "[I", Cond.fieldLink RX6 7 "RoleDoublingPlannerModel" "s" "[I", Cond.fieldLink RX6 101 "RoleDoublingPlannerModel" "keptMany" "I", Cond.methodLink RX6 98 yX6_readAll, Cond.instanceMethod yX6_readAll, Cond.selects RX6 yX6_readAll yX6_readAll, Cond.initialized RX6, Cond.code yX6_readAll cX6_readAll 2 (some .int), Cond.fieldLink RX6 52 "RoleDoublingPlannerModel" "spot" "I", Cond.fieldLink RX6 59 "RoleDoublingPlannerModel" "reason" "I", Cond.fieldLink RX6 48 "RoleDoublingPlannerModel" "length" "I", Cond.methodLink RX6 28 yX6_empty, Cond.static yX6_empty, Cond.code yX6_empty cX6_empty 2 none, Cond.methodLink RX6 95 yX6_statement, Cond.instanceMethod yX6_statement, Cond.selects RX6 yX6_statement yX6_statement, Cond.code yX6_statement cX6_statement 6 none, Cond.constantLong RX6 86 (99), Cond.methodLink RX6 76 yX6_word, Cond.instanceMethod yX6_word, Cond.selects RX6 yX6_word yX6_word, Cond.code yX6_word cX6_word 4 (some .int), Cond.fieldLink RX6 19 "RoleDoublingPlannerModel" "text" "[I"]
def wsX6_configure_r2 : List Cond := [Cond.constantLong RX6 55 (97), Cond.constantLong RX6 57 (122), Cond.methodLink RX6 44 yX6_in, Cond.static yX6_in, Cond.code yX6_in cX6_in 6 (some .boolean), Cond.methodLink RX6 79 yX6_named, Cond.static yX6_named, Cond.code yX6_named cX6_named 6 (some .int), Cond.methodLink RX6 83 yX6_number, Cond.instanceMethod yX6_number, Cond.selects RX6 yX6_number yX6_number, Cond.code yX6_number cX6_number 3 (some .int), Cond.constantLong RX6 70 (48), Cond.constantLong RX6 72 (57), Cond.constantLong RX6 74 (3), Cond.methodLink RX6 66 yX6_wants, Cond.instanceMethod yX6_wants, Cond.selects RX6 yX6_wants yX6_wants, Cond.code yX6_wants cX6_wants 2 none, Cond.methodLink RX6 62 yX6_here, Cond.instanceMethod yX6_here, Cond.selects RX6 yX6_here yX6_here, Cond.code yX6_here cX6_here 1 (some .int), Cond.methodLink RX6 88 yX6_checked]
def wsX6_configure_r3 : List Cond := [Cond.instanceMethod yX6_checked, Cond.selects RX6 yX6_checked yX6_checked, Cond.code yX6_checked cX6_checked 3 none, Cond.methodLink RX6 92 yX6_voice, Cond.instanceMethod yX6_voice, Cond.selects RX6 yX6_voice yX6_voice, Cond.code yX6_voice cX6_voice 3 (some .int), Cond.methodLink RX6 32 yX6_role, Cond.static yX6_role, Cond.code yX6_role cX6_role 4 none, Cond.methodLink RX6 36 yX6_appear, Cond.static yX6_appear, Cond.code yX6_appear cX6_appear 6 none]
def wsX6_configure : List Cond := .code yX6_configure cX6_configure 2 (some .int) :: ((wsX6_configure_r1 ++ (wsX6_configure_r2 ++ wsX6_configure_r3)) ++ wsX60)
def wsX6_keeps : List Cond := .code yX6_keeps cX6_keeps 2 none :: ([.fieldLink RX6 101 "RoleDoublingPlannerModel" "keptMany" "I", .fieldLink RX6 16 "RoleDoublingPlannerModel" "kept" "[I", .fieldLink RX6 7 "RoleDoublingPlannerModel" "s" "[I"] ++ wsX60)
def wsX6_undo : List Cond := .code yX6_undo cX6_undo 2 (some .int) :: ([.fieldLink RX6 101 "RoleDoublingPlannerModel" "keptMany" "I", .fieldLink RX6 7 "RoleDoublingPlannerModel" "s" "[I", .fieldLink RX6 16 "RoleDoublingPlannerModel" "kept" "[I"] ++ wsX60)
def wsX6_isRole : List Cond := .code yX6_isRole cX6_isRole 2 (some .boolean) :: ([.fieldLink RX6 7 "RoleDoublingPlannerModel" "s" "[I", .methodLink RX6 44 yX6_in, .static yX6_in, .initialized RX6, .code yX6_in cX6_in 6 (some .boolean)] ++ wsX60)
def wsX6_isScene : List Cond := .code yX6_isScene cX6_isScene 2 (some .boolean) :: ([.fieldLink RX6 7 "RoleDoublingPlannerModel" "s" "[I", .methodLink RX6 44 yX6_in, .static yX6_in, .initialized RX6, .code yX6_in cX6_in 6 (some .boolean)] ++ wsX60)
def wsX6_isActor : List Cond := .code yX6_isActor cX6_isActor 1 (some .boolean) :: ([.constantLong RX6 104 (7), .methodLink RX6 44 yX6_in, .static yX6_in, .initialized RX6, .code yX6_in cX6_in 6 (some .boolean)])
def wsX6_roleOf : List Cond := .code yX6_roleOf cX6_roleOf 2 (some .int) :: ([.fieldLink RX6 7 "RoleDoublingPlannerModel" "s" "[I"] ++ wsX60)
def wsX6_sceneStart : List Cond := .code yX6_sceneStart cX6_sceneStart 4 (some .int) :: ([.fieldLink RX6 7 "RoleDoublingPlannerModel" "s" "[I"] ++ wsX60)
def wsX6_enters : List Cond := .code yX6_enters cX6_enters 2 (some .int) :: ([.fieldLink RX6 7 "RoleDoublingPlannerModel" "s" "[I", .methodLink RX6 137 yX6_sceneStart, .instanceMethod yX6_sceneStart, .selects RX6 yX6_sceneStart yX6_sceneStart, .initialized RX6, .code yX6_sceneStart cX6_sceneStart 4 (some .int)] ++ wsX60)
def wsX6_exits : List Cond := .code yX6_exits cX6_exits 2 (some .int) :: ([.fieldLink RX6 7 "RoleDoublingPlannerModel" "s" "[I", .methodLink RX6 137 yX6_sceneStart, .instanceMethod yX6_sceneStart, .selects RX6 yX6_sceneStart yX6_sceneStart, .initialized RX6, .code yX6_sceneStart cX6_sceneStart 4 (some .int)] ++ wsX60)
def wsX6_overlap : List Cond := .code yX6_overlap cX6_overlap 6 (some .boolean) :: ([.fieldLink RX6 7 "RoleDoublingPlannerModel" "s" "[I", .methodLink RX6 146 yX6_roleOf, .instanceMethod yX6_roleOf, .selects RX6 yX6_roleOf yX6_roleOf, .initialized RX6, .code yX6_roleOf cX6_roleOf 2 (some .int), .methodLink RX6 140 yX6_enters, .instanceMethod yX6_enters, .selects RX6 yX6_enters yX6_enters, .code yX6_enters cX6_enters 2 (some .int), .methodLink RX6 137 yX6_sceneStart, .instanceMethod yX6_sceneStart, .selects RX6 yX6_sceneStart yX6_sceneStart, .code yX6_sceneStart cX6_sceneStart 4 (some .int), .methodLink RX6 143 yX6_exits, .instanceMethod yX6_exits, .selects RX6 yX6_exits yX6_exits, .code yX6_exits cX6_exits 2 (some .int)] ++ wsX60)
def wsX6_changeTime : List Cond := .code yX6_changeTime cX6_changeTime 5 (some .int) :: ([.fieldLink RX6 7 "RoleDoublingPlannerModel" "s" "[I"] ++ wsX60)
def wsX6_roomOf : List Cond := .code yX6_roomOf cX6_roomOf 9 (some .int) :: ([.constant RX6 155 (100000), .fieldLink RX6 7 "RoleDoublingPlannerModel" "s" "[I", .methodLink RX6 140 yX6_enters, .instanceMethod yX6_enters, .selects RX6 yX6_enters yX6_enters, .initialized RX6, .code yX6_enters cX6_enters 2 (some .int), .methodLink RX6 137 yX6_sceneStart, .instanceMethod yX6_sceneStart, .selects RX6 yX6_sceneStart yX6_sceneStart, .code yX6_sceneStart cX6_sceneStart 4 (some .int), .methodLink RX6 143 yX6_exits, .instanceMethod yX6_exits, .selects RX6 yX6_exits yX6_exits, .code yX6_exits cX6_exits 2 (some .int), .methodLink RX6 146 yX6_roleOf, .instanceMethod yX6_roleOf, .selects RX6 yX6_roleOf yX6_roleOf, .code yX6_roleOf cX6_roleOf 2 (some .int), .methodLink RX6 156 yX6_changeTime, .instanceMethod yX6_changeTime, .selects RX6 yX6_changeTime yX6_changeTime, .code yX6_changeTime cX6_changeTime 5 (some .int)] ++ wsX60)
def wsX6_reasonOf_r1 : List Cond := [Cond.fieldLink RX6 7 "RoleDoublingPlannerModel" "s" "[I", Cond.methodLink RX6 160 yX6_overlap, Cond.instanceMethod yX6_overlap, Cond.selects RX6 yX6_overlap yX6_overlap, Cond.initialized RX6, Cond.code yX6_overlap cX6_overlap 6 (some .boolean), Cond.methodLink RX6 146 yX6_roleOf, Cond.instanceMethod yX6_roleOf, Cond.selects RX6 yX6_roleOf yX6_roleOf, Cond.code yX6_roleOf cX6_roleOf 2 (some .int), Cond.methodLink RX6 140 yX6_enters, Cond.instanceMethod yX6_enters, Cond.selects RX6 yX6_enters yX6_enters, Cond.code yX6_enters cX6_enters 2 (some .int), Cond.methodLink RX6 137 yX6_sceneStart, Cond.instanceMethod yX6_sceneStart, Cond.selects RX6 yX6_sceneStart yX6_sceneStart, Cond.code yX6_sceneStart cX6_sceneStart 4 (some .int), Cond.methodLink RX6 143 yX6_exits, Cond.instanceMethod yX6_exits, Cond.selects RX6 yX6_exits yX6_exits, Cond.code yX6_exits cX6_exits 2 (some .int), Cond.methodLink RX6 164 yX6_roomOf, Cond.instanceMethod yX6_roomOf]
def wsX6_reasonOf_r2 : List Cond := [Cond.selects RX6 yX6_roomOf yX6_roomOf, Cond.code yX6_roomOf cX6_roomOf 9 (some .int), Cond.constant RX6 155 (100000), Cond.methodLink RX6 156 yX6_changeTime, Cond.instanceMethod yX6_changeTime, Cond.selects RX6 yX6_changeTime yX6_changeTime, Cond.code yX6_changeTime cX6_changeTime 5 (some .int)]
def wsX6_reasonOf : List Cond := .code yX6_reasonOf cX6_reasonOf 4 (some .int) :: ((wsX6_reasonOf_r1 ++ wsX6_reasonOf_r2) ++ wsX60)
def wsX6_layConflicts_r1 : List Cond := [Cond.fieldLink RX6 7 "RoleDoublingPlannerModel" "s" "[I", Cond.fieldLink RX6 22 "RoleDoublingPlannerModel" "with" "[I", Cond.methodLink RX6 167 yX6_reasonOf, Cond.instanceMethod yX6_reasonOf, Cond.selects RX6 yX6_reasonOf yX6_reasonOf, Cond.initialized RX6, Cond.code yX6_reasonOf cX6_reasonOf 4 (some .int), Cond.methodLink RX6 160 yX6_overlap, Cond.instanceMethod yX6_overlap, Cond.selects RX6 yX6_overlap yX6_overlap, Cond.code yX6_overlap cX6_overlap 6 (some .boolean), Cond.methodLink RX6 146 yX6_roleOf, Cond.instanceMethod yX6_roleOf, Cond.selects RX6 yX6_roleOf yX6_roleOf, Cond.code yX6_roleOf cX6_roleOf 2 (some .int), Cond.methodLink RX6 140 yX6_enters, Cond.instanceMethod yX6_enters, Cond.selects RX6 yX6_enters yX6_enters, Cond.code yX6_enters cX6_enters 2 (some .int), Cond.methodLink RX6 137 yX6_sceneStart, Cond.instanceMethod yX6_sceneStart, Cond.selects RX6 yX6_sceneStart yX6_sceneStart, Cond.code yX6_sceneStart cX6_sceneStart 4 (some .int), Cond.methodLink RX6 143 yX6_exits]
def wsX6_layConflicts_r2 : List Cond := [Cond.instanceMethod yX6_exits, Cond.selects RX6 yX6_exits yX6_exits, Cond.code yX6_exits cX6_exits 2 (some .int), Cond.methodLink RX6 164 yX6_roomOf, Cond.instanceMethod yX6_roomOf, Cond.selects RX6 yX6_roomOf yX6_roomOf, Cond.code yX6_roomOf cX6_roomOf 9 (some .int), Cond.constant RX6 155 (100000), Cond.methodLink RX6 156 yX6_changeTime, Cond.instanceMethod yX6_changeTime, Cond.selects RX6 yX6_changeTime yX6_changeTime, Cond.code yX6_changeTime cX6_changeTime 5 (some .int)]
def wsX6_layConflicts : List Cond := .code yX6_layConflicts cX6_layConflicts 4 none :: ((wsX6_layConflicts_r1 ++ wsX6_layConflicts_r2) ++ wsX60)
def wsX6_repairs_r1 : List Cond := [Cond.fieldLink RX6 7 "RoleDoublingPlannerModel" "s" "[I", Cond.fieldLink RX6 22 "RoleDoublingPlannerModel" "with" "[I", Cond.methodLink RX6 106 yX6_layConflicts, Cond.instanceMethod yX6_layConflicts, Cond.selects RX6 yX6_layConflicts yX6_layConflicts, Cond.initialized RX6, Cond.code yX6_layConflicts cX6_layConflicts 4 none, Cond.methodLink RX6 167 yX6_reasonOf, Cond.instanceMethod yX6_reasonOf, Cond.selects RX6 yX6_reasonOf yX6_reasonOf, Cond.code yX6_reasonOf cX6_reasonOf 4 (some .int), Cond.methodLink RX6 160 yX6_overlap, Cond.instanceMethod yX6_overlap, Cond.selects RX6 yX6_overlap yX6_overlap, Cond.code yX6_overlap cX6_overlap 6 (some .boolean), Cond.methodLink RX6 146 yX6_roleOf, Cond.instanceMethod yX6_roleOf, Cond.selects RX6 yX6_roleOf yX6_roleOf, Cond.code yX6_roleOf cX6_roleOf 2 (some .int), Cond.methodLink RX6 140 yX6_enters, Cond.instanceMethod yX6_enters, Cond.selects RX6 yX6_enters yX6_enters, Cond.code yX6_enters cX6_enters 2 (some .int), Cond.methodLink RX6 137 yX6_sceneStart]
def wsX6_repairs_r2 : List Cond := [Cond.instanceMethod yX6_sceneStart, Cond.selects RX6 yX6_sceneStart yX6_sceneStart, Cond.code yX6_sceneStart cX6_sceneStart 4 (some .int), Cond.methodLink RX6 143 yX6_exits, Cond.instanceMethod yX6_exits, Cond.selects RX6 yX6_exits yX6_exits, Cond.code yX6_exits cX6_exits 2 (some .int), Cond.methodLink RX6 164 yX6_roomOf, Cond.instanceMethod yX6_roomOf, Cond.selects RX6 yX6_roomOf yX6_roomOf, Cond.code yX6_roomOf cX6_roomOf 9 (some .int), Cond.constant RX6 155 (100000), Cond.methodLink RX6 156 yX6_changeTime, Cond.instanceMethod yX6_changeTime, Cond.selects RX6 yX6_changeTime yX6_changeTime, Cond.code yX6_changeTime cX6_changeTime 5 (some .int)]
def wsX6_repairs : List Cond := .code yX6_repairs cX6_repairs 5 (some .int) :: ((wsX6_repairs_r1 ++ wsX6_repairs_r2) ++ wsX60)
def wsX6_addAppearance_r1 : List Cond := [Cond.fieldLink RX6 7 "RoleDoublingPlannerModel" "s" "[I", Cond.methodLink RX6 109 yX6_isRole, Cond.instanceMethod yX6_isRole, Cond.selects RX6 yX6_isRole yX6_isRole, Cond.initialized RX6, Cond.code yX6_isRole cX6_isRole 2 (some .boolean), Cond.methodLink RX6 44 yX6_in, Cond.static yX6_in, Cond.code yX6_in cX6_in 6 (some .boolean), Cond.methodLink RX6 113 yX6_isScene, Cond.instanceMethod yX6_isScene, Cond.selects RX6 yX6_isScene yX6_isScene, Cond.code yX6_isScene cX6_isScene 2 (some .boolean), Cond.methodLink RX6 116 yX6_keeps, Cond.instanceMethod yX6_keeps, Cond.selects RX6 yX6_keeps yX6_keeps, Cond.code yX6_keeps cX6_keeps 2 none, Cond.fieldLink RX6 101 "RoleDoublingPlannerModel" "keptMany" "I", Cond.fieldLink RX6 16 "RoleDoublingPlannerModel" "kept" "[I", Cond.methodLink RX6 36 yX6_appear, Cond.static yX6_appear, Cond.code yX6_appear cX6_appear 6 none, Cond.methodLink RX6 119 yX6_repairs, Cond.instanceMethod yX6_repairs]
def wsX6_addAppearance_r2 : List Cond := [Cond.selects RX6 yX6_repairs yX6_repairs, Cond.code yX6_repairs cX6_repairs 5 (some .int), Cond.fieldLink RX6 22 "RoleDoublingPlannerModel" "with" "[I", Cond.methodLink RX6 106 yX6_layConflicts, Cond.instanceMethod yX6_layConflicts, Cond.selects RX6 yX6_layConflicts yX6_layConflicts, Cond.code yX6_layConflicts cX6_layConflicts 4 none, Cond.methodLink RX6 167 yX6_reasonOf, Cond.instanceMethod yX6_reasonOf, Cond.selects RX6 yX6_reasonOf yX6_reasonOf, Cond.code yX6_reasonOf cX6_reasonOf 4 (some .int), Cond.methodLink RX6 160 yX6_overlap, Cond.instanceMethod yX6_overlap, Cond.selects RX6 yX6_overlap yX6_overlap, Cond.code yX6_overlap cX6_overlap 6 (some .boolean), Cond.methodLink RX6 146 yX6_roleOf, Cond.instanceMethod yX6_roleOf, Cond.selects RX6 yX6_roleOf yX6_roleOf, Cond.code yX6_roleOf cX6_roleOf 2 (some .int), Cond.methodLink RX6 140 yX6_enters, Cond.instanceMethod yX6_enters, Cond.selects RX6 yX6_enters yX6_enters, Cond.code yX6_enters cX6_enters 2 (some .int), Cond.methodLink RX6 137 yX6_sceneStart]
def wsX6_addAppearance_r3 : List Cond := [Cond.instanceMethod yX6_sceneStart, Cond.selects RX6 yX6_sceneStart yX6_sceneStart, Cond.code yX6_sceneStart cX6_sceneStart 4 (some .int), Cond.methodLink RX6 143 yX6_exits, Cond.instanceMethod yX6_exits, Cond.selects RX6 yX6_exits yX6_exits, Cond.code yX6_exits cX6_exits 2 (some .int), Cond.methodLink RX6 164 yX6_roomOf, Cond.instanceMethod yX6_roomOf, Cond.selects RX6 yX6_roomOf yX6_roomOf, Cond.code yX6_roomOf cX6_roomOf 9 (some .int), Cond.constant RX6 155 (100000), Cond.methodLink RX6 156 yX6_changeTime, Cond.instanceMethod yX6_changeTime, Cond.selects RX6 yX6_changeTime yX6_changeTime, Cond.code yX6_changeTime cX6_changeTime 5 (some .int)]
def wsX6_addAppearance : List Cond := .code yX6_addAppearance cX6_addAppearance 5 (some .int) :: ((wsX6_addAppearance_r1 ++ (wsX6_addAppearance_r2 ++ wsX6_addAppearance_r3)) ++ wsX60)
def wsX6_removeAppearance : List Cond := .code yX6_removeAppearance cX6_removeAppearance 3 (some .int) :: ([.fieldLink RX6 7 "RoleDoublingPlannerModel" "s" "[I", .methodLink RX6 44 yX6_in, .static yX6_in, .initialized RX6, .code yX6_in cX6_in 6 (some .boolean), .methodLink RX6 116 yX6_keeps, .instanceMethod yX6_keeps, .selects RX6 yX6_keeps yX6_keeps, .code yX6_keeps cX6_keeps 2 none, .fieldLink RX6 101 "RoleDoublingPlannerModel" "keptMany" "I", .fieldLink RX6 16 "RoleDoublingPlannerModel" "kept" "[I"] ++ wsX60)
def wsX6_setChangeTimes_r1 : List Cond := [Cond.constantLong RX6 122 (60), Cond.fieldLink RX6 7 "RoleDoublingPlannerModel" "s" "[I", Cond.methodLink RX6 109 yX6_isRole, Cond.instanceMethod yX6_isRole, Cond.selects RX6 yX6_isRole yX6_isRole, Cond.initialized RX6, Cond.code yX6_isRole cX6_isRole 2 (some .boolean), Cond.methodLink RX6 44 yX6_in, Cond.static yX6_in, Cond.code yX6_in cX6_in 6 (some .boolean), Cond.methodLink RX6 116 yX6_keeps, Cond.instanceMethod yX6_keeps, Cond.selects RX6 yX6_keeps yX6_keeps, Cond.code yX6_keeps cX6_keeps 2 none, Cond.fieldLink RX6 101 "RoleDoublingPlannerModel" "keptMany" "I", Cond.fieldLink RX6 16 "RoleDoublingPlannerModel" "kept" "[I", Cond.methodLink RX6 119 yX6_repairs, Cond.instanceMethod yX6_repairs, Cond.selects RX6 yX6_repairs yX6_repairs, Cond.code yX6_repairs cX6_repairs 5 (some .int), Cond.fieldLink RX6 22 "RoleDoublingPlannerModel" "with" "[I", Cond.methodLink RX6 106 yX6_layConflicts, Cond.instanceMethod yX6_layConflicts, Cond.selects RX6 yX6_layConflicts yX6_layConflicts]
def wsX6_setChangeTimes_r2 : List Cond := [Cond.code yX6_layConflicts cX6_layConflicts 4 none, Cond.methodLink RX6 167 yX6_reasonOf, Cond.instanceMethod yX6_reasonOf, Cond.selects RX6 yX6_reasonOf yX6_reasonOf, Cond.code yX6_reasonOf cX6_reasonOf 4 (some .int), Cond.methodLink RX6 160 yX6_overlap, Cond.instanceMethod yX6_overlap, Cond.selects RX6 yX6_overlap yX6_overlap, Cond.code yX6_overlap cX6_overlap 6 (some .boolean), Cond.methodLink RX6 146 yX6_roleOf, Cond.instanceMethod yX6_roleOf, Cond.selects RX6 yX6_roleOf yX6_roleOf, Cond.code yX6_roleOf cX6_roleOf 2 (some .int), Cond.methodLink RX6 140 yX6_enters, Cond.instanceMethod yX6_enters, Cond.selects RX6 yX6_enters yX6_enters, Cond.code yX6_enters cX6_enters 2 (some .int), Cond.methodLink RX6 137 yX6_sceneStart, Cond.instanceMethod yX6_sceneStart, Cond.selects RX6 yX6_sceneStart yX6_sceneStart, Cond.code yX6_sceneStart cX6_sceneStart 4 (some .int), Cond.methodLink RX6 143 yX6_exits, Cond.instanceMethod yX6_exits, Cond.selects RX6 yX6_exits yX6_exits]
def wsX6_setChangeTimes_r3 : List Cond := [Cond.code yX6_exits cX6_exits 2 (some .int), Cond.methodLink RX6 164 yX6_roomOf, Cond.instanceMethod yX6_roomOf, Cond.selects RX6 yX6_roomOf yX6_roomOf, Cond.code yX6_roomOf cX6_roomOf 9 (some .int), Cond.constant RX6 155 (100000), Cond.methodLink RX6 156 yX6_changeTime, Cond.instanceMethod yX6_changeTime, Cond.selects RX6 yX6_changeTime yX6_changeTime, Cond.code yX6_changeTime cX6_changeTime 5 (some .int)]
def wsX6_setChangeTimes : List Cond := .code yX6_setChangeTimes cX6_setChangeTimes 4 (some .int) :: ((wsX6_setChangeTimes_r1 ++ (wsX6_setChangeTimes_r2 ++ wsX6_setChangeTimes_r3)) ++ wsX60)
def wsX6_castBy : List Cond := .code yX6_castBy cX6_castBy 4 (some .int) :: ([.fieldLink RX6 7 "RoleDoublingPlannerModel" "s" "[I"] ++ wsX60)
def wsX6_ones : List Cond := .code yX6_ones cX6_ones 3 (some .int) :: ([])
def wsX6_cast_r1 : List Cond := [Cond.fieldLink RX6 22 "RoleDoublingPlannerModel" "with" "[I", Cond.fieldLink RX6 7 "RoleDoublingPlannerModel" "s" "[I", Cond.methodLink RX6 109 yX6_isRole, Cond.instanceMethod yX6_isRole, Cond.selects RX6 yX6_isRole yX6_isRole, Cond.initialized RX6, Cond.code yX6_isRole cX6_isRole 2 (some .boolean), Cond.methodLink RX6 44 yX6_in, Cond.static yX6_in, Cond.code yX6_in cX6_in 6 (some .boolean), Cond.methodLink RX6 124 yX6_isActor, Cond.static yX6_isActor, Cond.code yX6_isActor cX6_isActor 1 (some .boolean), Cond.constantLong RX6 104 (7), Cond.methodLink RX6 106 yX6_layConflicts, Cond.instanceMethod yX6_layConflicts, Cond.selects RX6 yX6_layConflicts yX6_layConflicts, Cond.code yX6_layConflicts cX6_layConflicts 4 none, Cond.methodLink RX6 167 yX6_reasonOf, Cond.instanceMethod yX6_reasonOf, Cond.selects RX6 yX6_reasonOf yX6_reasonOf, Cond.code yX6_reasonOf cX6_reasonOf 4 (some .int), Cond.methodLink RX6 160 yX6_overlap, Cond.instanceMethod yX6_overlap]
def wsX6_cast_r2 : List Cond := [Cond.selects RX6 yX6_overlap yX6_overlap, Cond.code yX6_overlap cX6_overlap 6 (some .boolean), Cond.methodLink RX6 146 yX6_roleOf, Cond.instanceMethod yX6_roleOf, Cond.selects RX6 yX6_roleOf yX6_roleOf, Cond.code yX6_roleOf cX6_roleOf 2 (some .int), Cond.methodLink RX6 140 yX6_enters, Cond.instanceMethod yX6_enters, Cond.selects RX6 yX6_enters yX6_enters, Cond.code yX6_enters cX6_enters 2 (some .int), Cond.methodLink RX6 137 yX6_sceneStart, Cond.instanceMethod yX6_sceneStart, Cond.selects RX6 yX6_sceneStart yX6_sceneStart, Cond.code yX6_sceneStart cX6_sceneStart 4 (some .int), Cond.methodLink RX6 143 yX6_exits, Cond.instanceMethod yX6_exits, Cond.selects RX6 yX6_exits yX6_exits, Cond.code yX6_exits cX6_exits 2 (some .int), Cond.methodLink RX6 164 yX6_roomOf, Cond.instanceMethod yX6_roomOf, Cond.selects RX6 yX6_roomOf yX6_roomOf, Cond.code yX6_roomOf cX6_roomOf 9 (some .int), Cond.constant RX6 155 (100000), Cond.methodLink RX6 156 yX6_changeTime]
def wsX6_cast_r3 : List Cond := [Cond.instanceMethod yX6_changeTime, Cond.selects RX6 yX6_changeTime yX6_changeTime, Cond.code yX6_changeTime cX6_changeTime 5 (some .int), Cond.methodLink RX6 127 yX6_castBy, Cond.instanceMethod yX6_castBy, Cond.selects RX6 yX6_castBy yX6_castBy, Cond.code yX6_castBy cX6_castBy 4 (some .int), Cond.methodLink RX6 116 yX6_keeps, Cond.instanceMethod yX6_keeps, Cond.selects RX6 yX6_keeps yX6_keeps, Cond.code yX6_keeps cX6_keeps 2 none, Cond.fieldLink RX6 101 "RoleDoublingPlannerModel" "keptMany" "I", Cond.fieldLink RX6 16 "RoleDoublingPlannerModel" "kept" "[I", Cond.methodLink RX6 131 yX6_ones, Cond.static yX6_ones, Cond.code yX6_ones cX6_ones 3 (some .int)]
def wsX6_cast : List Cond := .code yX6_cast cX6_cast 3 (some .int) :: ((wsX6_cast_r1 ++ (wsX6_cast_r2 ++ wsX6_cast_r3)) ++ wsX60)
def wsX6_uncast : List Cond := .code yX6_uncast cX6_uncast 3 (some .int) :: ([.fieldLink RX6 7 "RoleDoublingPlannerModel" "s" "[I", .methodLink RX6 109 yX6_isRole, .instanceMethod yX6_isRole, .selects RX6 yX6_isRole yX6_isRole, .initialized RX6, .code yX6_isRole cX6_isRole 2 (some .boolean), .methodLink RX6 44 yX6_in, .static yX6_in, .code yX6_in cX6_in 6 (some .boolean), .methodLink RX6 116 yX6_keeps, .instanceMethod yX6_keeps, .selects RX6 yX6_keeps yX6_keeps, .code yX6_keeps cX6_keeps 2 none, .fieldLink RX6 101 "RoleDoublingPlannerModel" "keptMany" "I", .fieldLink RX6 16 "RoleDoublingPlannerModel" "kept" "[I"] ++ wsX60)
def wsX6_mayHave : List Cond := .code yX6_mayHave cX6_mayHave 5 (some .boolean) :: ([.fieldLink RX6 25 "RoleDoublingPlannerModel" "given" "[I", .fieldLink RX6 22 "RoleDoublingPlannerModel" "with" "[I"] ++ wsX60)
def wsX6_isGiven : List Cond := .code yX6_isGiven cX6_isGiven 3 (some .boolean) :: ([.fieldLink RX6 25 "RoleDoublingPlannerModel" "given" "[I", .fieldLink RX6 7 "RoleDoublingPlannerModel" "s" "[I", .methodLink RX6 177 yX6_mayHave, .instanceMethod yX6_mayHave, .selects RX6 yX6_mayHave yX6_mayHave, .initialized RX6, .code yX6_mayHave cX6_mayHave 5 (some .boolean), .fieldLink RX6 22 "RoleDoublingPlannerModel" "with" "[I"] ++ wsX60)
def wsX6_leastFor_r1 : List Cond := [Cond.methodLink RX6 106 yX6_layConflicts, Cond.instanceMethod yX6_layConflicts, Cond.selects RX6 yX6_layConflicts yX6_layConflicts, Cond.initialized RX6, Cond.code yX6_layConflicts cX6_layConflicts 4 none, Cond.fieldLink RX6 7 "RoleDoublingPlannerModel" "s" "[I", Cond.fieldLink RX6 22 "RoleDoublingPlannerModel" "with" "[I", Cond.methodLink RX6 167 yX6_reasonOf, Cond.instanceMethod yX6_reasonOf, Cond.selects RX6 yX6_reasonOf yX6_reasonOf, Cond.code yX6_reasonOf cX6_reasonOf 4 (some .int), Cond.methodLink RX6 160 yX6_overlap, Cond.instanceMethod yX6_overlap, Cond.selects RX6 yX6_overlap yX6_overlap, Cond.code yX6_overlap cX6_overlap 6 (some .boolean), Cond.methodLink RX6 146 yX6_roleOf, Cond.instanceMethod yX6_roleOf, Cond.selects RX6 yX6_roleOf yX6_roleOf, Cond.code yX6_roleOf cX6_roleOf 2 (some .int), Cond.methodLink RX6 140 yX6_enters, Cond.instanceMethod yX6_enters, Cond.selects RX6 yX6_enters yX6_enters, Cond.code yX6_enters cX6_enters 2 (some .int), Cond.methodLink RX6 137 yX6_sceneStart]
def wsX6_leastFor_r2 : List Cond := [Cond.instanceMethod yX6_sceneStart, Cond.selects RX6 yX6_sceneStart yX6_sceneStart, Cond.code yX6_sceneStart cX6_sceneStart 4 (some .int), Cond.methodLink RX6 143 yX6_exits, Cond.instanceMethod yX6_exits, Cond.selects RX6 yX6_exits yX6_exits, Cond.code yX6_exits cX6_exits 2 (some .int), Cond.methodLink RX6 164 yX6_roomOf, Cond.instanceMethod yX6_roomOf, Cond.selects RX6 yX6_roomOf yX6_roomOf, Cond.code yX6_roomOf cX6_roomOf 9 (some .int), Cond.constant RX6 155 (100000), Cond.methodLink RX6 156 yX6_changeTime, Cond.instanceMethod yX6_changeTime, Cond.selects RX6 yX6_changeTime yX6_changeTime, Cond.code yX6_changeTime cX6_changeTime 5 (some .int), Cond.methodLink RX6 180 yX6_isGiven, Cond.instanceMethod yX6_isGiven, Cond.selects RX6 yX6_isGiven yX6_isGiven, Cond.code yX6_isGiven cX6_isGiven 3 (some .boolean), Cond.fieldLink RX6 25 "RoleDoublingPlannerModel" "given" "[I", Cond.methodLink RX6 177 yX6_mayHave, Cond.instanceMethod yX6_mayHave, Cond.selects RX6 yX6_mayHave yX6_mayHave]
def wsX6_leastFor_r3 : List Cond := [Cond.code yX6_mayHave cX6_mayHave 5 (some .boolean)]
def wsX6_leastFor : List Cond := .code yX6_leastFor cX6_leastFor 3 (some .int) :: ((wsX6_leastFor_r1 ++ (wsX6_leastFor_r2 ++ wsX6_leastFor_r3)) ++ wsX60)
def wsX6_adoptFirstCast_r1 : List Cond := [Cond.fieldLink RX6 7 "RoleDoublingPlannerModel" "s" "[I", Cond.fieldLink RX6 25 "RoleDoublingPlannerModel" "given" "[I", Cond.methodLink RX6 116 yX6_keeps, Cond.instanceMethod yX6_keeps, Cond.selects RX6 yX6_keeps yX6_keeps, Cond.initialized RX6, Cond.code yX6_keeps cX6_keeps 2 none, Cond.fieldLink RX6 101 "RoleDoublingPlannerModel" "keptMany" "I", Cond.fieldLink RX6 16 "RoleDoublingPlannerModel" "kept" "[I", Cond.methodLink RX6 134 yX6_leastFor, Cond.instanceMethod yX6_leastFor, Cond.selects RX6 yX6_leastFor yX6_leastFor, Cond.code yX6_leastFor cX6_leastFor 3 (some .int), Cond.methodLink RX6 106 yX6_layConflicts, Cond.instanceMethod yX6_layConflicts, Cond.selects RX6 yX6_layConflicts yX6_layConflicts, Cond.code yX6_layConflicts cX6_layConflicts 4 none, Cond.fieldLink RX6 22 "RoleDoublingPlannerModel" "with" "[I", Cond.methodLink RX6 167 yX6_reasonOf, Cond.instanceMethod yX6_reasonOf, Cond.selects RX6 yX6_reasonOf yX6_reasonOf, Cond.code yX6_reasonOf cX6_reasonOf 4 (some .int), Cond.methodLink RX6 160 yX6_overlap, Cond.instanceMethod yX6_overlap]
def wsX6_adoptFirstCast_r2 : List Cond := [Cond.selects RX6 yX6_overlap yX6_overlap, Cond.code yX6_overlap cX6_overlap 6 (some .boolean), Cond.methodLink RX6 146 yX6_roleOf, Cond.instanceMethod yX6_roleOf, Cond.selects RX6 yX6_roleOf yX6_roleOf, Cond.code yX6_roleOf cX6_roleOf 2 (some .int), Cond.methodLink RX6 140 yX6_enters, Cond.instanceMethod yX6_enters, Cond.selects RX6 yX6_enters yX6_enters, Cond.code yX6_enters cX6_enters 2 (some .int), Cond.methodLink RX6 137 yX6_sceneStart, Cond.instanceMethod yX6_sceneStart, Cond.selects RX6 yX6_sceneStart yX6_sceneStart, Cond.code yX6_sceneStart cX6_sceneStart 4 (some .int), Cond.methodLink RX6 143 yX6_exits, Cond.instanceMethod yX6_exits, Cond.selects RX6 yX6_exits yX6_exits, Cond.code yX6_exits cX6_exits 2 (some .int), Cond.methodLink RX6 164 yX6_roomOf, Cond.instanceMethod yX6_roomOf, Cond.selects RX6 yX6_roomOf yX6_roomOf, Cond.code yX6_roomOf cX6_roomOf 9 (some .int), Cond.constant RX6 155 (100000), Cond.methodLink RX6 156 yX6_changeTime]
def wsX6_adoptFirstCast_r3 : List Cond := [Cond.instanceMethod yX6_changeTime, Cond.selects RX6 yX6_changeTime yX6_changeTime, Cond.code yX6_changeTime cX6_changeTime 5 (some .int), Cond.methodLink RX6 180 yX6_isGiven, Cond.instanceMethod yX6_isGiven, Cond.selects RX6 yX6_isGiven yX6_isGiven, Cond.code yX6_isGiven cX6_isGiven 3 (some .boolean), Cond.methodLink RX6 177 yX6_mayHave, Cond.instanceMethod yX6_mayHave, Cond.selects RX6 yX6_mayHave yX6_mayHave, Cond.code yX6_mayHave cX6_mayHave 5 (some .boolean)]
def wsX6_adoptFirstCast : List Cond := .code yX6_adoptFirstCast cX6_adoptFirstCast 3 (some .int) :: ((wsX6_adoptFirstCast_r1 ++ (wsX6_adoptFirstCast_r2 ++ wsX6_adoptFirstCast_r3)) ++ wsX60)
def wsX6_roleCount : List Cond := .code yX6_roleCount cX6_roleCount 1 (some .int) :: ([.fieldLink RX6 7 "RoleDoublingPlannerModel" "s" "[I"] ++ wsX60)
def wsX6_appearanceCount : List Cond := .code yX6_appearanceCount cX6_appearanceCount 1 (some .int) :: ([.fieldLink RX6 7 "RoleDoublingPlannerModel" "s" "[I"] ++ wsX60)
def wsX6_playLength : List Cond := .code yX6_playLength cX6_playLength 1 (some .int) :: ([.fieldLink RX6 7 "RoleDoublingPlannerModel" "s" "[I", .methodLink RX6 137 yX6_sceneStart, .instanceMethod yX6_sceneStart, .selects RX6 yX6_sceneStart yX6_sceneStart, .initialized RX6, .code yX6_sceneStart cX6_sceneStart 4 (some .int)] ++ wsX60)
def wsX6_rolesAt : List Cond := .code yX6_rolesAt cX6_rolesAt 4 (some .int) :: ([.fieldLink RX6 7 "RoleDoublingPlannerModel" "s" "[I", .methodLink RX6 140 yX6_enters, .instanceMethod yX6_enters, .selects RX6 yX6_enters yX6_enters, .initialized RX6, .code yX6_enters cX6_enters 2 (some .int), .methodLink RX6 137 yX6_sceneStart, .instanceMethod yX6_sceneStart, .selects RX6 yX6_sceneStart yX6_sceneStart, .code yX6_sceneStart cX6_sceneStart 4 (some .int), .methodLink RX6 143 yX6_exits, .instanceMethod yX6_exits, .selects RX6 yX6_exits yX6_exits, .code yX6_exits cX6_exits 2 (some .int), .methodLink RX6 146 yX6_roleOf, .instanceMethod yX6_roleOf, .selects RX6 yX6_roleOf yX6_roleOf, .code yX6_roleOf cX6_roleOf 2 (some .int)] ++ wsX60)
def wsX6_onStage_r1 : List Cond := [Cond.methodLink RX6 149 yX6_playLength, Cond.instanceMethod yX6_playLength, Cond.selects RX6 yX6_playLength yX6_playLength, Cond.initialized RX6, Cond.code yX6_playLength cX6_playLength 1 (some .int), Cond.fieldLink RX6 7 "RoleDoublingPlannerModel" "s" "[I", Cond.methodLink RX6 137 yX6_sceneStart, Cond.instanceMethod yX6_sceneStart, Cond.selects RX6 yX6_sceneStart yX6_sceneStart, Cond.code yX6_sceneStart cX6_sceneStart 4 (some .int), Cond.methodLink RX6 44 yX6_in, Cond.static yX6_in, Cond.code yX6_in cX6_in 6 (some .boolean), Cond.methodLink RX6 152 yX6_rolesAt, Cond.instanceMethod yX6_rolesAt, Cond.selects RX6 yX6_rolesAt yX6_rolesAt, Cond.code yX6_rolesAt cX6_rolesAt 4 (some .int), Cond.methodLink RX6 140 yX6_enters, Cond.instanceMethod yX6_enters, Cond.selects RX6 yX6_enters yX6_enters, Cond.code yX6_enters cX6_enters 2 (some .int), Cond.methodLink RX6 143 yX6_exits, Cond.instanceMethod yX6_exits, Cond.selects RX6 yX6_exits yX6_exits]
def wsX6_onStage_r2 : List Cond := [Cond.code yX6_exits cX6_exits 2 (some .int), Cond.methodLink RX6 146 yX6_roleOf, Cond.instanceMethod yX6_roleOf, Cond.selects RX6 yX6_roleOf yX6_roleOf, Cond.code yX6_roleOf cX6_roleOf 2 (some .int)]
def wsX6_onStage : List Cond := .code yX6_onStage cX6_onStage 2 (some .int) :: ((wsX6_onStage_r1 ++ wsX6_onStage_r2) ++ wsX60)
def wsX6_peak_r1 : List Cond := [Cond.fieldLink RX6 7 "RoleDoublingPlannerModel" "s" "[I", Cond.methodLink RX6 140 yX6_enters, Cond.instanceMethod yX6_enters, Cond.selects RX6 yX6_enters yX6_enters, Cond.initialized RX6, Cond.code yX6_enters cX6_enters 2 (some .int), Cond.methodLink RX6 137 yX6_sceneStart, Cond.instanceMethod yX6_sceneStart, Cond.selects RX6 yX6_sceneStart yX6_sceneStart, Cond.code yX6_sceneStart cX6_sceneStart 4 (some .int), Cond.methodLink RX6 152 yX6_rolesAt, Cond.instanceMethod yX6_rolesAt, Cond.selects RX6 yX6_rolesAt yX6_rolesAt, Cond.code yX6_rolesAt cX6_rolesAt 4 (some .int), Cond.methodLink RX6 143 yX6_exits, Cond.instanceMethod yX6_exits, Cond.selects RX6 yX6_exits yX6_exits, Cond.code yX6_exits cX6_exits 2 (some .int), Cond.methodLink RX6 146 yX6_roleOf, Cond.instanceMethod yX6_roleOf, Cond.selects RX6 yX6_roleOf yX6_roleOf, Cond.code yX6_roleOf cX6_roleOf 2 (some .int), Cond.methodLink RX6 131 yX6_ones, Cond.static yX6_ones]
def wsX6_peak_r2 : List Cond := [Cond.code yX6_ones cX6_ones 3 (some .int)]
def wsX6_peak : List Cond := .code yX6_peak cX6_peak 4 (some .int) :: ((wsX6_peak_r1 ++ wsX6_peak_r2) ++ wsX60)
def wsX6_rolesInScene : List Cond := .code yX6_rolesInScene cX6_rolesInScene 4 (some .int) :: ([.fieldLink RX6 7 "RoleDoublingPlannerModel" "s" "[I", .methodLink RX6 113 yX6_isScene, .instanceMethod yX6_isScene, .selects RX6 yX6_isScene yX6_isScene, .initialized RX6, .code yX6_isScene cX6_isScene 2 (some .boolean), .methodLink RX6 44 yX6_in, .static yX6_in, .code yX6_in cX6_in 6 (some .boolean), .methodLink RX6 146 yX6_roleOf, .instanceMethod yX6_roleOf, .selects RX6 yX6_roleOf yX6_roleOf, .code yX6_roleOf cX6_roleOf 2 (some .int)] ++ wsX60)
def wsX6_areTwo : List Cond := .code yX6_areTwo cX6_areTwo 3 (some .boolean) :: ([.methodLink RX6 109 yX6_isRole, .instanceMethod yX6_isRole, .selects RX6 yX6_isRole yX6_isRole, .initialized RX6, .code yX6_isRole cX6_isRole 2 (some .boolean), .fieldLink RX6 7 "RoleDoublingPlannerModel" "s" "[I", .methodLink RX6 44 yX6_in, .static yX6_in, .code yX6_in cX6_in 6 (some .boolean)] ++ wsX60)
def wsX6_conflict_r1 : List Cond := [Cond.methodLink RX6 170 yX6_areTwo, Cond.instanceMethod yX6_areTwo, Cond.selects RX6 yX6_areTwo yX6_areTwo, Cond.initialized RX6, Cond.code yX6_areTwo cX6_areTwo 3 (some .boolean), Cond.methodLink RX6 109 yX6_isRole, Cond.instanceMethod yX6_isRole, Cond.selects RX6 yX6_isRole yX6_isRole, Cond.code yX6_isRole cX6_isRole 2 (some .boolean), Cond.fieldLink RX6 7 "RoleDoublingPlannerModel" "s" "[I", Cond.methodLink RX6 44 yX6_in, Cond.static yX6_in, Cond.code yX6_in cX6_in 6 (some .boolean), Cond.methodLink RX6 167 yX6_reasonOf, Cond.instanceMethod yX6_reasonOf, Cond.selects RX6 yX6_reasonOf yX6_reasonOf, Cond.code yX6_reasonOf cX6_reasonOf 4 (some .int), Cond.methodLink RX6 160 yX6_overlap, Cond.instanceMethod yX6_overlap, Cond.selects RX6 yX6_overlap yX6_overlap, Cond.code yX6_overlap cX6_overlap 6 (some .boolean), Cond.methodLink RX6 146 yX6_roleOf, Cond.instanceMethod yX6_roleOf, Cond.selects RX6 yX6_roleOf yX6_roleOf]
def wsX6_conflict_r2 : List Cond := [Cond.code yX6_roleOf cX6_roleOf 2 (some .int), Cond.methodLink RX6 140 yX6_enters, Cond.instanceMethod yX6_enters, Cond.selects RX6 yX6_enters yX6_enters, Cond.code yX6_enters cX6_enters 2 (some .int), Cond.methodLink RX6 137 yX6_sceneStart, Cond.instanceMethod yX6_sceneStart, Cond.selects RX6 yX6_sceneStart yX6_sceneStart, Cond.code yX6_sceneStart cX6_sceneStart 4 (some .int), Cond.methodLink RX6 143 yX6_exits, Cond.instanceMethod yX6_exits, Cond.selects RX6 yX6_exits yX6_exits, Cond.code yX6_exits cX6_exits 2 (some .int), Cond.methodLink RX6 164 yX6_roomOf, Cond.instanceMethod yX6_roomOf, Cond.selects RX6 yX6_roomOf yX6_roomOf, Cond.code yX6_roomOf cX6_roomOf 9 (some .int), Cond.constant RX6 155 (100000), Cond.methodLink RX6 156 yX6_changeTime, Cond.instanceMethod yX6_changeTime, Cond.selects RX6 yX6_changeTime yX6_changeTime, Cond.code yX6_changeTime cX6_changeTime 5 (some .int)]
def wsX6_conflict : List Cond := .code yX6_conflict cX6_conflict 3 (some .int) :: ((wsX6_conflict_r1 ++ wsX6_conflict_r2) ++ wsX60)
def wsX6_conflictCount_r1 : List Cond := [Cond.fieldLink RX6 7 "RoleDoublingPlannerModel" "s" "[I", Cond.fieldLink RX6 22 "RoleDoublingPlannerModel" "with" "[I", Cond.methodLink RX6 106 yX6_layConflicts, Cond.instanceMethod yX6_layConflicts, Cond.selects RX6 yX6_layConflicts yX6_layConflicts, Cond.initialized RX6, Cond.code yX6_layConflicts cX6_layConflicts 4 none, Cond.methodLink RX6 167 yX6_reasonOf, Cond.instanceMethod yX6_reasonOf, Cond.selects RX6 yX6_reasonOf yX6_reasonOf, Cond.code yX6_reasonOf cX6_reasonOf 4 (some .int), Cond.methodLink RX6 160 yX6_overlap, Cond.instanceMethod yX6_overlap, Cond.selects RX6 yX6_overlap yX6_overlap, Cond.code yX6_overlap cX6_overlap 6 (some .boolean), Cond.methodLink RX6 146 yX6_roleOf, Cond.instanceMethod yX6_roleOf, Cond.selects RX6 yX6_roleOf yX6_roleOf, Cond.code yX6_roleOf cX6_roleOf 2 (some .int), Cond.methodLink RX6 140 yX6_enters, Cond.instanceMethod yX6_enters, Cond.selects RX6 yX6_enters yX6_enters, Cond.code yX6_enters cX6_enters 2 (some .int), Cond.methodLink RX6 137 yX6_sceneStart]
def wsX6_conflictCount_r2 : List Cond := [Cond.instanceMethod yX6_sceneStart, Cond.selects RX6 yX6_sceneStart yX6_sceneStart, Cond.code yX6_sceneStart cX6_sceneStart 4 (some .int), Cond.methodLink RX6 143 yX6_exits, Cond.instanceMethod yX6_exits, Cond.selects RX6 yX6_exits yX6_exits, Cond.code yX6_exits cX6_exits 2 (some .int), Cond.methodLink RX6 164 yX6_roomOf, Cond.instanceMethod yX6_roomOf, Cond.selects RX6 yX6_roomOf yX6_roomOf, Cond.code yX6_roomOf cX6_roomOf 9 (some .int), Cond.constant RX6 155 (100000), Cond.methodLink RX6 156 yX6_changeTime, Cond.instanceMethod yX6_changeTime, Cond.selects RX6 yX6_changeTime yX6_changeTime, Cond.code yX6_changeTime cX6_changeTime 5 (some .int), Cond.methodLink RX6 131 yX6_ones, Cond.static yX6_ones, Cond.code yX6_ones cX6_ones 3 (some .int)]
def wsX6_conflictCount : List Cond := .code yX6_conflictCount cX6_conflictCount 3 (some .int) :: ((wsX6_conflictCount_r1 ++ wsX6_conflictCount_r2) ++ wsX60)
def wsX6_slackOf_r1 : List Cond := [Cond.methodLink RX6 164 yX6_roomOf, Cond.instanceMethod yX6_roomOf, Cond.selects RX6 yX6_roomOf yX6_roomOf, Cond.initialized RX6, Cond.code yX6_roomOf cX6_roomOf 9 (some .int), Cond.constant RX6 155 (100000), Cond.fieldLink RX6 7 "RoleDoublingPlannerModel" "s" "[I", Cond.methodLink RX6 140 yX6_enters, Cond.instanceMethod yX6_enters, Cond.selects RX6 yX6_enters yX6_enters, Cond.code yX6_enters cX6_enters 2 (some .int), Cond.methodLink RX6 137 yX6_sceneStart, Cond.instanceMethod yX6_sceneStart, Cond.selects RX6 yX6_sceneStart yX6_sceneStart, Cond.code yX6_sceneStart cX6_sceneStart 4 (some .int), Cond.methodLink RX6 143 yX6_exits, Cond.instanceMethod yX6_exits, Cond.selects RX6 yX6_exits yX6_exits, Cond.code yX6_exits cX6_exits 2 (some .int), Cond.methodLink RX6 146 yX6_roleOf, Cond.instanceMethod yX6_roleOf, Cond.selects RX6 yX6_roleOf yX6_roleOf, Cond.code yX6_roleOf cX6_roleOf 2 (some .int), Cond.methodLink RX6 156 yX6_changeTime]
def wsX6_slackOf_r2 : List Cond := [Cond.instanceMethod yX6_changeTime, Cond.selects RX6 yX6_changeTime yX6_changeTime, Cond.code yX6_changeTime cX6_changeTime 5 (some .int)]
def wsX6_slackOf : List Cond := .code yX6_slackOf cX6_slackOf 5 (some .int) :: ((wsX6_slackOf_r1 ++ wsX6_slackOf_r2) ++ wsX60)
def wsX6_slack_r1 : List Cond := [Cond.constant RX6 155 (100000), Cond.methodLink RX6 170 yX6_areTwo, Cond.instanceMethod yX6_areTwo, Cond.selects RX6 yX6_areTwo yX6_areTwo, Cond.initialized RX6, Cond.code yX6_areTwo cX6_areTwo 3 (some .boolean), Cond.methodLink RX6 109 yX6_isRole, Cond.instanceMethod yX6_isRole, Cond.selects RX6 yX6_isRole yX6_isRole, Cond.code yX6_isRole cX6_isRole 2 (some .boolean), Cond.fieldLink RX6 7 "RoleDoublingPlannerModel" "s" "[I", Cond.methodLink RX6 44 yX6_in, Cond.static yX6_in, Cond.code yX6_in cX6_in 6 (some .boolean), Cond.methodLink RX6 160 yX6_overlap, Cond.instanceMethod yX6_overlap, Cond.selects RX6 yX6_overlap yX6_overlap, Cond.code yX6_overlap cX6_overlap 6 (some .boolean), Cond.methodLink RX6 146 yX6_roleOf, Cond.instanceMethod yX6_roleOf, Cond.selects RX6 yX6_roleOf yX6_roleOf, Cond.code yX6_roleOf cX6_roleOf 2 (some .int), Cond.methodLink RX6 140 yX6_enters, Cond.instanceMethod yX6_enters]
def wsX6_slack_r2 : List Cond := [Cond.selects RX6 yX6_enters yX6_enters, Cond.code yX6_enters cX6_enters 2 (some .int), Cond.methodLink RX6 137 yX6_sceneStart, Cond.instanceMethod yX6_sceneStart, Cond.selects RX6 yX6_sceneStart yX6_sceneStart, Cond.code yX6_sceneStart cX6_sceneStart 4 (some .int), Cond.methodLink RX6 143 yX6_exits, Cond.instanceMethod yX6_exits, Cond.selects RX6 yX6_exits yX6_exits, Cond.code yX6_exits cX6_exits 2 (some .int), Cond.methodLink RX6 173 yX6_slackOf, Cond.instanceMethod yX6_slackOf, Cond.selects RX6 yX6_slackOf yX6_slackOf, Cond.code yX6_slackOf cX6_slackOf 5 (some .int), Cond.methodLink RX6 164 yX6_roomOf, Cond.instanceMethod yX6_roomOf, Cond.selects RX6 yX6_roomOf yX6_roomOf, Cond.code yX6_roomOf cX6_roomOf 9 (some .int), Cond.methodLink RX6 156 yX6_changeTime, Cond.instanceMethod yX6_changeTime, Cond.selects RX6 yX6_changeTime yX6_changeTime, Cond.code yX6_changeTime cX6_changeTime 5 (some .int)]
def wsX6_slack : List Cond := .code yX6_slack cX6_slack 4 (some .int) :: ((wsX6_slack_r1 ++ wsX6_slack_r2) ++ wsX60)
def wsX6_actorOf : List Cond := .code yX6_actorOf cX6_actorOf 2 (some .int) :: ([.fieldLink RX6 7 "RoleDoublingPlannerModel" "s" "[I", .methodLink RX6 109 yX6_isRole, .instanceMethod yX6_isRole, .selects RX6 yX6_isRole yX6_isRole, .initialized RX6, .code yX6_isRole cX6_isRole 2 (some .boolean), .methodLink RX6 44 yX6_in, .static yX6_in, .code yX6_in cX6_in 6 (some .boolean)] ++ wsX60)
def wsX6_rolesOf : List Cond := .code yX6_rolesOf cX6_rolesOf 2 (some .int) :: ([.methodLink RX6 124 yX6_isActor, .static yX6_isActor, .initialized RX6, .code yX6_isActor cX6_isActor 1 (some .boolean), .constantLong RX6 104 (7), .methodLink RX6 44 yX6_in, .static yX6_in, .code yX6_in cX6_in 6 (some .boolean), .methodLink RX6 127 yX6_castBy, .instanceMethod yX6_castBy, .selects RX6 yX6_castBy yX6_castBy, .code yX6_castBy cX6_castBy 4 (some .int), .fieldLink RX6 7 "RoleDoublingPlannerModel" "s" "[I"] ++ wsX60)
def wsX6_tightestChange_r1 : List Cond := [Cond.constant RX6 155 (100000), Cond.fieldLink RX6 7 "RoleDoublingPlannerModel" "s" "[I", Cond.methodLink RX6 124 yX6_isActor, Cond.static yX6_isActor, Cond.initialized RX6, Cond.code yX6_isActor cX6_isActor 1 (some .boolean), Cond.constantLong RX6 104 (7), Cond.methodLink RX6 44 yX6_in, Cond.static yX6_in, Cond.code yX6_in cX6_in 6 (some .boolean), Cond.methodLink RX6 173 yX6_slackOf, Cond.instanceMethod yX6_slackOf, Cond.selects RX6 yX6_slackOf yX6_slackOf, Cond.code yX6_slackOf cX6_slackOf 5 (some .int), Cond.methodLink RX6 164 yX6_roomOf, Cond.instanceMethod yX6_roomOf, Cond.selects RX6 yX6_roomOf yX6_roomOf, Cond.code yX6_roomOf cX6_roomOf 9 (some .int), Cond.methodLink RX6 140 yX6_enters, Cond.instanceMethod yX6_enters, Cond.selects RX6 yX6_enters yX6_enters, Cond.code yX6_enters cX6_enters 2 (some .int), Cond.methodLink RX6 137 yX6_sceneStart, Cond.instanceMethod yX6_sceneStart]
def wsX6_tightestChange_r2 : List Cond := [Cond.selects RX6 yX6_sceneStart yX6_sceneStart, Cond.code yX6_sceneStart cX6_sceneStart 4 (some .int), Cond.methodLink RX6 143 yX6_exits, Cond.instanceMethod yX6_exits, Cond.selects RX6 yX6_exits yX6_exits, Cond.code yX6_exits cX6_exits 2 (some .int), Cond.methodLink RX6 146 yX6_roleOf, Cond.instanceMethod yX6_roleOf, Cond.selects RX6 yX6_roleOf yX6_roleOf, Cond.code yX6_roleOf cX6_roleOf 2 (some .int), Cond.methodLink RX6 156 yX6_changeTime, Cond.instanceMethod yX6_changeTime, Cond.selects RX6 yX6_changeTime yX6_changeTime, Cond.code yX6_changeTime cX6_changeTime 5 (some .int)]
def wsX6_tightestChange : List Cond := .code yX6_tightestChange cX6_tightestChange 6 (some .int) :: ((wsX6_tightestChange_r1 ++ wsX6_tightestChange_r2) ++ wsX60)
def wsX6_cliqueNumber_r1 : List Cond := [Cond.fieldLink RX6 7 "RoleDoublingPlannerModel" "s" "[I", Cond.fieldLink RX6 22 "RoleDoublingPlannerModel" "with" "[I", Cond.methodLink RX6 106 yX6_layConflicts, Cond.instanceMethod yX6_layConflicts, Cond.selects RX6 yX6_layConflicts yX6_layConflicts, Cond.initialized RX6, Cond.code yX6_layConflicts cX6_layConflicts 4 none, Cond.methodLink RX6 167 yX6_reasonOf, Cond.instanceMethod yX6_reasonOf, Cond.selects RX6 yX6_reasonOf yX6_reasonOf, Cond.code yX6_reasonOf cX6_reasonOf 4 (some .int), Cond.methodLink RX6 160 yX6_overlap, Cond.instanceMethod yX6_overlap, Cond.selects RX6 yX6_overlap yX6_overlap, Cond.code yX6_overlap cX6_overlap 6 (some .boolean), Cond.methodLink RX6 146 yX6_roleOf, Cond.instanceMethod yX6_roleOf, Cond.selects RX6 yX6_roleOf yX6_roleOf, Cond.code yX6_roleOf cX6_roleOf 2 (some .int), Cond.methodLink RX6 140 yX6_enters, Cond.instanceMethod yX6_enters, Cond.selects RX6 yX6_enters yX6_enters, Cond.code yX6_enters cX6_enters 2 (some .int), Cond.methodLink RX6 137 yX6_sceneStart]
def wsX6_cliqueNumber_r2 : List Cond := [Cond.instanceMethod yX6_sceneStart, Cond.selects RX6 yX6_sceneStart yX6_sceneStart, Cond.code yX6_sceneStart cX6_sceneStart 4 (some .int), Cond.methodLink RX6 143 yX6_exits, Cond.instanceMethod yX6_exits, Cond.selects RX6 yX6_exits yX6_exits, Cond.code yX6_exits cX6_exits 2 (some .int), Cond.methodLink RX6 164 yX6_roomOf, Cond.instanceMethod yX6_roomOf, Cond.selects RX6 yX6_roomOf yX6_roomOf, Cond.code yX6_roomOf cX6_roomOf 9 (some .int), Cond.constant RX6 155 (100000), Cond.methodLink RX6 156 yX6_changeTime, Cond.instanceMethod yX6_changeTime, Cond.selects RX6 yX6_changeTime yX6_changeTime, Cond.code yX6_changeTime cX6_changeTime 5 (some .int), Cond.methodLink RX6 131 yX6_ones, Cond.static yX6_ones, Cond.code yX6_ones cX6_ones 3 (some .int)]
def wsX6_cliqueNumber : List Cond := .code yX6_cliqueNumber cX6_cliqueNumber 5 (some .int) :: ((wsX6_cliqueNumber_r1 ++ wsX6_cliqueNumber_r2) ++ wsX60)
def wsX6_leastCast_r1 : List Cond := [Cond.methodLink RX6 134 yX6_leastFor, Cond.instanceMethod yX6_leastFor, Cond.selects RX6 yX6_leastFor yX6_leastFor, Cond.initialized RX6, Cond.code yX6_leastFor cX6_leastFor 3 (some .int), Cond.methodLink RX6 106 yX6_layConflicts, Cond.instanceMethod yX6_layConflicts, Cond.selects RX6 yX6_layConflicts yX6_layConflicts, Cond.code yX6_layConflicts cX6_layConflicts 4 none, Cond.fieldLink RX6 7 "RoleDoublingPlannerModel" "s" "[I", Cond.fieldLink RX6 22 "RoleDoublingPlannerModel" "with" "[I", Cond.methodLink RX6 167 yX6_reasonOf, Cond.instanceMethod yX6_reasonOf, Cond.selects RX6 yX6_reasonOf yX6_reasonOf, Cond.code yX6_reasonOf cX6_reasonOf 4 (some .int), Cond.methodLink RX6 160 yX6_overlap, Cond.instanceMethod yX6_overlap, Cond.selects RX6 yX6_overlap yX6_overlap, Cond.code yX6_overlap cX6_overlap 6 (some .boolean), Cond.methodLink RX6 146 yX6_roleOf, Cond.instanceMethod yX6_roleOf, Cond.selects RX6 yX6_roleOf yX6_roleOf, Cond.code yX6_roleOf cX6_roleOf 2 (some .int), Cond.methodLink RX6 140 yX6_enters]
def wsX6_leastCast_r2 : List Cond := [Cond.instanceMethod yX6_enters, Cond.selects RX6 yX6_enters yX6_enters, Cond.code yX6_enters cX6_enters 2 (some .int), Cond.methodLink RX6 137 yX6_sceneStart, Cond.instanceMethod yX6_sceneStart, Cond.selects RX6 yX6_sceneStart yX6_sceneStart, Cond.code yX6_sceneStart cX6_sceneStart 4 (some .int), Cond.methodLink RX6 143 yX6_exits, Cond.instanceMethod yX6_exits, Cond.selects RX6 yX6_exits yX6_exits, Cond.code yX6_exits cX6_exits 2 (some .int), Cond.methodLink RX6 164 yX6_roomOf, Cond.instanceMethod yX6_roomOf, Cond.selects RX6 yX6_roomOf yX6_roomOf, Cond.code yX6_roomOf cX6_roomOf 9 (some .int), Cond.constant RX6 155 (100000), Cond.methodLink RX6 156 yX6_changeTime, Cond.instanceMethod yX6_changeTime, Cond.selects RX6 yX6_changeTime yX6_changeTime, Cond.code yX6_changeTime cX6_changeTime 5 (some .int), Cond.methodLink RX6 180 yX6_isGiven, Cond.instanceMethod yX6_isGiven, Cond.selects RX6 yX6_isGiven yX6_isGiven, Cond.code yX6_isGiven cX6_isGiven 3 (some .boolean)]
def wsX6_leastCast_r3 : List Cond := [Cond.fieldLink RX6 25 "RoleDoublingPlannerModel" "given" "[I", Cond.methodLink RX6 177 yX6_mayHave, Cond.instanceMethod yX6_mayHave, Cond.selects RX6 yX6_mayHave yX6_mayHave, Cond.code yX6_mayHave cX6_mayHave 5 (some .boolean)]
def wsX6_leastCast : List Cond := .code yX6_leastCast cX6_leastCast 1 (some .int) :: ((wsX6_leastCast_r1 ++ (wsX6_leastCast_r2 ++ wsX6_leastCast_r3)) ++ wsX60)
def wsX6_firstCastActor_r1 : List Cond := [Cond.fieldLink RX6 25 "RoleDoublingPlannerModel" "given" "[I", Cond.methodLink RX6 109 yX6_isRole, Cond.instanceMethod yX6_isRole, Cond.selects RX6 yX6_isRole yX6_isRole, Cond.initialized RX6, Cond.code yX6_isRole cX6_isRole 2 (some .boolean), Cond.fieldLink RX6 7 "RoleDoublingPlannerModel" "s" "[I", Cond.methodLink RX6 44 yX6_in, Cond.static yX6_in, Cond.code yX6_in cX6_in 6 (some .boolean), Cond.methodLink RX6 134 yX6_leastFor, Cond.instanceMethod yX6_leastFor, Cond.selects RX6 yX6_leastFor yX6_leastFor, Cond.code yX6_leastFor cX6_leastFor 3 (some .int), Cond.methodLink RX6 106 yX6_layConflicts, Cond.instanceMethod yX6_layConflicts, Cond.selects RX6 yX6_layConflicts yX6_layConflicts, Cond.code yX6_layConflicts cX6_layConflicts 4 none, Cond.fieldLink RX6 22 "RoleDoublingPlannerModel" "with" "[I", Cond.methodLink RX6 167 yX6_reasonOf, Cond.instanceMethod yX6_reasonOf, Cond.selects RX6 yX6_reasonOf yX6_reasonOf, Cond.code yX6_reasonOf cX6_reasonOf 4 (some .int), Cond.methodLink RX6 160 yX6_overlap]
def wsX6_firstCastActor_r2 : List Cond := [Cond.instanceMethod yX6_overlap, Cond.selects RX6 yX6_overlap yX6_overlap, Cond.code yX6_overlap cX6_overlap 6 (some .boolean), Cond.methodLink RX6 146 yX6_roleOf, Cond.instanceMethod yX6_roleOf, Cond.selects RX6 yX6_roleOf yX6_roleOf, Cond.code yX6_roleOf cX6_roleOf 2 (some .int), Cond.methodLink RX6 140 yX6_enters, Cond.instanceMethod yX6_enters, Cond.selects RX6 yX6_enters yX6_enters, Cond.code yX6_enters cX6_enters 2 (some .int), Cond.methodLink RX6 137 yX6_sceneStart, Cond.instanceMethod yX6_sceneStart, Cond.selects RX6 yX6_sceneStart yX6_sceneStart, Cond.code yX6_sceneStart cX6_sceneStart 4 (some .int), Cond.methodLink RX6 143 yX6_exits, Cond.instanceMethod yX6_exits, Cond.selects RX6 yX6_exits yX6_exits, Cond.code yX6_exits cX6_exits 2 (some .int), Cond.methodLink RX6 164 yX6_roomOf, Cond.instanceMethod yX6_roomOf, Cond.selects RX6 yX6_roomOf yX6_roomOf, Cond.code yX6_roomOf cX6_roomOf 9 (some .int), Cond.constant RX6 155 (100000)]
def wsX6_firstCastActor_r3 : List Cond := [Cond.methodLink RX6 156 yX6_changeTime, Cond.instanceMethod yX6_changeTime, Cond.selects RX6 yX6_changeTime yX6_changeTime, Cond.code yX6_changeTime cX6_changeTime 5 (some .int), Cond.methodLink RX6 180 yX6_isGiven, Cond.instanceMethod yX6_isGiven, Cond.selects RX6 yX6_isGiven yX6_isGiven, Cond.code yX6_isGiven cX6_isGiven 3 (some .boolean), Cond.methodLink RX6 177 yX6_mayHave, Cond.instanceMethod yX6_mayHave, Cond.selects RX6 yX6_mayHave yX6_mayHave, Cond.code yX6_mayHave cX6_mayHave 5 (some .boolean)]
def wsX6_firstCastActor : List Cond := .code yX6_firstCastActor cX6_firstCastActor 2 (some .int) :: ((wsX6_firstCastActor_r1 ++ (wsX6_firstCastActor_r2 ++ wsX6_firstCastActor_r3)) ++ wsX60)
def wsX6_greedyCast_r1 : List Cond := [Cond.fieldLink RX6 7 "RoleDoublingPlannerModel" "s" "[I", Cond.fieldLink RX6 25 "RoleDoublingPlannerModel" "given" "[I", Cond.methodLink RX6 106 yX6_layConflicts, Cond.instanceMethod yX6_layConflicts, Cond.selects RX6 yX6_layConflicts yX6_layConflicts, Cond.initialized RX6, Cond.code yX6_layConflicts cX6_layConflicts 4 none, Cond.fieldLink RX6 22 "RoleDoublingPlannerModel" "with" "[I", Cond.methodLink RX6 167 yX6_reasonOf, Cond.instanceMethod yX6_reasonOf, Cond.selects RX6 yX6_reasonOf yX6_reasonOf, Cond.code yX6_reasonOf cX6_reasonOf 4 (some .int), Cond.methodLink RX6 160 yX6_overlap, Cond.instanceMethod yX6_overlap, Cond.selects RX6 yX6_overlap yX6_overlap, Cond.code yX6_overlap cX6_overlap 6 (some .boolean), Cond.methodLink RX6 146 yX6_roleOf, Cond.instanceMethod yX6_roleOf, Cond.selects RX6 yX6_roleOf yX6_roleOf, Cond.code yX6_roleOf cX6_roleOf 2 (some .int), Cond.methodLink RX6 140 yX6_enters, Cond.instanceMethod yX6_enters, Cond.selects RX6 yX6_enters yX6_enters, Cond.code yX6_enters cX6_enters 2 (some .int)]
def wsX6_greedyCast_r2 : List Cond := [Cond.methodLink RX6 137 yX6_sceneStart, Cond.instanceMethod yX6_sceneStart, Cond.selects RX6 yX6_sceneStart yX6_sceneStart, Cond.code yX6_sceneStart cX6_sceneStart 4 (some .int), Cond.methodLink RX6 143 yX6_exits, Cond.instanceMethod yX6_exits, Cond.selects RX6 yX6_exits yX6_exits, Cond.code yX6_exits cX6_exits 2 (some .int), Cond.methodLink RX6 164 yX6_roomOf, Cond.instanceMethod yX6_roomOf, Cond.selects RX6 yX6_roomOf yX6_roomOf, Cond.code yX6_roomOf cX6_roomOf 9 (some .int), Cond.constant RX6 155 (100000), Cond.methodLink RX6 156 yX6_changeTime, Cond.instanceMethod yX6_changeTime, Cond.selects RX6 yX6_changeTime yX6_changeTime, Cond.code yX6_changeTime cX6_changeTime 5 (some .int), Cond.methodLink RX6 177 yX6_mayHave, Cond.instanceMethod yX6_mayHave, Cond.selects RX6 yX6_mayHave yX6_mayHave, Cond.code yX6_mayHave cX6_mayHave 5 (some .boolean)]
def wsX6_greedyCast : List Cond := .code yX6_greedyCast cX6_greedyCast 3 (some .int) :: ((wsX6_greedyCast_r1 ++ wsX6_greedyCast_r2) ++ wsX60)
def wsX6_leastCastIfFaster_r1 : List Cond := [Cond.constantLong RX6 183 (120), Cond.methodLink RX6 44 yX6_in, Cond.static yX6_in, Cond.initialized RX6, Cond.code yX6_in cX6_in 6 (some .boolean), Cond.methodLink RX6 134 yX6_leastFor, Cond.instanceMethod yX6_leastFor, Cond.selects RX6 yX6_leastFor yX6_leastFor, Cond.code yX6_leastFor cX6_leastFor 3 (some .int), Cond.methodLink RX6 106 yX6_layConflicts, Cond.instanceMethod yX6_layConflicts, Cond.selects RX6 yX6_layConflicts yX6_layConflicts, Cond.code yX6_layConflicts cX6_layConflicts 4 none, Cond.fieldLink RX6 7 "RoleDoublingPlannerModel" "s" "[I", Cond.fieldLink RX6 22 "RoleDoublingPlannerModel" "with" "[I", Cond.methodLink RX6 167 yX6_reasonOf, Cond.instanceMethod yX6_reasonOf, Cond.selects RX6 yX6_reasonOf yX6_reasonOf, Cond.code yX6_reasonOf cX6_reasonOf 4 (some .int), Cond.methodLink RX6 160 yX6_overlap, Cond.instanceMethod yX6_overlap, Cond.selects RX6 yX6_overlap yX6_overlap, Cond.code yX6_overlap cX6_overlap 6 (some .boolean), Cond.methodLink RX6 146 yX6_roleOf]
def wsX6_leastCastIfFaster_r2 : List Cond := [Cond.instanceMethod yX6_roleOf, Cond.selects RX6 yX6_roleOf yX6_roleOf, Cond.code yX6_roleOf cX6_roleOf 2 (some .int), Cond.methodLink RX6 140 yX6_enters, Cond.instanceMethod yX6_enters, Cond.selects RX6 yX6_enters yX6_enters, Cond.code yX6_enters cX6_enters 2 (some .int), Cond.methodLink RX6 137 yX6_sceneStart, Cond.instanceMethod yX6_sceneStart, Cond.selects RX6 yX6_sceneStart yX6_sceneStart, Cond.code yX6_sceneStart cX6_sceneStart 4 (some .int), Cond.methodLink RX6 143 yX6_exits, Cond.instanceMethod yX6_exits, Cond.selects RX6 yX6_exits yX6_exits, Cond.code yX6_exits cX6_exits 2 (some .int), Cond.methodLink RX6 164 yX6_roomOf, Cond.instanceMethod yX6_roomOf, Cond.selects RX6 yX6_roomOf yX6_roomOf, Cond.code yX6_roomOf cX6_roomOf 9 (some .int), Cond.constant RX6 155 (100000), Cond.methodLink RX6 156 yX6_changeTime, Cond.instanceMethod yX6_changeTime, Cond.selects RX6 yX6_changeTime yX6_changeTime, Cond.code yX6_changeTime cX6_changeTime 5 (some .int)]
def wsX6_leastCastIfFaster_r3 : List Cond := [Cond.methodLink RX6 180 yX6_isGiven, Cond.instanceMethod yX6_isGiven, Cond.selects RX6 yX6_isGiven yX6_isGiven, Cond.code yX6_isGiven cX6_isGiven 3 (some .boolean), Cond.fieldLink RX6 25 "RoleDoublingPlannerModel" "given" "[I", Cond.methodLink RX6 177 yX6_mayHave, Cond.instanceMethod yX6_mayHave, Cond.selects RX6 yX6_mayHave yX6_mayHave, Cond.code yX6_mayHave cX6_mayHave 5 (some .boolean)]
def wsX6_leastCastIfFaster : List Cond := .code yX6_leastCastIfFaster cX6_leastCastIfFaster 2 (some .int) :: ((wsX6_leastCastIfFaster_r1 ++ (wsX6_leastCastIfFaster_r2 ++ wsX6_leastCastIfFaster_r3)) ++ wsX60)
def wsX6_speedUpFor_r1 : List Cond := [Cond.constantLong RX6 185 (8), Cond.methodLink RX6 44 yX6_in, Cond.static yX6_in, Cond.initialized RX6, Cond.code yX6_in cX6_in 6 (some .boolean), Cond.methodLink RX6 106 yX6_layConflicts, Cond.instanceMethod yX6_layConflicts, Cond.selects RX6 yX6_layConflicts yX6_layConflicts, Cond.code yX6_layConflicts cX6_layConflicts 4 none, Cond.fieldLink RX6 7 "RoleDoublingPlannerModel" "s" "[I", Cond.fieldLink RX6 22 "RoleDoublingPlannerModel" "with" "[I", Cond.methodLink RX6 167 yX6_reasonOf, Cond.instanceMethod yX6_reasonOf, Cond.selects RX6 yX6_reasonOf yX6_reasonOf, Cond.code yX6_reasonOf cX6_reasonOf 4 (some .int), Cond.methodLink RX6 160 yX6_overlap, Cond.instanceMethod yX6_overlap, Cond.selects RX6 yX6_overlap yX6_overlap, Cond.code yX6_overlap cX6_overlap 6 (some .boolean), Cond.methodLink RX6 146 yX6_roleOf, Cond.instanceMethod yX6_roleOf, Cond.selects RX6 yX6_roleOf yX6_roleOf, Cond.code yX6_roleOf cX6_roleOf 2 (some .int), Cond.methodLink RX6 140 yX6_enters]
def wsX6_speedUpFor_r2 : List Cond := [Cond.instanceMethod yX6_enters, Cond.selects RX6 yX6_enters yX6_enters, Cond.code yX6_enters cX6_enters 2 (some .int), Cond.methodLink RX6 137 yX6_sceneStart, Cond.instanceMethod yX6_sceneStart, Cond.selects RX6 yX6_sceneStart yX6_sceneStart, Cond.code yX6_sceneStart cX6_sceneStart 4 (some .int), Cond.methodLink RX6 143 yX6_exits, Cond.instanceMethod yX6_exits, Cond.selects RX6 yX6_exits yX6_exits, Cond.code yX6_exits cX6_exits 2 (some .int), Cond.methodLink RX6 164 yX6_roomOf, Cond.instanceMethod yX6_roomOf, Cond.selects RX6 yX6_roomOf yX6_roomOf, Cond.code yX6_roomOf cX6_roomOf 9 (some .int), Cond.constant RX6 155 (100000), Cond.methodLink RX6 156 yX6_changeTime, Cond.instanceMethod yX6_changeTime, Cond.selects RX6 yX6_changeTime yX6_changeTime, Cond.code yX6_changeTime cX6_changeTime 5 (some .int), Cond.methodLink RX6 180 yX6_isGiven, Cond.instanceMethod yX6_isGiven, Cond.selects RX6 yX6_isGiven yX6_isGiven, Cond.code yX6_isGiven cX6_isGiven 3 (some .boolean)]
def wsX6_speedUpFor_r3 : List Cond := [Cond.fieldLink RX6 25 "RoleDoublingPlannerModel" "given" "[I", Cond.methodLink RX6 177 yX6_mayHave, Cond.instanceMethod yX6_mayHave, Cond.selects RX6 yX6_mayHave yX6_mayHave, Cond.code yX6_mayHave cX6_mayHave 5 (some .boolean)]
def wsX6_speedUpFor : List Cond := .code yX6_speedUpFor cX6_speedUpFor 3 (some .int) :: ((wsX6_speedUpFor_r1 ++ (wsX6_speedUpFor_r2 ++ wsX6_speedUpFor_r3)) ++ wsX60)
def wsJ9_max_7cf53 : List Cond := .code yJ9_max_7cf53 cJ9_max_7cf53 2 (some .int) :: ([])
def wsJ9_min_7cf53 : List Cond := .code yJ9_min_7cf53 cJ9_min_7cf53 2 (some .int) :: ([])
abbrev vwCl : List vw_C := [(RX0, TX0, 3), (RX1, TX1, 2), (RX2, TX2, 12), (RX3, TX3, 7), (RX4, TX4, 2), (RX5, TX5, 6), (RX6, TX6, 10)]
end
section
theorem dX0_init_0 : decode cX0_init 0 = .ok (.aload_n 0, 1) := by decide +kernel
theorem dX0_init_1 : decode cX0_init 1 = .ok (.invokespecial 3, 3) := by decide +kernel
theorem dX0_init_4 : decode cX0_init 4 = .ok (.aload_n 0, 1) := by decide +kernel
theorem dX0_init_5 : decode cX0_init 5 = .ok (.bipush 8, 2) := by decide +kernel
theorem dX0_init_7 : decode cX0_init 7 = .ok (.newarray .int, 2) := by decide +kernel
theorem dX0_init_9 : decode cX0_init 9 = .ok (.putfield 9, 3) := by decide +kernel
theorem dX0_init_12 : decode cX0_init 12 = .ok (.aload_n 0, 1) := by decide +kernel
theorem dX0_init_13 : decode cX0_init 13 = .ok (.bipush 8, 2) := by decide +kernel
theorem dX0_init_15 : decode cX0_init 15 = .ok (.newarray .int, 2) := by decide +kernel
theorem dX0_init_17 : decode cX0_init 17 = .ok (.putfield 15, 3) := by decide +kernel
theorem dX0_init_20 : decode cX0_init 20 = .ok (.return_, 1) := by decide +kernel
set_option maxRecDepth 20000 in
theorem ggX0_lookAt_X4_reason : GoodIn wsX0_lookAt wsX4_reason := goodIn_r _ [9, 10, 11, 12, 13, 14, 15, 16, 17, 18, 19, 20, 21, 22, 23, 24, 25, 26] (by decide +kernel) (by decide +kernel)
set_option maxRecDepth 20000 in
theorem gX0_lookAt_X4_reason : GoodIn wsX0_lookAt (wsV RX0 31 RX4 yX4_reason wsX4_reason) := goodIn_app (goodIn_of _ (by decide +kernel)) ggX0_lookAt_X4_reason
theorem dX0_lookAt_0 : decode cX0_lookAt 0 = .ok (.aload_n 0, 1) := by decide +kernel
theorem dX0_lookAt_1 : decode cX0_lookAt 1 = .ok (.aload_n 1, 1) := by decide +kernel
theorem dX0_lookAt_2 : decode cX0_lookAt 2 = .ok (.getfield 18, 3) := by decide +kernel
theorem dX0_lookAt_5 : decode cX0_lookAt 5 = .ok (.getfield 24, 3) := by decide +kernel
theorem dX0_lookAt_8 : decode cX0_lookAt 8 = .ok (.putfield 30, 3) := by decide +kernel
theorem dX0_lookAt_11 : decode cX0_lookAt 11 = .ok (.iconst 0, 1) := by decide +kernel
theorem dX0_lookAt_12 : decode cX0_lookAt 12 = .ok (.istore_n 3, 1) := by decide +kernel
theorem dX0_lookAt_13 : decode cX0_lookAt 13 = .ok (.iload_n 3, 1) := by decide +kernel
theorem dX0_lookAt_14 : decode cX0_lookAt 14 = .ok (.aload_n 0, 1) := by decide +kernel
theorem dX0_lookAt_15 : decode cX0_lookAt 15 = .ok (.getfield 30, 3) := by decide +kernel
theorem dX0_lookAt_18 : decode cX0_lookAt 18 = .ok (.if_icmp .ge 68, 3) := by decide +kernel
theorem dX0_lookAt_21 : decode cX0_lookAt 21 = .ok (.aload_n 0, 1) := by decide +kernel
theorem dX0_lookAt_22 : decode cX0_lookAt 22 = .ok (.getfield 9, 3) := by decide +kernel
theorem dX0_lookAt_25 : decode cX0_lookAt 25 = .ok (.iload_n 3, 1) := by decide +kernel
theorem dX0_lookAt_26 : decode cX0_lookAt 26 = .ok (.iconst 0, 1) := by decide +kernel
theorem dX0_lookAt_27 : decode cX0_lookAt 27 = .ok (.iastore, 1) := by decide +kernel
theorem dX0_lookAt_28 : decode cX0_lookAt 28 = .ok (.iconst 0, 1) := by decide +kernel
theorem dX0_lookAt_29 : decode cX0_lookAt 29 = .ok (.istore 4, 2) := by decide +kernel
theorem dX0_lookAt_31 : decode cX0_lookAt 31 = .ok (.iload 4, 2) := by decide +kernel
theorem dX0_lookAt_33 : decode cX0_lookAt 33 = .ok (.iload_n 3, 1) := by decide +kernel
theorem dX0_lookAt_34 : decode cX0_lookAt 34 = .ok (.if_icmp .ge 46, 3) := by decide +kernel
theorem dX0_lookAt_37 : decode cX0_lookAt 37 = .ok (.aload_n 1, 1) := by decide +kernel
theorem dX0_lookAt_38 : decode cX0_lookAt 38 = .ok (.iload_n 3, 1) := by decide +kernel
theorem dX0_lookAt_39 : decode cX0_lookAt 39 = .ok (.iload 4, 2) := by decide +kernel
theorem dX0_lookAt_41 : decode cX0_lookAt 41 = .ok (.iload_n 2, 1) := by decide +kernel
theorem dX0_lookAt_42 : decode cX0_lookAt 42 = .ok (.invokevirtual 31, 3) := by decide +kernel
theorem dX0_lookAt_45 : decode cX0_lookAt 45 = .ok (.ifCond .eq 29, 3) := by decide +kernel
theorem dX0_lookAt_48 : decode cX0_lookAt 48 = .ok (.aload_n 0, 1) := by decide +kernel
theorem dX0_lookAt_49 : decode cX0_lookAt 49 = .ok (.getfield 9, 3) := by decide +kernel
theorem dX0_lookAt_52 : decode cX0_lookAt 52 = .ok (.iload_n 3, 1) := by decide +kernel
theorem dX0_lookAt_53 : decode cX0_lookAt 53 = .ok (.dup2, 1) := by decide +kernel
theorem dX0_lookAt_54 : decode cX0_lookAt 54 = .ok (.iaload, 1) := by decide +kernel
theorem dX0_lookAt_55 : decode cX0_lookAt 55 = .ok (.iconst 1, 1) := by decide +kernel
theorem dX0_lookAt_56 : decode cX0_lookAt 56 = .ok (.iload 4, 2) := by decide +kernel
theorem dX0_lookAt_58 : decode cX0_lookAt 58 = .ok (.ishl, 1) := by decide +kernel
theorem dX0_lookAt_59 : decode cX0_lookAt 59 = .ok (.ior, 1) := by decide +kernel
theorem dX0_lookAt_60 : decode cX0_lookAt 60 = .ok (.iastore, 1) := by decide +kernel
theorem dX0_lookAt_61 : decode cX0_lookAt 61 = .ok (.aload_n 0, 1) := by decide +kernel
theorem dX0_lookAt_62 : decode cX0_lookAt 62 = .ok (.getfield 9, 3) := by decide +kernel
theorem dX0_lookAt_65 : decode cX0_lookAt 65 = .ok (.iload 4, 2) := by decide +kernel
theorem dX0_lookAt_67 : decode cX0_lookAt 67 = .ok (.dup2, 1) := by decide +kernel
theorem dX0_lookAt_68 : decode cX0_lookAt 68 = .ok (.iaload, 1) := by decide +kernel
theorem dX0_lookAt_69 : decode cX0_lookAt 69 = .ok (.iconst 1, 1) := by decide +kernel
theorem dX0_lookAt_70 : decode cX0_lookAt 70 = .ok (.iload_n 3, 1) := by decide +kernel
theorem dX0_lookAt_71 : decode cX0_lookAt 71 = .ok (.ishl, 1) := by decide +kernel
theorem dX0_lookAt_72 : decode cX0_lookAt 72 = .ok (.ior, 1) := by decide +kernel
theorem dX0_lookAt_73 : decode cX0_lookAt 73 = .ok (.iastore, 1) := by decide +kernel
theorem dX0_lookAt_74 : decode cX0_lookAt 74 = .ok (.iinc 4 1, 3) := by decide +kernel
theorem dX0_lookAt_77 : decode cX0_lookAt 77 = .ok (.goto (-46), 3) := by decide +kernel
theorem dX0_lookAt_80 : decode cX0_lookAt 80 = .ok (.iinc 3 1, 3) := by decide +kernel
theorem dX0_lookAt_83 : decode cX0_lookAt 83 = .ok (.goto (-70), 3) := by decide +kernel
theorem dX0_lookAt_86 : decode cX0_lookAt 86 = .ok (.return_, 1) := by decide +kernel
set_option maxRecDepth 20000 in
theorem ggX0_findFirstCast_X0_findCast : GoodIn wsX0_findFirstCast wsX0_findCast := goodIn_r _ [6, 7, 8, 9, 10, 11, 12, 13, 5, 14, 15, 16, 17, 18, 1, 19, 20, 21, 22, 23, 24, 25, 26, 27, 28, 29] (by decide +kernel) (by decide +kernel)
set_option maxRecDepth 20000 in
theorem gX0_findFirstCast_X0_findCast : GoodIn wsX0_findFirstCast (wsV RX0 35 RX0 yX0_findCast wsX0_findCast) := goodIn_app (goodIn_of _ (by decide +kernel)) ggX0_findFirstCast_X0_findCast
theorem dX0_findFirstCast_0 : decode cX0_findFirstCast 0 = .ok (.iconst 1, 1) := by decide +kernel
theorem dX0_findFirstCast_1 : decode cX0_findFirstCast 1 = .ok (.istore_n 1, 1) := by decide +kernel
theorem dX0_findFirstCast_2 : decode cX0_findFirstCast 2 = .ok (.iload_n 1, 1) := by decide +kernel
theorem dX0_findFirstCast_3 : decode cX0_findFirstCast 3 = .ok (.aload_n 0, 1) := by decide +kernel
theorem dX0_findFirstCast_4 : decode cX0_findFirstCast 4 = .ok (.getfield 30, 3) := by decide +kernel
theorem dX0_findFirstCast_7 : decode cX0_findFirstCast 7 = .ok (.if_icmp .ge 19, 3) := by decide +kernel
theorem dX0_findFirstCast_10 : decode cX0_findFirstCast 10 = .ok (.aload_n 0, 1) := by decide +kernel
theorem dX0_findFirstCast_11 : decode cX0_findFirstCast 11 = .ok (.iload_n 1, 1) := by decide +kernel
theorem dX0_findFirstCast_12 : decode cX0_findFirstCast 12 = .ok (.invokevirtual 35, 3) := by decide +kernel
theorem dX0_findFirstCast_15 : decode cX0_findFirstCast 15 = .ok (.ifCond .eq 5, 3) := by decide +kernel
theorem dX0_findFirstCast_18 : decode cX0_findFirstCast 18 = .ok (.iload_n 1, 1) := by decide +kernel
theorem dX0_findFirstCast_19 : decode cX0_findFirstCast 19 = .ok (.ireturn, 1) := by decide +kernel
theorem dX0_findFirstCast_20 : decode cX0_findFirstCast 20 = .ok (.iinc 1 1, 3) := by decide +kernel
theorem dX0_findFirstCast_23 : decode cX0_findFirstCast 23 = .ok (.goto (-21), 3) := by decide +kernel
theorem dX0_findFirstCast_26 : decode cX0_findFirstCast 26 = .ok (.aload_n 0, 1) := by decide +kernel
theorem dX0_findFirstCast_27 : decode cX0_findFirstCast 27 = .ok (.aload_n 0, 1) := by decide +kernel
theorem dX0_findFirstCast_28 : decode cX0_findFirstCast 28 = .ok (.getfield 30, 3) := by decide +kernel
theorem dX0_findFirstCast_31 : decode cX0_findFirstCast 31 = .ok (.invokevirtual 35, 3) := by decide +kernel
theorem dX0_findFirstCast_34 : decode cX0_findFirstCast 34 = .ok (.pop, 1) := by decide +kernel
theorem dX0_findFirstCast_35 : decode cX0_findFirstCast 35 = .ok (.aload_n 0, 1) := by decide +kernel
theorem dX0_findFirstCast_36 : decode cX0_findFirstCast 36 = .ok (.getfield 30, 3) := by decide +kernel
theorem dX0_findFirstCast_39 : decode cX0_findFirstCast 39 = .ok (.ireturn, 1) := by decide +kernel
set_option maxRecDepth 20000 in
theorem ggX0_findCast_X0_dismissAll : GoodIn wsX0_findCast wsX0_dismissAll := goodIn_r _ [9, 10, 23, 24, 25] (by decide +kernel) (by decide +kernel)
set_option maxRecDepth 20000 in
theorem gX0_findCast_X0_dismissAll : GoodIn wsX0_findCast (wsV RX0 39 RX0 yX0_dismissAll wsX0_dismissAll) := goodIn_app (goodIn_of _ (by decide +kernel)) ggX0_findCast_X0_dismissAll
set_option maxRecDepth 20000 in
theorem ggX0_findCast_X0_castFrom : GoodIn wsX0_findCast wsX0_castFrom := goodIn_r _ [13, 14, 10, 15, 16, 3, 17, 18, 19, 20, 8, 21, 22, 11, 12, 23, 24, 25] (by decide +kernel) (by decide +kernel)
set_option maxRecDepth 20000 in
theorem gX0_findCast_X0_castFrom : GoodIn wsX0_findCast (va_wsS RX0 48 yX0_castFrom wsX0_castFrom) := goodIn_app (goodIn_of _ (by decide +kernel)) ggX0_findCast_X0_castFrom
theorem dX0_findCast_0 : decode cX0_findCast 0 = .ok (.aload_n 0, 1) := by decide +kernel
theorem dX0_findCast_1 : decode cX0_findCast 1 = .ok (.invokevirtual 39, 3) := by decide +kernel
theorem dX0_findCast_4 : decode cX0_findCast 4 = .ok (.aload_n 0, 1) := by decide +kernel
theorem dX0_findCast_5 : decode cX0_findCast 5 = .ok (.iconst 0, 1) := by decide +kernel
theorem dX0_findCast_6 : decode cX0_findCast 6 = .ok (.iconst 0, 1) := by decide +kernel
theorem dX0_findCast_7 : decode cX0_findCast 7 = .ok (.iload_n 1, 1) := by decide +kernel
theorem dX0_findCast_8 : decode cX0_findCast 8 = .ok (.bipush 8, 2) := by decide +kernel
theorem dX0_findCast_10 : decode cX0_findCast 10 = .ok (.invokestatic 42, 3) := by decide +kernel
theorem dX0_findCast_13 : decode cX0_findCast 13 = .ok (.invokestatic 48, 3) := by decide +kernel
theorem dX0_findCast_16 : decode cX0_findCast 16 = .ok (.ireturn, 1) := by decide +kernel
theorem dX0_foundActor_0 : decode cX0_foundActor 0 = .ok (.iconst 0, 1) := by decide +kernel
theorem dX0_foundActor_1 : decode cX0_foundActor 1 = .ok (.istore_n 2, 1) := by decide +kernel
theorem dX0_foundActor_2 : decode cX0_foundActor 2 = .ok (.iload_n 2, 1) := by decide +kernel
theorem dX0_foundActor_3 : decode cX0_foundActor 3 = .ok (.bipush 8, 2) := by decide +kernel
theorem dX0_foundActor_5 : decode cX0_foundActor 5 = .ok (.if_icmp .ge 24, 3) := by decide +kernel
theorem dX0_foundActor_8 : decode cX0_foundActor 8 = .ok (.aload_n 0, 1) := by decide +kernel
theorem dX0_foundActor_9 : decode cX0_foundActor 9 = .ok (.getfield 15, 3) := by decide +kernel
theorem dX0_foundActor_12 : decode cX0_foundActor 12 = .ok (.iload_n 2, 1) := by decide +kernel
theorem dX0_foundActor_13 : decode cX0_foundActor 13 = .ok (.iaload, 1) := by decide +kernel
theorem dX0_foundActor_14 : decode cX0_foundActor 14 = .ok (.iconst 1, 1) := by decide +kernel
theorem dX0_foundActor_15 : decode cX0_foundActor 15 = .ok (.iload_n 1, 1) := by decide +kernel
theorem dX0_foundActor_16 : decode cX0_foundActor 16 = .ok (.ishl, 1) := by decide +kernel
theorem dX0_foundActor_17 : decode cX0_foundActor 17 = .ok (.iand, 1) := by decide +kernel
theorem dX0_foundActor_18 : decode cX0_foundActor 18 = .ok (.ifCond .eq 5, 3) := by decide +kernel
theorem dX0_foundActor_21 : decode cX0_foundActor 21 = .ok (.iload_n 2, 1) := by decide +kernel
theorem dX0_foundActor_22 : decode cX0_foundActor 22 = .ok (.ireturn, 1) := by decide +kernel
theorem dX0_foundActor_23 : decode cX0_foundActor 23 = .ok (.iinc 2 1, 3) := by decide +kernel
theorem dX0_foundActor_26 : decode cX0_foundActor 26 = .ok (.goto (-24), 3) := by decide +kernel
theorem dX0_foundActor_29 : decode cX0_foundActor 29 = .ok (.iconst (-1), 1) := by decide +kernel
theorem dX0_foundActor_30 : decode cX0_foundActor 30 = .ok (.ireturn, 1) := by decide +kernel
set_option maxRecDepth 20000 in
theorem ggX0_greedySize_X0_dismissAll : GoodIn wsX0_greedySize wsX0_dismissAll := goodIn_r _ [11, 2, 17, 18, 19] (by decide +kernel) (by decide +kernel)
set_option maxRecDepth 20000 in
theorem gX0_greedySize_X0_dismissAll : GoodIn wsX0_greedySize (wsV RX0 39 RX0 yX0_dismissAll wsX0_dismissAll) := goodIn_app (goodIn_of _ (by decide +kernel)) ggX0_greedySize_X0_dismissAll
set_option maxRecDepth 20000 in
theorem ggX0_greedySize_X0_isFree : GoodIn wsX0_greedySize wsX0_isFree := goodIn_r _ [15, 2, 16, 17, 18, 19] (by decide +kernel) (by decide +kernel)
set_option maxRecDepth 20000 in
theorem gX0_greedySize_X0_isFree : GoodIn wsX0_greedySize (wsV RX0 52 RX0 yX0_isFree wsX0_isFree) := goodIn_app (goodIn_of _ (by decide +kernel)) ggX0_greedySize_X0_isFree
theorem dX0_greedySize_0 : decode cX0_greedySize 0 = .ok (.aload_n 0, 1) := by decide +kernel
theorem dX0_greedySize_1 : decode cX0_greedySize 1 = .ok (.invokevirtual 39, 3) := by decide +kernel
theorem dX0_greedySize_4 : decode cX0_greedySize 4 = .ok (.iconst 0, 1) := by decide +kernel
theorem dX0_greedySize_5 : decode cX0_greedySize 5 = .ok (.istore_n 1, 1) := by decide +kernel
theorem dX0_greedySize_6 : decode cX0_greedySize 6 = .ok (.iconst 0, 1) := by decide +kernel
theorem dX0_greedySize_7 : decode cX0_greedySize 7 = .ok (.istore_n 2, 1) := by decide +kernel
theorem dX0_greedySize_8 : decode cX0_greedySize 8 = .ok (.iload_n 2, 1) := by decide +kernel
theorem dX0_greedySize_9 : decode cX0_greedySize 9 = .ok (.aload_n 0, 1) := by decide +kernel
theorem dX0_greedySize_10 : decode cX0_greedySize 10 = .ok (.getfield 30, 3) := by decide +kernel
theorem dX0_greedySize_13 : decode cX0_greedySize 13 = .ok (.if_icmp .ge 52, 3) := by decide +kernel
theorem dX0_greedySize_16 : decode cX0_greedySize 16 = .ok (.iconst 0, 1) := by decide +kernel
theorem dX0_greedySize_17 : decode cX0_greedySize 17 = .ok (.istore_n 3, 1) := by decide +kernel
theorem dX0_greedySize_18 : decode cX0_greedySize 18 = .ok (.iload_n 3, 1) := by decide +kernel
theorem dX0_greedySize_19 : decode cX0_greedySize 19 = .ok (.bipush 7, 2) := by decide +kernel
theorem dX0_greedySize_21 : decode cX0_greedySize 21 = .ok (.if_icmp .ge 18, 3) := by decide +kernel
theorem dX0_greedySize_24 : decode cX0_greedySize 24 = .ok (.aload_n 0, 1) := by decide +kernel
theorem dX0_greedySize_25 : decode cX0_greedySize 25 = .ok (.iload_n 3, 1) := by decide +kernel
theorem dX0_greedySize_26 : decode cX0_greedySize 26 = .ok (.iload_n 2, 1) := by decide +kernel
theorem dX0_greedySize_27 : decode cX0_greedySize 27 = .ok (.invokevirtual 52, 3) := by decide +kernel
theorem dX0_greedySize_30 : decode cX0_greedySize 30 = .ok (.ifCond .ne 9, 3) := by decide +kernel
theorem dX0_greedySize_33 : decode cX0_greedySize 33 = .ok (.iinc 3 1, 3) := by decide +kernel
theorem dX0_greedySize_36 : decode cX0_greedySize 36 = .ok (.goto (-18), 3) := by decide +kernel
theorem dX0_greedySize_39 : decode cX0_greedySize 39 = .ok (.aload_n 0, 1) := by decide +kernel
theorem dX0_greedySize_40 : decode cX0_greedySize 40 = .ok (.getfield 15, 3) := by decide +kernel
theorem dX0_greedySize_43 : decode cX0_greedySize 43 = .ok (.iload_n 3, 1) := by decide +kernel
theorem dX0_greedySize_44 : decode cX0_greedySize 44 = .ok (.dup2, 1) := by decide +kernel
theorem dX0_greedySize_45 : decode cX0_greedySize 45 = .ok (.iaload, 1) := by decide +kernel
theorem dX0_greedySize_46 : decode cX0_greedySize 46 = .ok (.iconst 1, 1) := by decide +kernel
theorem dX0_greedySize_47 : decode cX0_greedySize 47 = .ok (.iload_n 2, 1) := by decide +kernel
theorem dX0_greedySize_48 : decode cX0_greedySize 48 = .ok (.ishl, 1) := by decide +kernel
theorem dX0_greedySize_49 : decode cX0_greedySize 49 = .ok (.ior, 1) := by decide +kernel
theorem dX0_greedySize_50 : decode cX0_greedySize 50 = .ok (.iastore, 1) := by decide +kernel
theorem dX0_greedySize_51 : decode cX0_greedySize 51 = .ok (.iload_n 1, 1) := by decide +kernel
theorem dX0_greedySize_52 : decode cX0_greedySize 52 = .ok (.iload_n 3, 1) := by decide +kernel
theorem dX0_greedySize_53 : decode cX0_greedySize 53 = .ok (.iconst 1, 1) := by decide +kernel
theorem dX0_greedySize_54 : decode cX0_greedySize 54 = .ok (.iadd, 1) := by decide +kernel
theorem dX0_greedySize_55 : decode cX0_greedySize 55 = .ok (.invokestatic 56, 3) := by decide +kernel
theorem dX0_greedySize_58 : decode cX0_greedySize 58 = .ok (.istore_n 1, 1) := by decide +kernel
theorem dX0_greedySize_59 : decode cX0_greedySize 59 = .ok (.iinc 2 1, 3) := by decide +kernel
theorem dX0_greedySize_62 : decode cX0_greedySize 62 = .ok (.goto (-54), 3) := by decide +kernel
theorem dX0_greedySize_65 : decode cX0_greedySize 65 = .ok (.iload_n 1, 1) := by decide +kernel
theorem dX0_greedySize_66 : decode cX0_greedySize 66 = .ok (.ireturn, 1) := by decide +kernel
set_option maxRecDepth 20000 in
theorem ggX0_largestClique_X0_isClique : GoodIn wsX0_largestClique wsX0_isClique := goodIn_r _ [10, 1, 11, 19, 20, 21] (by decide +kernel) (by decide +kernel)
set_option maxRecDepth 20000 in
theorem gX0_largestClique_X0_isClique : GoodIn wsX0_largestClique (wsV RX0 59 RX0 yX0_isClique wsX0_isClique) := goodIn_app (goodIn_of _ (by decide +kernel)) ggX0_largestClique_X0_isClique
set_option maxRecDepth 20000 in
theorem ggX0_largestClique_J6_bitCount_0f7a4 : GoodIn wsX0_largestClique wsJ6_bitCount_0f7a4 := goodIn_r _ [15, 16, 17, 18] (by decide +kernel) (by decide +kernel)
set_option maxRecDepth 20000 in
theorem gX0_largestClique_J6_bitCount_0f7a4 : GoodIn wsX0_largestClique (va_wsS RX0 62 yJ6_bitCount_0f7a4 wsJ6_bitCount_0f7a4) := goodIn_app (goodIn_of _ (by decide +kernel)) ggX0_largestClique_J6_bitCount_0f7a4
theorem dX0_largestClique_0 : decode cX0_largestClique 0 = .ok (.iconst 0, 1) := by decide +kernel
theorem dX0_largestClique_1 : decode cX0_largestClique 1 = .ok (.istore_n 1, 1) := by decide +kernel
theorem dX0_largestClique_2 : decode cX0_largestClique 2 = .ok (.iconst 1, 1) := by decide +kernel
theorem dX0_largestClique_3 : decode cX0_largestClique 3 = .ok (.istore_n 2, 1) := by decide +kernel
theorem dX0_largestClique_4 : decode cX0_largestClique 4 = .ok (.iload_n 2, 1) := by decide +kernel
theorem dX0_largestClique_5 : decode cX0_largestClique 5 = .ok (.iconst 1, 1) := by decide +kernel
theorem dX0_largestClique_6 : decode cX0_largestClique 6 = .ok (.aload_n 0, 1) := by decide +kernel
theorem dX0_largestClique_7 : decode cX0_largestClique 7 = .ok (.getfield 30, 3) := by decide +kernel
theorem dX0_largestClique_10 : decode cX0_largestClique 10 = .ok (.ishl, 1) := by decide +kernel
theorem dX0_largestClique_11 : decode cX0_largestClique 11 = .ok (.if_icmp .ge 26, 3) := by decide +kernel
theorem dX0_largestClique_14 : decode cX0_largestClique 14 = .ok (.aload_n 0, 1) := by decide +kernel
theorem dX0_largestClique_15 : decode cX0_largestClique 15 = .ok (.iload_n 2, 1) := by decide +kernel
theorem dX0_largestClique_16 : decode cX0_largestClique 16 = .ok (.invokevirtual 59, 3) := by decide +kernel
theorem dX0_largestClique_19 : decode cX0_largestClique 19 = .ok (.ifCond .eq 12, 3) := by decide +kernel
theorem dX0_largestClique_22 : decode cX0_largestClique 22 = .ok (.iload_n 1, 1) := by decide +kernel
theorem dX0_largestClique_23 : decode cX0_largestClique 23 = .ok (.iload_n 2, 1) := by decide +kernel
theorem dX0_largestClique_24 : decode cX0_largestClique 24 = .ok (.invokestatic 62, 3) := by decide +kernel
theorem dX0_largestClique_27 : decode cX0_largestClique 27 = .ok (.invokestatic 56, 3) := by decide +kernel
theorem dX0_largestClique_30 : decode cX0_largestClique 30 = .ok (.istore_n 1, 1) := by decide +kernel
theorem dX0_largestClique_31 : decode cX0_largestClique 31 = .ok (.iinc 2 1, 3) := by decide +kernel
theorem dX0_largestClique_34 : decode cX0_largestClique 34 = .ok (.goto (-30), 3) := by decide +kernel
theorem dX0_largestClique_37 : decode cX0_largestClique 37 = .ok (.iload_n 1, 1) := by decide +kernel
theorem dX0_largestClique_38 : decode cX0_largestClique 38 = .ok (.ireturn, 1) := by decide +kernel
theorem dX0_isClique_0 : decode cX0_isClique 0 = .ok (.iconst 0, 1) := by decide +kernel
theorem dX0_isClique_1 : decode cX0_isClique 1 = .ok (.istore_n 2, 1) := by decide +kernel
theorem dX0_isClique_2 : decode cX0_isClique 2 = .ok (.iload_n 2, 1) := by decide +kernel
theorem dX0_isClique_3 : decode cX0_isClique 3 = .ok (.aload_n 0, 1) := by decide +kernel
theorem dX0_isClique_4 : decode cX0_isClique 4 = .ok (.getfield 30, 3) := by decide +kernel
theorem dX0_isClique_7 : decode cX0_isClique 7 = .ok (.if_icmp .ge 37, 3) := by decide +kernel
theorem dX0_isClique_10 : decode cX0_isClique 10 = .ok (.iload_n 1, 1) := by decide +kernel
theorem dX0_isClique_11 : decode cX0_isClique 11 = .ok (.iconst 1, 1) := by decide +kernel
theorem dX0_isClique_12 : decode cX0_isClique 12 = .ok (.iload_n 2, 1) := by decide +kernel
theorem dX0_isClique_13 : decode cX0_isClique 13 = .ok (.ishl, 1) := by decide +kernel
theorem dX0_isClique_14 : decode cX0_isClique 14 = .ok (.iconst (-1), 1) := by decide +kernel
theorem dX0_isClique_15 : decode cX0_isClique 15 = .ok (.ixor, 1) := by decide +kernel
theorem dX0_isClique_16 : decode cX0_isClique 16 = .ok (.iand, 1) := by decide +kernel
theorem dX0_isClique_17 : decode cX0_isClique 17 = .ok (.istore_n 3, 1) := by decide +kernel
theorem dX0_isClique_18 : decode cX0_isClique 18 = .ok (.iload_n 3, 1) := by decide +kernel
theorem dX0_isClique_19 : decode cX0_isClique 19 = .ok (.iload_n 1, 1) := by decide +kernel
theorem dX0_isClique_20 : decode cX0_isClique 20 = .ok (.if_icmp .eq 18, 3) := by decide +kernel
theorem dX0_isClique_23 : decode cX0_isClique 23 = .ok (.iload_n 3, 1) := by decide +kernel
theorem dX0_isClique_24 : decode cX0_isClique 24 = .ok (.aload_n 0, 1) := by decide +kernel
theorem dX0_isClique_25 : decode cX0_isClique 25 = .ok (.getfield 9, 3) := by decide +kernel
theorem dX0_isClique_28 : decode cX0_isClique 28 = .ok (.iload_n 2, 1) := by decide +kernel
theorem dX0_isClique_29 : decode cX0_isClique 29 = .ok (.iaload, 1) := by decide +kernel
theorem dX0_isClique_30 : decode cX0_isClique 30 = .ok (.iconst (-1), 1) := by decide +kernel
theorem dX0_isClique_31 : decode cX0_isClique 31 = .ok (.ixor, 1) := by decide +kernel
theorem dX0_isClique_32 : decode cX0_isClique 32 = .ok (.iand, 1) := by decide +kernel
theorem dX0_isClique_33 : decode cX0_isClique 33 = .ok (.ifCond .eq 5, 3) := by decide +kernel
theorem dX0_isClique_36 : decode cX0_isClique 36 = .ok (.iconst 0, 1) := by decide +kernel
theorem dX0_isClique_37 : decode cX0_isClique 37 = .ok (.ireturn, 1) := by decide +kernel
theorem dX0_isClique_38 : decode cX0_isClique 38 = .ok (.iinc 2 1, 3) := by decide +kernel
theorem dX0_isClique_41 : decode cX0_isClique 41 = .ok (.goto (-39), 3) := by decide +kernel
theorem dX0_isClique_44 : decode cX0_isClique 44 = .ok (.iconst 1, 1) := by decide +kernel
theorem dX0_isClique_45 : decode cX0_isClique 45 = .ok (.ireturn, 1) := by decide +kernel
theorem dX0_isFree_0 : decode cX0_isFree 0 = .ok (.aload_n 0, 1) := by decide +kernel
theorem dX0_isFree_1 : decode cX0_isFree 1 = .ok (.getfield 15, 3) := by decide +kernel
theorem dX0_isFree_4 : decode cX0_isFree 4 = .ok (.iload_n 1, 1) := by decide +kernel
theorem dX0_isFree_5 : decode cX0_isFree 5 = .ok (.iaload, 1) := by decide +kernel
theorem dX0_isFree_6 : decode cX0_isFree 6 = .ok (.aload_n 0, 1) := by decide +kernel
theorem dX0_isFree_7 : decode cX0_isFree 7 = .ok (.getfield 9, 3) := by decide +kernel
theorem dX0_isFree_10 : decode cX0_isFree 10 = .ok (.iload_n 2, 1) := by decide +kernel
theorem dX0_isFree_11 : decode cX0_isFree 11 = .ok (.iaload, 1) := by decide +kernel
theorem dX0_isFree_12 : decode cX0_isFree 12 = .ok (.iand, 1) := by decide +kernel
theorem dX0_isFree_13 : decode cX0_isFree 13 = .ok (.ifCond .ne 7, 3) := by decide +kernel
theorem dX0_isFree_16 : decode cX0_isFree 16 = .ok (.iconst 1, 1) := by decide +kernel
theorem dX0_isFree_17 : decode cX0_isFree 17 = .ok (.goto 4, 3) := by decide +kernel
theorem dX0_isFree_20 : decode cX0_isFree 20 = .ok (.iconst 0, 1) := by decide +kernel
theorem dX0_isFree_21 : decode cX0_isFree 21 = .ok (.ireturn, 1) := by decide +kernel
theorem dX0_dismissAll_0 : decode cX0_dismissAll 0 = .ok (.iconst 0, 1) := by decide +kernel
theorem dX0_dismissAll_1 : decode cX0_dismissAll 1 = .ok (.istore_n 1, 1) := by decide +kernel
theorem dX0_dismissAll_2 : decode cX0_dismissAll 2 = .ok (.iload_n 1, 1) := by decide +kernel
theorem dX0_dismissAll_3 : decode cX0_dismissAll 3 = .ok (.bipush 8, 2) := by decide +kernel
theorem dX0_dismissAll_5 : decode cX0_dismissAll 5 = .ok (.if_icmp .ge 16, 3) := by decide +kernel
theorem dX0_dismissAll_8 : decode cX0_dismissAll 8 = .ok (.aload_n 0, 1) := by decide +kernel
theorem dX0_dismissAll_9 : decode cX0_dismissAll 9 = .ok (.getfield 15, 3) := by decide +kernel
theorem dX0_dismissAll_12 : decode cX0_dismissAll 12 = .ok (.iload_n 1, 1) := by decide +kernel
theorem dX0_dismissAll_13 : decode cX0_dismissAll 13 = .ok (.iconst 0, 1) := by decide +kernel
theorem dX0_dismissAll_14 : decode cX0_dismissAll 14 = .ok (.iastore, 1) := by decide +kernel
theorem dX0_dismissAll_15 : decode cX0_dismissAll 15 = .ok (.iinc 1 1, 3) := by decide +kernel
theorem dX0_dismissAll_18 : decode cX0_dismissAll 18 = .ok (.goto (-16), 3) := by decide +kernel
theorem dX0_dismissAll_21 : decode cX0_dismissAll 21 = .ok (.return_, 1) := by decide +kernel
set_option maxRecDepth 20000 in
theorem ggX0_castFrom_X0_isFree : GoodIn wsX0_castFrom wsX0_isFree := goodIn_r _ [11, 2, 12, 15, 16, 17] (by decide +kernel) (by decide +kernel)
set_option maxRecDepth 20000 in
theorem gX0_castFrom_X0_isFree : GoodIn wsX0_castFrom (wsV RX0 52 RX0 yX0_isFree wsX0_isFree) := goodIn_app (goodIn_of _ (by decide +kernel)) ggX0_castFrom_X0_isFree
set_option maxRecDepth 20000 in
theorem ggX0_castFrom_X0_castFrom : GoodIn wsX0_castFrom wsX0_castFrom := goodIn_r _ [0, 1, 2, 3, 4, 5, 6, 7, 8, 9, 10, 11, 12, 13, 14, 15, 16, 17] (by decide +kernel) (by decide +kernel)
set_option maxRecDepth 20000 in
theorem gX0_castFrom_X0_castFrom : GoodIn wsX0_castFrom (va_wsS RX0 48 yX0_castFrom wsX0_castFrom) := goodIn_app (goodIn_of _ (by decide +kernel)) ggX0_castFrom_X0_castFrom
theorem dX0_castFrom_0 : decode cX0_castFrom 0 = .ok (.iload_n 1, 1) := by decide +kernel
theorem dX0_castFrom_1 : decode cX0_castFrom 1 = .ok (.aload_n 0, 1) := by decide +kernel
theorem dX0_castFrom_2 : decode cX0_castFrom 2 = .ok (.getfield 30, 3) := by decide +kernel
theorem dX0_castFrom_5 : decode cX0_castFrom 5 = .ok (.if_icmp .ge 9, 3) := by decide +kernel
theorem dX0_castFrom_8 : decode cX0_castFrom 8 = .ok (.iload_n 1, 1) := by decide +kernel
theorem dX0_castFrom_9 : decode cX0_castFrom 9 = .ok (.bipush 8, 2) := by decide +kernel
theorem dX0_castFrom_11 : decode cX0_castFrom 11 = .ok (.if_icmp .lt 5, 3) := by decide +kernel
theorem dX0_castFrom_14 : decode cX0_castFrom 14 = .ok (.iconst 1, 1) := by decide +kernel
theorem dX0_castFrom_15 : decode cX0_castFrom 15 = .ok (.ireturn, 1) := by decide +kernel
theorem dX0_castFrom_16 : decode cX0_castFrom 16 = .ok (.iconst 0, 1) := by decide +kernel
theorem dX0_castFrom_17 : decode cX0_castFrom 17 = .ok (.istore 4, 2) := by decide +kernel
theorem dX0_castFrom_19 : decode cX0_castFrom 19 = .ok (.iload 4, 2) := by decide +kernel
theorem dX0_castFrom_21 : decode cX0_castFrom 21 = .ok (.iload_n 2, 1) := by decide +kernel
theorem dX0_castFrom_22 : decode cX0_castFrom 22 = .ok (.if_icmp .gt 74, 3) := by decide +kernel
theorem dX0_castFrom_25 : decode cX0_castFrom 25 = .ok (.iload 4, 2) := by decide +kernel
theorem dX0_castFrom_27 : decode cX0_castFrom 27 = .ok (.iload_n 3, 1) := by decide +kernel
theorem dX0_castFrom_28 : decode cX0_castFrom 28 = .ok (.if_icmp .ge 68, 3) := by decide +kernel
theorem dX0_castFrom_31 : decode cX0_castFrom 31 = .ok (.aload_n 0, 1) := by decide +kernel
theorem dX0_castFrom_32 : decode cX0_castFrom 32 = .ok (.iload 4, 2) := by decide +kernel
theorem dX0_castFrom_34 : decode cX0_castFrom 34 = .ok (.iload_n 1, 1) := by decide +kernel
theorem dX0_castFrom_35 : decode cX0_castFrom 35 = .ok (.invokevirtual 52, 3) := by decide +kernel
theorem dX0_castFrom_38 : decode cX0_castFrom 38 = .ok (.ifCond .eq 52, 3) := by decide +kernel
theorem dX0_castFrom_41 : decode cX0_castFrom 41 = .ok (.aload_n 0, 1) := by decide +kernel
theorem dX0_castFrom_42 : decode cX0_castFrom 42 = .ok (.getfield 15, 3) := by decide +kernel
theorem dX0_castFrom_45 : decode cX0_castFrom 45 = .ok (.iload 4, 2) := by decide +kernel
theorem dX0_castFrom_47 : decode cX0_castFrom 47 = .ok (.dup2, 1) := by decide +kernel
theorem dX0_castFrom_48 : decode cX0_castFrom 48 = .ok (.iaload, 1) := by decide +kernel
theorem dX0_castFrom_49 : decode cX0_castFrom 49 = .ok (.iconst 1, 1) := by decide +kernel
theorem dX0_castFrom_50 : decode cX0_castFrom 50 = .ok (.iload_n 1, 1) := by decide +kernel
theorem dX0_castFrom_51 : decode cX0_castFrom 51 = .ok (.ishl, 1) := by decide +kernel
theorem dX0_castFrom_52 : decode cX0_castFrom 52 = .ok (.ior, 1) := by decide +kernel
theorem dX0_castFrom_53 : decode cX0_castFrom 53 = .ok (.iastore, 1) := by decide +kernel
theorem dX0_castFrom_54 : decode cX0_castFrom 54 = .ok (.aload_n 0, 1) := by decide +kernel
theorem dX0_castFrom_55 : decode cX0_castFrom 55 = .ok (.iload_n 1, 1) := by decide +kernel
theorem dX0_castFrom_56 : decode cX0_castFrom 56 = .ok (.iconst 1, 1) := by decide +kernel
theorem dX0_castFrom_57 : decode cX0_castFrom 57 = .ok (.iadd, 1) := by decide +kernel
theorem dX0_castFrom_58 : decode cX0_castFrom 58 = .ok (.iload_n 2, 1) := by decide +kernel
theorem dX0_castFrom_59 : decode cX0_castFrom 59 = .ok (.iload 4, 2) := by decide +kernel
theorem dX0_castFrom_61 : decode cX0_castFrom 61 = .ok (.iconst 1, 1) := by decide +kernel
theorem dX0_castFrom_62 : decode cX0_castFrom 62 = .ok (.iadd, 1) := by decide +kernel
theorem dX0_castFrom_63 : decode cX0_castFrom 63 = .ok (.invokestatic 56, 3) := by decide +kernel
theorem dX0_castFrom_66 : decode cX0_castFrom 66 = .ok (.iload_n 3, 1) := by decide +kernel
theorem dX0_castFrom_67 : decode cX0_castFrom 67 = .ok (.invokestatic 48, 3) := by decide +kernel
theorem dX0_castFrom_70 : decode cX0_castFrom 70 = .ok (.ifCond .eq 5, 3) := by decide +kernel
theorem dX0_castFrom_73 : decode cX0_castFrom 73 = .ok (.iconst 1, 1) := by decide +kernel
theorem dX0_castFrom_74 : decode cX0_castFrom 74 = .ok (.ireturn, 1) := by decide +kernel
theorem dX0_castFrom_75 : decode cX0_castFrom 75 = .ok (.aload_n 0, 1) := by decide +kernel
theorem dX0_castFrom_76 : decode cX0_castFrom 76 = .ok (.getfield 15, 3) := by decide +kernel
theorem dX0_castFrom_79 : decode cX0_castFrom 79 = .ok (.iload 4, 2) := by decide +kernel
theorem dX0_castFrom_81 : decode cX0_castFrom 81 = .ok (.dup2, 1) := by decide +kernel
theorem dX0_castFrom_82 : decode cX0_castFrom 82 = .ok (.iaload, 1) := by decide +kernel
theorem dX0_castFrom_83 : decode cX0_castFrom 83 = .ok (.iconst 1, 1) := by decide +kernel
theorem dX0_castFrom_84 : decode cX0_castFrom 84 = .ok (.iload_n 1, 1) := by decide +kernel
theorem dX0_castFrom_85 : decode cX0_castFrom 85 = .ok (.ishl, 1) := by decide +kernel
theorem dX0_castFrom_86 : decode cX0_castFrom 86 = .ok (.iconst (-1), 1) := by decide +kernel
theorem dX0_castFrom_87 : decode cX0_castFrom 87 = .ok (.ixor, 1) := by decide +kernel
theorem dX0_castFrom_88 : decode cX0_castFrom 88 = .ok (.iand, 1) := by decide +kernel
theorem dX0_castFrom_89 : decode cX0_castFrom 89 = .ok (.iastore, 1) := by decide +kernel
theorem dX0_castFrom_90 : decode cX0_castFrom 90 = .ok (.iinc 4 1, 3) := by decide +kernel
theorem dX0_castFrom_93 : decode cX0_castFrom 93 = .ok (.goto (-74), 3) := by decide +kernel
theorem dX0_castFrom_96 : decode cX0_castFrom 96 = .ok (.iconst 0, 1) := by decide +kernel
theorem dX0_castFrom_97 : decode cX0_castFrom 97 = .ok (.ireturn, 1) := by decide +kernel
set_option maxRecDepth 20000 in
theorem ggX1_init_X2_init : GoodIn wsX1_init wsX2_init := goodIn_r _ [9, 10, 2, 3, 11, 12, 13, 14, 15, 16, 17, 18, 19, 20, 23, 24, 25, 26, 27, 28, 29, 30, 31, 32, 33, 34] (by decide +kernel) (by decide +kernel)
set_option maxRecDepth 20000 in
theorem gX1_init_X2_init_n17 : GoodIn wsX1_init (wsX2_init) := ggX1_init_X2_init
theorem dX1_init_0 : decode cX1_init 0 = .ok (.aload_n 0, 1) := by decide +kernel
theorem dX1_init_1 : decode cX1_init 1 = .ok (.invokespecial 3, 3) := by decide +kernel
theorem dX1_init_4 : decode cX1_init 4 = .ok (.aload_n 0, 1) := by decide +kernel
theorem dX1_init_5 : decode cX1_init 5 = .ok (.iconst 5, 1) := by decide +kernel
theorem dX1_init_6 : decode cX1_init 6 = .ok (.anewarray 9, 3) := by decide +kernel
theorem dX1_init_9 : decode cX1_init 9 = .ok (.putfield 11, 3) := by decide +kernel
theorem dX1_init_12 : decode cX1_init 12 = .ok (.iconst 0, 1) := by decide +kernel
theorem dX1_init_13 : decode cX1_init 13 = .ok (.istore_n 1, 1) := by decide +kernel
theorem dX1_init_14 : decode cX1_init 14 = .ok (.iload_n 1, 1) := by decide +kernel
theorem dX1_init_15 : decode cX1_init 15 = .ok (.iconst 5, 1) := by decide +kernel
theorem dX1_init_16 : decode cX1_init 16 = .ok (.if_icmp .ge 22, 3) := by decide +kernel
theorem dX1_init_19 : decode cX1_init 19 = .ok (.aload_n 0, 1) := by decide +kernel
theorem dX1_init_20 : decode cX1_init 20 = .ok (.getfield 11, 3) := by decide +kernel
theorem dX1_init_23 : decode cX1_init 23 = .ok (.iload_n 1, 1) := by decide +kernel
theorem dX1_init_24 : decode cX1_init 24 = .ok (.new 9, 3) := by decide +kernel
theorem dX1_init_27 : decode cX1_init 27 = .ok (.dup, 1) := by decide +kernel
theorem dX1_init_28 : decode cX1_init 28 = .ok (.invokespecial 17, 3) := by decide +kernel
theorem dX1_init_31 : decode cX1_init 31 = .ok (.aastore, 1) := by decide +kernel
theorem dX1_init_32 : decode cX1_init 32 = .ok (.iinc 1 1, 3) := by decide +kernel
theorem dX1_init_35 : decode cX1_init 35 = .ok (.goto (-21), 3) := by decide +kernel
theorem dX1_init_38 : decode cX1_init 38 = .ok (.return_, 1) := by decide +kernel
set_option maxRecDepth 20000 in
theorem ggX1_remember_X1_forgetOldest : GoodIn wsX1_remember wsX1_forgetOldest := goodIn_r _ [7, 2, 1, 29, 30] (by decide +kernel) (by decide +kernel)
set_option maxRecDepth 20000 in
theorem gX1_remember_X1_forgetOldest : GoodIn wsX1_remember (wsV RX1 22 RX1 yX1_forgetOldest wsX1_forgetOldest) := goodIn_app (goodIn_of _ (by decide +kernel)) ggX1_remember_X1_forgetOldest
set_option maxRecDepth 20000 in
theorem ggX1_remember_X2_copyFrom : GoodIn wsX1_remember wsX2_copyFrom := goodIn_r _ [12, 13, 14, 15, 16, 17, 18, 19, 20, 21, 22, 23, 24, 25, 26, 27, 28, 31, 32, 33, 34, 35, 36, 37, 38, 39, 40, 41, 42] (by decide +kernel) (by decide +kernel)
set_option maxRecDepth 20000 in
theorem gX1_remember_X2_copyFrom : GoodIn wsX1_remember (wsV RX1 25 RX2 yX2_copyFrom wsX2_copyFrom) := goodIn_app (goodIn_of _ (by decide +kernel)) ggX1_remember_X2_copyFrom
theorem dX1_remember_0 : decode cX1_remember 0 = .ok (.aload_n 0, 1) := by decide +kernel
theorem dX1_remember_1 : decode cX1_remember 1 = .ok (.getfield 18, 3) := by decide +kernel
theorem dX1_remember_4 : decode cX1_remember 4 = .ok (.iconst 5, 1) := by decide +kernel
theorem dX1_remember_5 : decode cX1_remember 5 = .ok (.if_icmp .lt 7, 3) := by decide +kernel
theorem dX1_remember_8 : decode cX1_remember 8 = .ok (.aload_n 0, 1) := by decide +kernel
theorem dX1_remember_9 : decode cX1_remember 9 = .ok (.invokevirtual 22, 3) := by decide +kernel
theorem dX1_remember_12 : decode cX1_remember 12 = .ok (.aload_n 0, 1) := by decide +kernel
theorem dX1_remember_13 : decode cX1_remember 13 = .ok (.getfield 11, 3) := by decide +kernel
theorem dX1_remember_16 : decode cX1_remember 16 = .ok (.aload_n 0, 1) := by decide +kernel
theorem dX1_remember_17 : decode cX1_remember 17 = .ok (.getfield 18, 3) := by decide +kernel
theorem dX1_remember_20 : decode cX1_remember 20 = .ok (.aaload, 1) := by decide +kernel
theorem dX1_remember_21 : decode cX1_remember 21 = .ok (.aload_n 1, 1) := by decide +kernel
theorem dX1_remember_22 : decode cX1_remember 22 = .ok (.invokevirtual 25, 3) := by decide +kernel
theorem dX1_remember_25 : decode cX1_remember 25 = .ok (.aload_n 0, 1) := by decide +kernel
theorem dX1_remember_26 : decode cX1_remember 26 = .ok (.dup, 1) := by decide +kernel
theorem dX1_remember_27 : decode cX1_remember 27 = .ok (.getfield 18, 3) := by decide +kernel
theorem dX1_remember_30 : decode cX1_remember 30 = .ok (.iconst 1, 1) := by decide +kernel
theorem dX1_remember_31 : decode cX1_remember 31 = .ok (.iadd, 1) := by decide +kernel
theorem dX1_remember_32 : decode cX1_remember 32 = .ok (.putfield 18, 3) := by decide +kernel
theorem dX1_remember_35 : decode cX1_remember 35 = .ok (.return_, 1) := by decide +kernel
set_option maxRecDepth 20000 in
theorem ggX1_bringBack_X2_copyFrom : GoodIn wsX1_bringBack wsX2_copyFrom := goodIn_r _ [7, 8, 9, 10, 11, 12, 13, 14, 15, 16, 17, 18, 19, 20, 21, 22, 23, 26, 27, 28, 29, 30, 31, 32, 33, 34, 35, 36, 37] (by decide +kernel) (by decide +kernel)
set_option maxRecDepth 20000 in
theorem gX1_bringBack_X2_copyFrom : GoodIn wsX1_bringBack (wsV RX1 25 RX2 yX2_copyFrom wsX2_copyFrom) := goodIn_app (goodIn_of _ (by decide +kernel)) ggX1_bringBack_X2_copyFrom
theorem dX1_bringBack_0 : decode cX1_bringBack 0 = .ok (.aload_n 0, 1) := by decide +kernel
theorem dX1_bringBack_1 : decode cX1_bringBack 1 = .ok (.getfield 18, 3) := by decide +kernel
theorem dX1_bringBack_4 : decode cX1_bringBack 4 = .ok (.ifCond .le 26, 3) := by decide +kernel
theorem dX1_bringBack_7 : decode cX1_bringBack 7 = .ok (.aload_n 0, 1) := by decide +kernel
theorem dX1_bringBack_8 : decode cX1_bringBack 8 = .ok (.dup, 1) := by decide +kernel
theorem dX1_bringBack_9 : decode cX1_bringBack 9 = .ok (.getfield 18, 3) := by decide +kernel
theorem dX1_bringBack_12 : decode cX1_bringBack 12 = .ok (.iconst 1, 1) := by decide +kernel
theorem dX1_bringBack_13 : decode cX1_bringBack 13 = .ok (.isub, 1) := by decide +kernel
theorem dX1_bringBack_14 : decode cX1_bringBack 14 = .ok (.putfield 18, 3) := by decide +kernel
theorem dX1_bringBack_17 : decode cX1_bringBack 17 = .ok (.aload_n 1, 1) := by decide +kernel
theorem dX1_bringBack_18 : decode cX1_bringBack 18 = .ok (.aload_n 0, 1) := by decide +kernel
theorem dX1_bringBack_19 : decode cX1_bringBack 19 = .ok (.getfield 11, 3) := by decide +kernel
theorem dX1_bringBack_22 : decode cX1_bringBack 22 = .ok (.aload_n 0, 1) := by decide +kernel
theorem dX1_bringBack_23 : decode cX1_bringBack 23 = .ok (.getfield 18, 3) := by decide +kernel
theorem dX1_bringBack_26 : decode cX1_bringBack 26 = .ok (.aaload, 1) := by decide +kernel
theorem dX1_bringBack_27 : decode cX1_bringBack 27 = .ok (.invokevirtual 25, 3) := by decide +kernel
theorem dX1_bringBack_30 : decode cX1_bringBack 30 = .ok (.return_, 1) := by decide +kernel
theorem dX1_forgetOldest_0 : decode cX1_forgetOldest 0 = .ok (.aload_n 0, 1) := by decide +kernel
theorem dX1_forgetOldest_1 : decode cX1_forgetOldest 1 = .ok (.getfield 11, 3) := by decide +kernel
theorem dX1_forgetOldest_4 : decode cX1_forgetOldest 4 = .ok (.iconst 0, 1) := by decide +kernel
theorem dX1_forgetOldest_5 : decode cX1_forgetOldest 5 = .ok (.aaload, 1) := by decide +kernel
theorem dX1_forgetOldest_6 : decode cX1_forgetOldest 6 = .ok (.astore_n 1, 1) := by decide +kernel
theorem dX1_forgetOldest_7 : decode cX1_forgetOldest 7 = .ok (.iconst 1, 1) := by decide +kernel
theorem dX1_forgetOldest_8 : decode cX1_forgetOldest 8 = .ok (.istore_n 2, 1) := by decide +kernel
theorem dX1_forgetOldest_9 : decode cX1_forgetOldest 9 = .ok (.iload_n 2, 1) := by decide +kernel
theorem dX1_forgetOldest_10 : decode cX1_forgetOldest 10 = .ok (.iconst 5, 1) := by decide +kernel
theorem dX1_forgetOldest_11 : decode cX1_forgetOldest 11 = .ok (.if_icmp .ge 23, 3) := by decide +kernel
theorem dX1_forgetOldest_14 : decode cX1_forgetOldest 14 = .ok (.aload_n 0, 1) := by decide +kernel
theorem dX1_forgetOldest_15 : decode cX1_forgetOldest 15 = .ok (.getfield 11, 3) := by decide +kernel
theorem dX1_forgetOldest_18 : decode cX1_forgetOldest 18 = .ok (.iload_n 2, 1) := by decide +kernel
theorem dX1_forgetOldest_19 : decode cX1_forgetOldest 19 = .ok (.iconst 1, 1) := by decide +kernel
theorem dX1_forgetOldest_20 : decode cX1_forgetOldest 20 = .ok (.isub, 1) := by decide +kernel
theorem dX1_forgetOldest_21 : decode cX1_forgetOldest 21 = .ok (.aload_n 0, 1) := by decide +kernel
theorem dX1_forgetOldest_22 : decode cX1_forgetOldest 22 = .ok (.getfield 11, 3) := by decide +kernel
theorem dX1_forgetOldest_25 : decode cX1_forgetOldest 25 = .ok (.iload_n 2, 1) := by decide +kernel
theorem dX1_forgetOldest_26 : decode cX1_forgetOldest 26 = .ok (.aaload, 1) := by decide +kernel
theorem dX1_forgetOldest_27 : decode cX1_forgetOldest 27 = .ok (.aastore, 1) := by decide +kernel
theorem dX1_forgetOldest_28 : decode cX1_forgetOldest 28 = .ok (.iinc 2 1, 3) := by decide +kernel
theorem dX1_forgetOldest_31 : decode cX1_forgetOldest 31 = .ok (.goto (-22), 3) := by decide +kernel
theorem dX1_forgetOldest_34 : decode cX1_forgetOldest 34 = .ok (.aload_n 0, 1) := by decide +kernel
theorem dX1_forgetOldest_35 : decode cX1_forgetOldest 35 = .ok (.getfield 11, 3) := by decide +kernel
theorem dX1_forgetOldest_38 : decode cX1_forgetOldest 38 = .ok (.iconst 4, 1) := by decide +kernel
theorem dX1_forgetOldest_39 : decode cX1_forgetOldest 39 = .ok (.aload_n 1, 1) := by decide +kernel
theorem dX1_forgetOldest_40 : decode cX1_forgetOldest 40 = .ok (.aastore, 1) := by decide +kernel
theorem dX1_forgetOldest_41 : decode cX1_forgetOldest 41 = .ok (.aload_n 0, 1) := by decide +kernel
theorem dX1_forgetOldest_42 : decode cX1_forgetOldest 42 = .ok (.iconst 4, 1) := by decide +kernel
theorem dX1_forgetOldest_43 : decode cX1_forgetOldest 43 = .ok (.putfield 18, 3) := by decide +kernel
theorem dX1_forgetOldest_46 : decode cX1_forgetOldest 46 = .ok (.return_, 1) := by decide +kernel
theorem dX2_init_0 : decode cX2_init 0 = .ok (.aload_n 0, 1) := by decide +kernel
theorem dX2_init_1 : decode cX2_init 1 = .ok (.invokespecial 3, 3) := by decide +kernel
theorem dX2_init_4 : decode cX2_init 4 = .ok (.aload_n 0, 1) := by decide +kernel
theorem dX2_init_5 : decode cX2_init 5 = .ok (.bipush 10, 2) := by decide +kernel
theorem dX2_init_7 : decode cX2_init 7 = .ok (.newarray .int, 2) := by decide +kernel
theorem dX2_init_9 : decode cX2_init 9 = .ok (.putfield 9, 3) := by decide +kernel
theorem dX2_init_12 : decode cX2_init 12 = .ok (.aload_n 0, 1) := by decide +kernel
theorem dX2_init_13 : decode cX2_init 13 = .ok (.bipush 8, 2) := by decide +kernel
theorem dX2_init_15 : decode cX2_init 15 = .ok (.newarray .int, 2) := by decide +kernel
theorem dX2_init_17 : decode cX2_init 17 = .ok (.putfield 15, 3) := by decide +kernel
theorem dX2_init_20 : decode cX2_init 20 = .ok (.aload_n 0, 1) := by decide +kernel
theorem dX2_init_21 : decode cX2_init 21 = .ok (.bipush 8, 2) := by decide +kernel
theorem dX2_init_23 : decode cX2_init 23 = .ok (.newarray .int, 2) := by decide +kernel
theorem dX2_init_25 : decode cX2_init 25 = .ok (.putfield 18, 3) := by decide +kernel
theorem dX2_init_28 : decode cX2_init 28 = .ok (.aload_n 0, 1) := by decide +kernel
theorem dX2_init_29 : decode cX2_init 29 = .ok (.bipush 8, 2) := by decide +kernel
theorem dX2_init_31 : decode cX2_init 31 = .ok (.newarray .int, 2) := by decide +kernel
theorem dX2_init_33 : decode cX2_init 33 = .ok (.putfield 21, 3) := by decide +kernel
theorem dX2_init_36 : decode cX2_init 36 = .ok (.aload_n 0, 1) := by decide +kernel
theorem dX2_init_37 : decode cX2_init 37 = .ok (.bipush 8, 2) := by decide +kernel
theorem dX2_init_39 : decode cX2_init 39 = .ok (.newarray .int, 2) := by decide +kernel
theorem dX2_init_41 : decode cX2_init 41 = .ok (.putfield 24, 3) := by decide +kernel
theorem dX2_init_44 : decode cX2_init 44 = .ok (.aload_n 0, 1) := by decide +kernel
theorem dX2_init_45 : decode cX2_init 45 = .ok (.bipush 20, 2) := by decide +kernel
theorem dX2_init_47 : decode cX2_init 47 = .ok (.newarray .int, 2) := by decide +kernel
theorem dX2_init_49 : decode cX2_init 49 = .ok (.putfield 27, 3) := by decide +kernel
theorem dX2_init_52 : decode cX2_init 52 = .ok (.aload_n 0, 1) := by decide +kernel
theorem dX2_init_53 : decode cX2_init 53 = .ok (.bipush 20, 2) := by decide +kernel
theorem dX2_init_55 : decode cX2_init 55 = .ok (.newarray .int, 2) := by decide +kernel
theorem dX2_init_57 : decode cX2_init 57 = .ok (.putfield 30, 3) := by decide +kernel
theorem dX2_init_60 : decode cX2_init 60 = .ok (.aload_n 0, 1) := by decide +kernel
theorem dX2_init_61 : decode cX2_init 61 = .ok (.bipush 20, 2) := by decide +kernel
theorem dX2_init_63 : decode cX2_init 63 = .ok (.newarray .int, 2) := by decide +kernel
theorem dX2_init_65 : decode cX2_init 65 = .ok (.putfield 33, 3) := by decide +kernel
theorem dX2_init_68 : decode cX2_init 68 = .ok (.aload_n 0, 1) := by decide +kernel
theorem dX2_init_69 : decode cX2_init 69 = .ok (.bipush 20, 2) := by decide +kernel
theorem dX2_init_71 : decode cX2_init 71 = .ok (.newarray .int, 2) := by decide +kernel
theorem dX2_init_73 : decode cX2_init 73 = .ok (.putfield 36, 3) := by decide +kernel
theorem dX2_init_76 : decode cX2_init 76 = .ok (.return_, 1) := by decide +kernel
theorem dX2_makeEmpty_0 : decode cX2_makeEmpty 0 = .ok (.aload_n 0, 1) := by decide +kernel
theorem dX2_makeEmpty_1 : decode cX2_makeEmpty 1 = .ok (.iconst 0, 1) := by decide +kernel
theorem dX2_makeEmpty_2 : decode cX2_makeEmpty 2 = .ok (.putfield 39, 3) := by decide +kernel
theorem dX2_makeEmpty_5 : decode cX2_makeEmpty 5 = .ok (.aload_n 0, 1) := by decide +kernel
theorem dX2_makeEmpty_6 : decode cX2_makeEmpty 6 = .ok (.iconst 0, 1) := by decide +kernel
theorem dX2_makeEmpty_7 : decode cX2_makeEmpty 7 = .ok (.putfield 43, 3) := by decide +kernel
theorem dX2_makeEmpty_10 : decode cX2_makeEmpty 10 = .ok (.aload_n 0, 1) := by decide +kernel
theorem dX2_makeEmpty_11 : decode cX2_makeEmpty 11 = .ok (.iconst 0, 1) := by decide +kernel
theorem dX2_makeEmpty_12 : decode cX2_makeEmpty 12 = .ok (.putfield 46, 3) := by decide +kernel
theorem dX2_makeEmpty_15 : decode cX2_makeEmpty 15 = .ok (.return_, 1) := by decide +kernel
theorem dX2_copyFrom_0 : decode cX2_copyFrom 0 = .ok (.aload_n 0, 1) := by decide +kernel
theorem dX2_copyFrom_1 : decode cX2_copyFrom 1 = .ok (.aload_n 1, 1) := by decide +kernel
theorem dX2_copyFrom_2 : decode cX2_copyFrom 2 = .ok (.getfield 39, 3) := by decide +kernel
theorem dX2_copyFrom_5 : decode cX2_copyFrom 5 = .ok (.putfield 39, 3) := by decide +kernel
theorem dX2_copyFrom_8 : decode cX2_copyFrom 8 = .ok (.aload_n 0, 1) := by decide +kernel
theorem dX2_copyFrom_9 : decode cX2_copyFrom 9 = .ok (.aload_n 1, 1) := by decide +kernel
theorem dX2_copyFrom_10 : decode cX2_copyFrom 10 = .ok (.getfield 43, 3) := by decide +kernel
theorem dX2_copyFrom_13 : decode cX2_copyFrom 13 = .ok (.putfield 43, 3) := by decide +kernel
theorem dX2_copyFrom_16 : decode cX2_copyFrom 16 = .ok (.aload_n 0, 1) := by decide +kernel
theorem dX2_copyFrom_17 : decode cX2_copyFrom 17 = .ok (.aload_n 1, 1) := by decide +kernel
theorem dX2_copyFrom_18 : decode cX2_copyFrom 18 = .ok (.getfield 46, 3) := by decide +kernel
theorem dX2_copyFrom_21 : decode cX2_copyFrom 21 = .ok (.putfield 46, 3) := by decide +kernel
theorem dX2_copyFrom_24 : decode cX2_copyFrom 24 = .ok (.aload_n 1, 1) := by decide +kernel
theorem dX2_copyFrom_25 : decode cX2_copyFrom 25 = .ok (.getfield 9, 3) := by decide +kernel
theorem dX2_copyFrom_28 : decode cX2_copyFrom 28 = .ok (.iconst 0, 1) := by decide +kernel
theorem dX2_copyFrom_29 : decode cX2_copyFrom 29 = .ok (.aload_n 0, 1) := by decide +kernel
theorem dX2_copyFrom_30 : decode cX2_copyFrom 30 = .ok (.getfield 9, 3) := by decide +kernel
theorem dX2_copyFrom_33 : decode cX2_copyFrom 33 = .ok (.iconst 0, 1) := by decide +kernel
theorem dX2_copyFrom_34 : decode cX2_copyFrom 34 = .ok (.bipush 10, 2) := by decide +kernel
theorem dX2_copyFrom_36 : decode cX2_copyFrom 36 = .ok (.invokestatic 49, 3) := by decide +kernel
theorem dX2_copyFrom_39 : decode cX2_copyFrom 39 = .ok (.aload_n 1, 1) := by decide +kernel
theorem dX2_copyFrom_40 : decode cX2_copyFrom 40 = .ok (.getfield 15, 3) := by decide +kernel
theorem dX2_copyFrom_43 : decode cX2_copyFrom 43 = .ok (.iconst 0, 1) := by decide +kernel
theorem dX2_copyFrom_44 : decode cX2_copyFrom 44 = .ok (.aload_n 0, 1) := by decide +kernel
theorem dX2_copyFrom_45 : decode cX2_copyFrom 45 = .ok (.getfield 15, 3) := by decide +kernel
theorem dX2_copyFrom_48 : decode cX2_copyFrom 48 = .ok (.iconst 0, 1) := by decide +kernel
theorem dX2_copyFrom_49 : decode cX2_copyFrom 49 = .ok (.bipush 8, 2) := by decide +kernel
theorem dX2_copyFrom_51 : decode cX2_copyFrom 51 = .ok (.invokestatic 49, 3) := by decide +kernel
theorem dX2_copyFrom_54 : decode cX2_copyFrom 54 = .ok (.aload_n 1, 1) := by decide +kernel
theorem dX2_copyFrom_55 : decode cX2_copyFrom 55 = .ok (.getfield 18, 3) := by decide +kernel
theorem dX2_copyFrom_58 : decode cX2_copyFrom 58 = .ok (.iconst 0, 1) := by decide +kernel
theorem dX2_copyFrom_59 : decode cX2_copyFrom 59 = .ok (.aload_n 0, 1) := by decide +kernel
theorem dX2_copyFrom_60 : decode cX2_copyFrom 60 = .ok (.getfield 18, 3) := by decide +kernel
theorem dX2_copyFrom_63 : decode cX2_copyFrom 63 = .ok (.iconst 0, 1) := by decide +kernel
theorem dX2_copyFrom_64 : decode cX2_copyFrom 64 = .ok (.bipush 8, 2) := by decide +kernel
theorem dX2_copyFrom_66 : decode cX2_copyFrom 66 = .ok (.invokestatic 49, 3) := by decide +kernel
theorem dX2_copyFrom_69 : decode cX2_copyFrom 69 = .ok (.aload_n 1, 1) := by decide +kernel
theorem dX2_copyFrom_70 : decode cX2_copyFrom 70 = .ok (.getfield 21, 3) := by decide +kernel
theorem dX2_copyFrom_73 : decode cX2_copyFrom 73 = .ok (.iconst 0, 1) := by decide +kernel
theorem dX2_copyFrom_74 : decode cX2_copyFrom 74 = .ok (.aload_n 0, 1) := by decide +kernel
theorem dX2_copyFrom_75 : decode cX2_copyFrom 75 = .ok (.getfield 21, 3) := by decide +kernel
theorem dX2_copyFrom_78 : decode cX2_copyFrom 78 = .ok (.iconst 0, 1) := by decide +kernel
theorem dX2_copyFrom_79 : decode cX2_copyFrom 79 = .ok (.bipush 8, 2) := by decide +kernel
theorem dX2_copyFrom_81 : decode cX2_copyFrom 81 = .ok (.invokestatic 49, 3) := by decide +kernel
theorem dX2_copyFrom_84 : decode cX2_copyFrom 84 = .ok (.aload_n 1, 1) := by decide +kernel
theorem dX2_copyFrom_85 : decode cX2_copyFrom 85 = .ok (.getfield 24, 3) := by decide +kernel
theorem dX2_copyFrom_88 : decode cX2_copyFrom 88 = .ok (.iconst 0, 1) := by decide +kernel
theorem dX2_copyFrom_89 : decode cX2_copyFrom 89 = .ok (.aload_n 0, 1) := by decide +kernel
theorem dX2_copyFrom_90 : decode cX2_copyFrom 90 = .ok (.getfield 24, 3) := by decide +kernel
theorem dX2_copyFrom_93 : decode cX2_copyFrom 93 = .ok (.iconst 0, 1) := by decide +kernel
theorem dX2_copyFrom_94 : decode cX2_copyFrom 94 = .ok (.bipush 8, 2) := by decide +kernel
theorem dX2_copyFrom_96 : decode cX2_copyFrom 96 = .ok (.invokestatic 49, 3) := by decide +kernel
theorem dX2_copyFrom_99 : decode cX2_copyFrom 99 = .ok (.aload_n 1, 1) := by decide +kernel
theorem dX2_copyFrom_100 : decode cX2_copyFrom 100 = .ok (.getfield 27, 3) := by decide +kernel
theorem dX2_copyFrom_103 : decode cX2_copyFrom 103 = .ok (.iconst 0, 1) := by decide +kernel
theorem dX2_copyFrom_104 : decode cX2_copyFrom 104 = .ok (.aload_n 0, 1) := by decide +kernel
theorem dX2_copyFrom_105 : decode cX2_copyFrom 105 = .ok (.getfield 27, 3) := by decide +kernel
theorem dX2_copyFrom_108 : decode cX2_copyFrom 108 = .ok (.iconst 0, 1) := by decide +kernel
theorem dX2_copyFrom_109 : decode cX2_copyFrom 109 = .ok (.bipush 20, 2) := by decide +kernel
theorem dX2_copyFrom_111 : decode cX2_copyFrom 111 = .ok (.invokestatic 49, 3) := by decide +kernel
theorem dX2_copyFrom_114 : decode cX2_copyFrom 114 = .ok (.aload_n 1, 1) := by decide +kernel
theorem dX2_copyFrom_115 : decode cX2_copyFrom 115 = .ok (.getfield 30, 3) := by decide +kernel
theorem dX2_copyFrom_118 : decode cX2_copyFrom 118 = .ok (.iconst 0, 1) := by decide +kernel
theorem dX2_copyFrom_119 : decode cX2_copyFrom 119 = .ok (.aload_n 0, 1) := by decide +kernel
theorem dX2_copyFrom_120 : decode cX2_copyFrom 120 = .ok (.getfield 30, 3) := by decide +kernel
theorem dX2_copyFrom_123 : decode cX2_copyFrom 123 = .ok (.iconst 0, 1) := by decide +kernel
theorem dX2_copyFrom_124 : decode cX2_copyFrom 124 = .ok (.bipush 20, 2) := by decide +kernel
theorem dX2_copyFrom_126 : decode cX2_copyFrom 126 = .ok (.invokestatic 49, 3) := by decide +kernel
theorem dX2_copyFrom_129 : decode cX2_copyFrom 129 = .ok (.aload_n 1, 1) := by decide +kernel
theorem dX2_copyFrom_130 : decode cX2_copyFrom 130 = .ok (.getfield 33, 3) := by decide +kernel
theorem dX2_copyFrom_133 : decode cX2_copyFrom 133 = .ok (.iconst 0, 1) := by decide +kernel
theorem dX2_copyFrom_134 : decode cX2_copyFrom 134 = .ok (.aload_n 0, 1) := by decide +kernel
theorem dX2_copyFrom_135 : decode cX2_copyFrom 135 = .ok (.getfield 33, 3) := by decide +kernel
theorem dX2_copyFrom_138 : decode cX2_copyFrom 138 = .ok (.iconst 0, 1) := by decide +kernel
theorem dX2_copyFrom_139 : decode cX2_copyFrom 139 = .ok (.bipush 20, 2) := by decide +kernel
theorem dX2_copyFrom_141 : decode cX2_copyFrom 141 = .ok (.invokestatic 49, 3) := by decide +kernel
theorem dX2_copyFrom_144 : decode cX2_copyFrom 144 = .ok (.aload_n 1, 1) := by decide +kernel
theorem dX2_copyFrom_145 : decode cX2_copyFrom 145 = .ok (.getfield 36, 3) := by decide +kernel
theorem dX2_copyFrom_148 : decode cX2_copyFrom 148 = .ok (.iconst 0, 1) := by decide +kernel
theorem dX2_copyFrom_149 : decode cX2_copyFrom 149 = .ok (.aload_n 0, 1) := by decide +kernel
theorem dX2_copyFrom_150 : decode cX2_copyFrom 150 = .ok (.getfield 36, 3) := by decide +kernel
theorem dX2_copyFrom_153 : decode cX2_copyFrom 153 = .ok (.iconst 0, 1) := by decide +kernel
theorem dX2_copyFrom_154 : decode cX2_copyFrom 154 = .ok (.bipush 20, 2) := by decide +kernel
theorem dX2_copyFrom_156 : decode cX2_copyFrom 156 = .ok (.invokestatic 49, 3) := by decide +kernel
theorem dX2_copyFrom_159 : decode cX2_copyFrom 159 = .ok (.return_, 1) := by decide +kernel
theorem dX2_hasScene_0 : decode cX2_hasScene 0 = .ok (.iload_n 1, 1) := by decide +kernel
theorem dX2_hasScene_1 : decode cX2_hasScene 1 = .ok (.ifCond .lt 15, 3) := by decide +kernel
theorem dX2_hasScene_4 : decode cX2_hasScene 4 = .ok (.iload_n 1, 1) := by decide +kernel
theorem dX2_hasScene_5 : decode cX2_hasScene 5 = .ok (.aload_n 0, 1) := by decide +kernel
theorem dX2_hasScene_6 : decode cX2_hasScene 6 = .ok (.getfield 39, 3) := by decide +kernel
theorem dX2_hasScene_9 : decode cX2_hasScene 9 = .ok (.if_icmp .ge 7, 3) := by decide +kernel
theorem dX2_hasScene_12 : decode cX2_hasScene 12 = .ok (.iconst 1, 1) := by decide +kernel
theorem dX2_hasScene_13 : decode cX2_hasScene 13 = .ok (.goto 4, 3) := by decide +kernel
theorem dX2_hasScene_16 : decode cX2_hasScene 16 = .ok (.iconst 0, 1) := by decide +kernel
theorem dX2_hasScene_17 : decode cX2_hasScene 17 = .ok (.ireturn, 1) := by decide +kernel
theorem dX2_hasRole_0 : decode cX2_hasRole 0 = .ok (.iload_n 1, 1) := by decide +kernel
theorem dX2_hasRole_1 : decode cX2_hasRole 1 = .ok (.ifCond .lt 15, 3) := by decide +kernel
theorem dX2_hasRole_4 : decode cX2_hasRole 4 = .ok (.iload_n 1, 1) := by decide +kernel
theorem dX2_hasRole_5 : decode cX2_hasRole 5 = .ok (.aload_n 0, 1) := by decide +kernel
theorem dX2_hasRole_6 : decode cX2_hasRole 6 = .ok (.getfield 43, 3) := by decide +kernel
theorem dX2_hasRole_9 : decode cX2_hasRole 9 = .ok (.if_icmp .ge 7, 3) := by decide +kernel
theorem dX2_hasRole_12 : decode cX2_hasRole 12 = .ok (.iconst 1, 1) := by decide +kernel
theorem dX2_hasRole_13 : decode cX2_hasRole 13 = .ok (.goto 4, 3) := by decide +kernel
theorem dX2_hasRole_16 : decode cX2_hasRole 16 = .ok (.iconst 0, 1) := by decide +kernel
theorem dX2_hasRole_17 : decode cX2_hasRole 17 = .ok (.ireturn, 1) := by decide +kernel
set_option maxRecDepth 20000 in
theorem ggX2_admits_X2_hasRole : GoodIn wsX2_admits wsX2_hasRole := goodIn_r _ [6, 7, 13, 14, 15, 16, 17, 18, 19, 20, 21, 22, 23, 24] (by decide +kernel) (by decide +kernel)
set_option maxRecDepth 20000 in
theorem gX2_admits_X2_hasRole : GoodIn wsX2_admits (wsV RX2 55 RX2 yX2_hasRole wsX2_hasRole) := goodIn_app (goodIn_of _ (by decide +kernel)) ggX2_admits_X2_hasRole
set_option maxRecDepth 20000 in
theorem ggX2_admits_X2_hasScene : GoodIn wsX2_admits wsX2_hasScene := goodIn_r _ [11, 12, 13, 14, 15, 16, 17, 18, 19, 20, 21, 22, 23, 24] (by decide +kernel) (by decide +kernel)
set_option maxRecDepth 20000 in
theorem gX2_admits_X2_hasScene : GoodIn wsX2_admits (wsV RX2 59 RX2 yX2_hasScene wsX2_hasScene) := goodIn_app (goodIn_of _ (by decide +kernel)) ggX2_admits_X2_hasScene
theorem dX2_admits_0 : decode cX2_admits 0 = .ok (.aload_n 0, 1) := by decide +kernel
theorem dX2_admits_1 : decode cX2_admits 1 = .ok (.iload_n 1, 1) := by decide +kernel
theorem dX2_admits_2 : decode cX2_admits 2 = .ok (.invokevirtual 55, 3) := by decide +kernel
theorem dX2_admits_5 : decode cX2_admits 5 = .ok (.ifCond .eq 36, 3) := by decide +kernel
theorem dX2_admits_8 : decode cX2_admits 8 = .ok (.aload_n 0, 1) := by decide +kernel
theorem dX2_admits_9 : decode cX2_admits 9 = .ok (.iload_n 2, 1) := by decide +kernel
theorem dX2_admits_10 : decode cX2_admits 10 = .ok (.invokevirtual 59, 3) := by decide +kernel
theorem dX2_admits_13 : decode cX2_admits 13 = .ok (.ifCond .eq 28, 3) := by decide +kernel
theorem dX2_admits_16 : decode cX2_admits 16 = .ok (.iload_n 3, 1) := by decide +kernel
theorem dX2_admits_17 : decode cX2_admits 17 = .ok (.ifCond .lt 24, 3) := by decide +kernel
theorem dX2_admits_20 : decode cX2_admits 20 = .ok (.iload_n 3, 1) := by decide +kernel
theorem dX2_admits_21 : decode cX2_admits 21 = .ok (.iload 4, 2) := by decide +kernel
theorem dX2_admits_23 : decode cX2_admits 23 = .ok (.if_icmp .ge 18, 3) := by decide +kernel
theorem dX2_admits_26 : decode cX2_admits 26 = .ok (.iload 4, 2) := by decide +kernel
theorem dX2_admits_28 : decode cX2_admits 28 = .ok (.aload_n 0, 1) := by decide +kernel
theorem dX2_admits_29 : decode cX2_admits 29 = .ok (.getfield 9, 3) := by decide +kernel
theorem dX2_admits_32 : decode cX2_admits 32 = .ok (.iload_n 2, 1) := by decide +kernel
theorem dX2_admits_33 : decode cX2_admits 33 = .ok (.iaload, 1) := by decide +kernel
theorem dX2_admits_34 : decode cX2_admits 34 = .ok (.if_icmp .gt 7, 3) := by decide +kernel
theorem dX2_admits_37 : decode cX2_admits 37 = .ok (.iconst 1, 1) := by decide +kernel
theorem dX2_admits_38 : decode cX2_admits 38 = .ok (.goto 4, 3) := by decide +kernel
theorem dX2_admits_41 : decode cX2_admits 41 = .ok (.iconst 0, 1) := by decide +kernel
theorem dX2_admits_42 : decode cX2_admits 42 = .ok (.ireturn, 1) := by decide +kernel
theorem dX2_startOf_0 : decode cX2_startOf 0 = .ok (.iconst 0, 1) := by decide +kernel
theorem dX2_startOf_1 : decode cX2_startOf 1 = .ok (.istore_n 2, 1) := by decide +kernel
theorem dX2_startOf_2 : decode cX2_startOf 2 = .ok (.iconst 0, 1) := by decide +kernel
theorem dX2_startOf_3 : decode cX2_startOf 3 = .ok (.istore_n 3, 1) := by decide +kernel
theorem dX2_startOf_4 : decode cX2_startOf 4 = .ok (.iload_n 3, 1) := by decide +kernel
theorem dX2_startOf_5 : decode cX2_startOf 5 = .ok (.iload_n 1, 1) := by decide +kernel
theorem dX2_startOf_6 : decode cX2_startOf 6 = .ok (.if_icmp .ge 26, 3) := by decide +kernel
theorem dX2_startOf_9 : decode cX2_startOf 9 = .ok (.iload_n 3, 1) := by decide +kernel
theorem dX2_startOf_10 : decode cX2_startOf 10 = .ok (.aload_n 0, 1) := by decide +kernel
theorem dX2_startOf_11 : decode cX2_startOf 11 = .ok (.getfield 39, 3) := by decide +kernel
theorem dX2_startOf_14 : decode cX2_startOf 14 = .ok (.if_icmp .ge 18, 3) := by decide +kernel
theorem dX2_startOf_17 : decode cX2_startOf 17 = .ok (.iload_n 2, 1) := by decide +kernel
theorem dX2_startOf_18 : decode cX2_startOf 18 = .ok (.aload_n 0, 1) := by decide +kernel
theorem dX2_startOf_19 : decode cX2_startOf 19 = .ok (.getfield 9, 3) := by decide +kernel
theorem dX2_startOf_22 : decode cX2_startOf 22 = .ok (.iload_n 3, 1) := by decide +kernel
theorem dX2_startOf_23 : decode cX2_startOf 23 = .ok (.iaload, 1) := by decide +kernel
theorem dX2_startOf_24 : decode cX2_startOf 24 = .ok (.iadd, 1) := by decide +kernel
theorem dX2_startOf_25 : decode cX2_startOf 25 = .ok (.istore_n 2, 1) := by decide +kernel
theorem dX2_startOf_26 : decode cX2_startOf 26 = .ok (.iinc 3 1, 3) := by decide +kernel
theorem dX2_startOf_29 : decode cX2_startOf 29 = .ok (.goto (-25), 3) := by decide +kernel
theorem dX2_startOf_32 : decode cX2_startOf 32 = .ok (.iload_n 2, 1) := by decide +kernel
theorem dX2_startOf_33 : decode cX2_startOf 33 = .ok (.ireturn, 1) := by decide +kernel
theorem dX2_stateScene_0 : decode cX2_stateScene 0 = .ok (.iload_n 1, 1) := by decide +kernel
theorem dX2_stateScene_1 : decode cX2_stateScene 1 = .ok (.iconst 1, 1) := by decide +kernel
theorem dX2_stateScene_2 : decode cX2_stateScene 2 = .ok (.if_icmp .lt 9, 3) := by decide +kernel
theorem dX2_stateScene_5 : decode cX2_stateScene 5 = .ok (.iload_n 1, 1) := by decide +kernel
theorem dX2_stateScene_6 : decode cX2_stateScene 6 = .ok (.bipush 99, 2) := by decide +kernel
theorem dX2_stateScene_8 : decode cX2_stateScene 8 = .ok (.if_icmp .le 5, 3) := by decide +kernel
theorem dX2_stateScene_11 : decode cX2_stateScene 11 = .ok (.iconst 3, 1) := by decide +kernel
theorem dX2_stateScene_12 : decode cX2_stateScene 12 = .ok (.ireturn, 1) := by decide +kernel
theorem dX2_stateScene_13 : decode cX2_stateScene 13 = .ok (.aload_n 0, 1) := by decide +kernel
theorem dX2_stateScene_14 : decode cX2_stateScene 14 = .ok (.getfield 39, 3) := by decide +kernel
theorem dX2_stateScene_17 : decode cX2_stateScene 17 = .ok (.bipush 10, 2) := by decide +kernel
theorem dX2_stateScene_19 : decode cX2_stateScene 19 = .ok (.if_icmp .lt 5, 3) := by decide +kernel
theorem dX2_stateScene_22 : decode cX2_stateScene 22 = .ok (.iconst 4, 1) := by decide +kernel
theorem dX2_stateScene_23 : decode cX2_stateScene 23 = .ok (.ireturn, 1) := by decide +kernel
theorem dX2_stateScene_24 : decode cX2_stateScene 24 = .ok (.aload_n 0, 1) := by decide +kernel
theorem dX2_stateScene_25 : decode cX2_stateScene 25 = .ok (.getfield 9, 3) := by decide +kernel
theorem dX2_stateScene_28 : decode cX2_stateScene 28 = .ok (.aload_n 0, 1) := by decide +kernel
theorem dX2_stateScene_29 : decode cX2_stateScene 29 = .ok (.getfield 39, 3) := by decide +kernel
theorem dX2_stateScene_32 : decode cX2_stateScene 32 = .ok (.iload_n 1, 1) := by decide +kernel
theorem dX2_stateScene_33 : decode cX2_stateScene 33 = .ok (.iastore, 1) := by decide +kernel
theorem dX2_stateScene_34 : decode cX2_stateScene 34 = .ok (.aload_n 0, 1) := by decide +kernel
theorem dX2_stateScene_35 : decode cX2_stateScene 35 = .ok (.dup, 1) := by decide +kernel
theorem dX2_stateScene_36 : decode cX2_stateScene 36 = .ok (.getfield 39, 3) := by decide +kernel
theorem dX2_stateScene_39 : decode cX2_stateScene 39 = .ok (.iconst 1, 1) := by decide +kernel
theorem dX2_stateScene_40 : decode cX2_stateScene 40 = .ok (.iadd, 1) := by decide +kernel
theorem dX2_stateScene_41 : decode cX2_stateScene 41 = .ok (.putfield 39, 3) := by decide +kernel
theorem dX2_stateScene_44 : decode cX2_stateScene 44 = .ok (.iconst 0, 1) := by decide +kernel
theorem dX2_stateScene_45 : decode cX2_stateScene 45 = .ok (.ireturn, 1) := by decide +kernel
set_option maxRecDepth 20000 in
theorem ggX2_stateRole_X5_isCostumeTime : GoodIn wsX2_stateRole wsX5_isCostumeTime := goodIn_r _ [8] (by decide +kernel) (by decide +kernel)
set_option maxRecDepth 20000 in
theorem gX2_stateRole_X5_isCostumeTime_n62 : GoodIn wsX2_stateRole (wsX5_isCostumeTime) := ggX2_stateRole_X5_isCostumeTime
theorem dX2_stateRole_0 : decode cX2_stateRole 0 = .ok (.iload_n 2, 1) := by decide +kernel
theorem dX2_stateRole_1 : decode cX2_stateRole 1 = .ok (.invokestatic 62, 3) := by decide +kernel
theorem dX2_stateRole_4 : decode cX2_stateRole 4 = .ok (.ifCond .eq 10, 3) := by decide +kernel
theorem dX2_stateRole_7 : decode cX2_stateRole 7 = .ok (.iload_n 3, 1) := by decide +kernel
theorem dX2_stateRole_8 : decode cX2_stateRole 8 = .ok (.invokestatic 62, 3) := by decide +kernel
theorem dX2_stateRole_11 : decode cX2_stateRole 11 = .ok (.ifCond .ne 5, 3) := by decide +kernel
theorem dX2_stateRole_14 : decode cX2_stateRole 14 = .ok (.iconst 3, 1) := by decide +kernel
theorem dX2_stateRole_15 : decode cX2_stateRole 15 = .ok (.ireturn, 1) := by decide +kernel
theorem dX2_stateRole_16 : decode cX2_stateRole 16 = .ok (.aload_n 0, 1) := by decide +kernel
theorem dX2_stateRole_17 : decode cX2_stateRole 17 = .ok (.getfield 43, 3) := by decide +kernel
theorem dX2_stateRole_20 : decode cX2_stateRole 20 = .ok (.bipush 8, 2) := by decide +kernel
theorem dX2_stateRole_22 : decode cX2_stateRole 22 = .ok (.if_icmp .lt 5, 3) := by decide +kernel
theorem dX2_stateRole_25 : decode cX2_stateRole 25 = .ok (.iconst 4, 1) := by decide +kernel
theorem dX2_stateRole_26 : decode cX2_stateRole 26 = .ok (.ireturn, 1) := by decide +kernel
theorem dX2_stateRole_27 : decode cX2_stateRole 27 = .ok (.aload_n 0, 1) := by decide +kernel
theorem dX2_stateRole_28 : decode cX2_stateRole 28 = .ok (.getfield 15, 3) := by decide +kernel
theorem dX2_stateRole_31 : decode cX2_stateRole 31 = .ok (.aload_n 0, 1) := by decide +kernel
theorem dX2_stateRole_32 : decode cX2_stateRole 32 = .ok (.getfield 43, 3) := by decide +kernel
theorem dX2_stateRole_35 : decode cX2_stateRole 35 = .ok (.iload_n 1, 1) := by decide +kernel
theorem dX2_stateRole_36 : decode cX2_stateRole 36 = .ok (.iastore, 1) := by decide +kernel
theorem dX2_stateRole_37 : decode cX2_stateRole 37 = .ok (.aload_n 0, 1) := by decide +kernel
theorem dX2_stateRole_38 : decode cX2_stateRole 38 = .ok (.getfield 18, 3) := by decide +kernel
theorem dX2_stateRole_41 : decode cX2_stateRole 41 = .ok (.aload_n 0, 1) := by decide +kernel
theorem dX2_stateRole_42 : decode cX2_stateRole 42 = .ok (.getfield 43, 3) := by decide +kernel
theorem dX2_stateRole_45 : decode cX2_stateRole 45 = .ok (.iload_n 2, 1) := by decide +kernel
theorem dX2_stateRole_46 : decode cX2_stateRole 46 = .ok (.iastore, 1) := by decide +kernel
theorem dX2_stateRole_47 : decode cX2_stateRole 47 = .ok (.aload_n 0, 1) := by decide +kernel
theorem dX2_stateRole_48 : decode cX2_stateRole 48 = .ok (.getfield 21, 3) := by decide +kernel
theorem dX2_stateRole_51 : decode cX2_stateRole 51 = .ok (.aload_n 0, 1) := by decide +kernel
theorem dX2_stateRole_52 : decode cX2_stateRole 52 = .ok (.getfield 43, 3) := by decide +kernel
theorem dX2_stateRole_55 : decode cX2_stateRole 55 = .ok (.iload_n 3, 1) := by decide +kernel
theorem dX2_stateRole_56 : decode cX2_stateRole 56 = .ok (.iastore, 1) := by decide +kernel
theorem dX2_stateRole_57 : decode cX2_stateRole 57 = .ok (.aload_n 0, 1) := by decide +kernel
theorem dX2_stateRole_58 : decode cX2_stateRole 58 = .ok (.getfield 24, 3) := by decide +kernel
theorem dX2_stateRole_61 : decode cX2_stateRole 61 = .ok (.aload_n 0, 1) := by decide +kernel
theorem dX2_stateRole_62 : decode cX2_stateRole 62 = .ok (.getfield 43, 3) := by decide +kernel
theorem dX2_stateRole_65 : decode cX2_stateRole 65 = .ok (.iconst (-1), 1) := by decide +kernel
theorem dX2_stateRole_66 : decode cX2_stateRole 66 = .ok (.iastore, 1) := by decide +kernel
theorem dX2_stateRole_67 : decode cX2_stateRole 67 = .ok (.aload_n 0, 1) := by decide +kernel
theorem dX2_stateRole_68 : decode cX2_stateRole 68 = .ok (.dup, 1) := by decide +kernel
theorem dX2_stateRole_69 : decode cX2_stateRole 69 = .ok (.getfield 43, 3) := by decide +kernel
theorem dX2_stateRole_72 : decode cX2_stateRole 72 = .ok (.iconst 1, 1) := by decide +kernel
theorem dX2_stateRole_73 : decode cX2_stateRole 73 = .ok (.iadd, 1) := by decide +kernel
theorem dX2_stateRole_74 : decode cX2_stateRole 74 = .ok (.putfield 43, 3) := by decide +kernel
theorem dX2_stateRole_77 : decode cX2_stateRole 77 = .ok (.iconst 0, 1) := by decide +kernel
theorem dX2_stateRole_78 : decode cX2_stateRole 78 = .ok (.ireturn, 1) := by decide +kernel
set_option maxRecDepth 20000 in
theorem ggX2_stateAppearance_X2_admits : GoodIn wsX2_stateAppearance wsX2_admits := goodIn_r _ [6, 7, 8, 9, 10, 5, 11, 12, 13, 14, 15, 16, 17, 30, 31, 32, 33, 34, 35, 36, 37, 38, 39, 40, 41] (by decide +kernel) (by decide +kernel)
set_option maxRecDepth 20000 in
theorem gX2_stateAppearance_X2_admits : GoodIn wsX2_stateAppearance (wsV RX2 65 RX2 yX2_admits wsX2_admits) := goodIn_app (goodIn_of _ (by decide +kernel)) ggX2_stateAppearance_X2_admits
set_option maxRecDepth 20000 in
theorem ggX2_stateAppearance_X2_putAppearance : GoodIn wsX2_stateAppearance wsX2_putAppearance := goodIn_r _ [21, 22, 1, 23, 24, 25, 26, 27, 28, 5, 29, 17, 7, 30, 31, 32, 33, 34, 35, 36, 37, 38, 39, 40, 41] (by decide +kernel) (by decide +kernel)
set_option maxRecDepth 20000 in
theorem gX2_stateAppearance_X2_putAppearance : GoodIn wsX2_stateAppearance (wsV RX2 69 RX2 yX2_putAppearance wsX2_putAppearance) := goodIn_app (goodIn_of _ (by decide +kernel)) ggX2_stateAppearance_X2_putAppearance
theorem dX2_stateAppearance_0 : decode cX2_stateAppearance 0 = .ok (.aload_n 0, 1) := by decide +kernel
theorem dX2_stateAppearance_1 : decode cX2_stateAppearance 1 = .ok (.iload_n 1, 1) := by decide +kernel
theorem dX2_stateAppearance_2 : decode cX2_stateAppearance 2 = .ok (.iload_n 2, 1) := by decide +kernel
theorem dX2_stateAppearance_3 : decode cX2_stateAppearance 3 = .ok (.iload_n 3, 1) := by decide +kernel
theorem dX2_stateAppearance_4 : decode cX2_stateAppearance 4 = .ok (.iload 4, 2) := by decide +kernel
theorem dX2_stateAppearance_6 : decode cX2_stateAppearance 6 = .ok (.invokevirtual 65, 3) := by decide +kernel
theorem dX2_stateAppearance_9 : decode cX2_stateAppearance 9 = .ok (.ifCond .ne 5, 3) := by decide +kernel
theorem dX2_stateAppearance_12 : decode cX2_stateAppearance 12 = .ok (.iconst 3, 1) := by decide +kernel
theorem dX2_stateAppearance_13 : decode cX2_stateAppearance 13 = .ok (.ireturn, 1) := by decide +kernel
theorem dX2_stateAppearance_14 : decode cX2_stateAppearance 14 = .ok (.aload_n 0, 1) := by decide +kernel
theorem dX2_stateAppearance_15 : decode cX2_stateAppearance 15 = .ok (.getfield 46, 3) := by decide +kernel
theorem dX2_stateAppearance_18 : decode cX2_stateAppearance 18 = .ok (.bipush 20, 2) := by decide +kernel
theorem dX2_stateAppearance_20 : decode cX2_stateAppearance 20 = .ok (.if_icmp .lt 5, 3) := by decide +kernel
theorem dX2_stateAppearance_23 : decode cX2_stateAppearance 23 = .ok (.iconst 4, 1) := by decide +kernel
theorem dX2_stateAppearance_24 : decode cX2_stateAppearance 24 = .ok (.ireturn, 1) := by decide +kernel
theorem dX2_stateAppearance_25 : decode cX2_stateAppearance 25 = .ok (.aload_n 0, 1) := by decide +kernel
theorem dX2_stateAppearance_26 : decode cX2_stateAppearance 26 = .ok (.iload_n 1, 1) := by decide +kernel
theorem dX2_stateAppearance_27 : decode cX2_stateAppearance 27 = .ok (.iload_n 2, 1) := by decide +kernel
theorem dX2_stateAppearance_28 : decode cX2_stateAppearance 28 = .ok (.iload_n 3, 1) := by decide +kernel
theorem dX2_stateAppearance_29 : decode cX2_stateAppearance 29 = .ok (.iload 4, 2) := by decide +kernel
theorem dX2_stateAppearance_31 : decode cX2_stateAppearance 31 = .ok (.invokevirtual 69, 3) := by decide +kernel
theorem dX2_stateAppearance_34 : decode cX2_stateAppearance 34 = .ok (.iconst 0, 1) := by decide +kernel
theorem dX2_stateAppearance_35 : decode cX2_stateAppearance 35 = .ok (.ireturn, 1) := by decide +kernel
set_option maxRecDepth 20000 in
theorem ggX2_putAppearance_X2_startOf : GoodIn wsX2_putAppearance wsX2_startOf := goodIn_r _ [10, 11, 12, 13, 14, 15, 16, 17, 18, 19, 20, 21, 22, 23, 24] (by decide +kernel) (by decide +kernel)
set_option maxRecDepth 20000 in
theorem gX2_putAppearance_X2_startOf : GoodIn wsX2_putAppearance (wsV RX2 73 RX2 yX2_startOf wsX2_startOf) := goodIn_app (goodIn_of _ (by decide +kernel)) ggX2_putAppearance_X2_startOf
theorem dX2_putAppearance_0 : decode cX2_putAppearance 0 = .ok (.aload_n 0, 1) := by decide +kernel
theorem dX2_putAppearance_1 : decode cX2_putAppearance 1 = .ok (.iload_n 2, 1) := by decide +kernel
theorem dX2_putAppearance_2 : decode cX2_putAppearance 2 = .ok (.invokevirtual 73, 3) := by decide +kernel
theorem dX2_putAppearance_5 : decode cX2_putAppearance 5 = .ok (.istore 5, 2) := by decide +kernel
theorem dX2_putAppearance_7 : decode cX2_putAppearance 7 = .ok (.aload_n 0, 1) := by decide +kernel
theorem dX2_putAppearance_8 : decode cX2_putAppearance 8 = .ok (.getfield 27, 3) := by decide +kernel
theorem dX2_putAppearance_11 : decode cX2_putAppearance 11 = .ok (.aload_n 0, 1) := by decide +kernel
theorem dX2_putAppearance_12 : decode cX2_putAppearance 12 = .ok (.getfield 46, 3) := by decide +kernel
theorem dX2_putAppearance_15 : decode cX2_putAppearance 15 = .ok (.iload_n 1, 1) := by decide +kernel
theorem dX2_putAppearance_16 : decode cX2_putAppearance 16 = .ok (.iastore, 1) := by decide +kernel
theorem dX2_putAppearance_17 : decode cX2_putAppearance 17 = .ok (.aload_n 0, 1) := by decide +kernel
theorem dX2_putAppearance_18 : decode cX2_putAppearance 18 = .ok (.getfield 30, 3) := by decide +kernel
theorem dX2_putAppearance_21 : decode cX2_putAppearance 21 = .ok (.aload_n 0, 1) := by decide +kernel
theorem dX2_putAppearance_22 : decode cX2_putAppearance 22 = .ok (.getfield 46, 3) := by decide +kernel
theorem dX2_putAppearance_25 : decode cX2_putAppearance 25 = .ok (.iload_n 2, 1) := by decide +kernel
theorem dX2_putAppearance_26 : decode cX2_putAppearance 26 = .ok (.iastore, 1) := by decide +kernel
theorem dX2_putAppearance_27 : decode cX2_putAppearance 27 = .ok (.aload_n 0, 1) := by decide +kernel
theorem dX2_putAppearance_28 : decode cX2_putAppearance 28 = .ok (.getfield 33, 3) := by decide +kernel
theorem dX2_putAppearance_31 : decode cX2_putAppearance 31 = .ok (.aload_n 0, 1) := by decide +kernel
theorem dX2_putAppearance_32 : decode cX2_putAppearance 32 = .ok (.getfield 46, 3) := by decide +kernel
theorem dX2_putAppearance_35 : decode cX2_putAppearance 35 = .ok (.iload 5, 2) := by decide +kernel
theorem dX2_putAppearance_37 : decode cX2_putAppearance 37 = .ok (.iload_n 3, 1) := by decide +kernel
theorem dX2_putAppearance_38 : decode cX2_putAppearance 38 = .ok (.iadd, 1) := by decide +kernel
theorem dX2_putAppearance_39 : decode cX2_putAppearance 39 = .ok (.iastore, 1) := by decide +kernel
theorem dX2_putAppearance_40 : decode cX2_putAppearance 40 = .ok (.aload_n 0, 1) := by decide +kernel
theorem dX2_putAppearance_41 : decode cX2_putAppearance 41 = .ok (.getfield 36, 3) := by decide +kernel
theorem dX2_putAppearance_44 : decode cX2_putAppearance 44 = .ok (.aload_n 0, 1) := by decide +kernel
theorem dX2_putAppearance_45 : decode cX2_putAppearance 45 = .ok (.getfield 46, 3) := by decide +kernel
theorem dX2_putAppearance_48 : decode cX2_putAppearance 48 = .ok (.iload 5, 2) := by decide +kernel
theorem dX2_putAppearance_50 : decode cX2_putAppearance 50 = .ok (.iload 4, 2) := by decide +kernel
theorem dX2_putAppearance_52 : decode cX2_putAppearance 52 = .ok (.iadd, 1) := by decide +kernel
theorem dX2_putAppearance_53 : decode cX2_putAppearance 53 = .ok (.iastore, 1) := by decide +kernel
theorem dX2_putAppearance_54 : decode cX2_putAppearance 54 = .ok (.aload_n 0, 1) := by decide +kernel
theorem dX2_putAppearance_55 : decode cX2_putAppearance 55 = .ok (.dup, 1) := by decide +kernel
theorem dX2_putAppearance_56 : decode cX2_putAppearance 56 = .ok (.getfield 46, 3) := by decide +kernel
theorem dX2_putAppearance_59 : decode cX2_putAppearance 59 = .ok (.iconst 1, 1) := by decide +kernel
theorem dX2_putAppearance_60 : decode cX2_putAppearance 60 = .ok (.iadd, 1) := by decide +kernel
theorem dX2_putAppearance_61 : decode cX2_putAppearance 61 = .ok (.putfield 46, 3) := by decide +kernel
theorem dX2_putAppearance_64 : decode cX2_putAppearance 64 = .ok (.return_, 1) := by decide +kernel
theorem dX2_dropAppearance_0 : decode cX2_dropAppearance 0 = .ok (.aload_n 0, 1) := by decide +kernel
theorem dX2_dropAppearance_1 : decode cX2_dropAppearance 1 = .ok (.dup, 1) := by decide +kernel
theorem dX2_dropAppearance_2 : decode cX2_dropAppearance 2 = .ok (.getfield 46, 3) := by decide +kernel
theorem dX2_dropAppearance_5 : decode cX2_dropAppearance 5 = .ok (.iconst 1, 1) := by decide +kernel
theorem dX2_dropAppearance_6 : decode cX2_dropAppearance 6 = .ok (.isub, 1) := by decide +kernel
theorem dX2_dropAppearance_7 : decode cX2_dropAppearance 7 = .ok (.putfield 46, 3) := by decide +kernel
theorem dX2_dropAppearance_10 : decode cX2_dropAppearance 10 = .ok (.iload_n 1, 1) := by decide +kernel
theorem dX2_dropAppearance_11 : decode cX2_dropAppearance 11 = .ok (.istore_n 2, 1) := by decide +kernel
theorem dX2_dropAppearance_12 : decode cX2_dropAppearance 12 = .ok (.iload_n 2, 1) := by decide +kernel
theorem dX2_dropAppearance_13 : decode cX2_dropAppearance 13 = .ok (.aload_n 0, 1) := by decide +kernel
theorem dX2_dropAppearance_14 : decode cX2_dropAppearance 14 = .ok (.getfield 46, 3) := by decide +kernel
theorem dX2_dropAppearance_17 : decode cX2_dropAppearance 17 = .ok (.if_icmp .ge 65, 3) := by decide +kernel
theorem dX2_dropAppearance_20 : decode cX2_dropAppearance 20 = .ok (.aload_n 0, 1) := by decide +kernel
theorem dX2_dropAppearance_21 : decode cX2_dropAppearance 21 = .ok (.getfield 27, 3) := by decide +kernel
theorem dX2_dropAppearance_24 : decode cX2_dropAppearance 24 = .ok (.iload_n 2, 1) := by decide +kernel
theorem dX2_dropAppearance_25 : decode cX2_dropAppearance 25 = .ok (.aload_n 0, 1) := by decide +kernel
theorem dX2_dropAppearance_26 : decode cX2_dropAppearance 26 = .ok (.getfield 27, 3) := by decide +kernel
theorem dX2_dropAppearance_29 : decode cX2_dropAppearance 29 = .ok (.iload_n 2, 1) := by decide +kernel
theorem dX2_dropAppearance_30 : decode cX2_dropAppearance 30 = .ok (.iconst 1, 1) := by decide +kernel
theorem dX2_dropAppearance_31 : decode cX2_dropAppearance 31 = .ok (.iadd, 1) := by decide +kernel
theorem dX2_dropAppearance_32 : decode cX2_dropAppearance 32 = .ok (.iaload, 1) := by decide +kernel
theorem dX2_dropAppearance_33 : decode cX2_dropAppearance 33 = .ok (.iastore, 1) := by decide +kernel
theorem dX2_dropAppearance_34 : decode cX2_dropAppearance 34 = .ok (.aload_n 0, 1) := by decide +kernel
theorem dX2_dropAppearance_35 : decode cX2_dropAppearance 35 = .ok (.getfield 30, 3) := by decide +kernel
theorem dX2_dropAppearance_38 : decode cX2_dropAppearance 38 = .ok (.iload_n 2, 1) := by decide +kernel
theorem dX2_dropAppearance_39 : decode cX2_dropAppearance 39 = .ok (.aload_n 0, 1) := by decide +kernel
theorem dX2_dropAppearance_40 : decode cX2_dropAppearance 40 = .ok (.getfield 30, 3) := by decide +kernel
theorem dX2_dropAppearance_43 : decode cX2_dropAppearance 43 = .ok (.iload_n 2, 1) := by decide +kernel
theorem dX2_dropAppearance_44 : decode cX2_dropAppearance 44 = .ok (.iconst 1, 1) := by decide +kernel
theorem dX2_dropAppearance_45 : decode cX2_dropAppearance 45 = .ok (.iadd, 1) := by decide +kernel
theorem dX2_dropAppearance_46 : decode cX2_dropAppearance 46 = .ok (.iaload, 1) := by decide +kernel
theorem dX2_dropAppearance_47 : decode cX2_dropAppearance 47 = .ok (.iastore, 1) := by decide +kernel
theorem dX2_dropAppearance_48 : decode cX2_dropAppearance 48 = .ok (.aload_n 0, 1) := by decide +kernel
theorem dX2_dropAppearance_49 : decode cX2_dropAppearance 49 = .ok (.getfield 33, 3) := by decide +kernel
theorem dX2_dropAppearance_52 : decode cX2_dropAppearance 52 = .ok (.iload_n 2, 1) := by decide +kernel
theorem dX2_dropAppearance_53 : decode cX2_dropAppearance 53 = .ok (.aload_n 0, 1) := by decide +kernel
theorem dX2_dropAppearance_54 : decode cX2_dropAppearance 54 = .ok (.getfield 33, 3) := by decide +kernel
theorem dX2_dropAppearance_57 : decode cX2_dropAppearance 57 = .ok (.iload_n 2, 1) := by decide +kernel
theorem dX2_dropAppearance_58 : decode cX2_dropAppearance 58 = .ok (.iconst 1, 1) := by decide +kernel
theorem dX2_dropAppearance_59 : decode cX2_dropAppearance 59 = .ok (.iadd, 1) := by decide +kernel
theorem dX2_dropAppearance_60 : decode cX2_dropAppearance 60 = .ok (.iaload, 1) := by decide +kernel
theorem dX2_dropAppearance_61 : decode cX2_dropAppearance 61 = .ok (.iastore, 1) := by decide +kernel
theorem dX2_dropAppearance_62 : decode cX2_dropAppearance 62 = .ok (.aload_n 0, 1) := by decide +kernel
theorem dX2_dropAppearance_63 : decode cX2_dropAppearance 63 = .ok (.getfield 36, 3) := by decide +kernel
theorem dX2_dropAppearance_66 : decode cX2_dropAppearance 66 = .ok (.iload_n 2, 1) := by decide +kernel
theorem dX2_dropAppearance_67 : decode cX2_dropAppearance 67 = .ok (.aload_n 0, 1) := by decide +kernel
theorem dX2_dropAppearance_68 : decode cX2_dropAppearance 68 = .ok (.getfield 36, 3) := by decide +kernel
theorem dX2_dropAppearance_71 : decode cX2_dropAppearance 71 = .ok (.iload_n 2, 1) := by decide +kernel
theorem dX2_dropAppearance_72 : decode cX2_dropAppearance 72 = .ok (.iconst 1, 1) := by decide +kernel
theorem dX2_dropAppearance_73 : decode cX2_dropAppearance 73 = .ok (.iadd, 1) := by decide +kernel
theorem dX2_dropAppearance_74 : decode cX2_dropAppearance 74 = .ok (.iaload, 1) := by decide +kernel
theorem dX2_dropAppearance_75 : decode cX2_dropAppearance 75 = .ok (.iastore, 1) := by decide +kernel
theorem dX2_dropAppearance_76 : decode cX2_dropAppearance 76 = .ok (.iinc 2 1, 3) := by decide +kernel
theorem dX2_dropAppearance_79 : decode cX2_dropAppearance 79 = .ok (.goto (-67), 3) := by decide +kernel
theorem dX2_dropAppearance_82 : decode cX2_dropAppearance 82 = .ok (.return_, 1) := by decide +kernel
theorem dX2_rolesAt_0 : decode cX2_rolesAt 0 = .ok (.iconst 0, 1) := by decide +kernel
theorem dX2_rolesAt_1 : decode cX2_rolesAt 1 = .ok (.istore_n 2, 1) := by decide +kernel
theorem dX2_rolesAt_2 : decode cX2_rolesAt 2 = .ok (.iconst 0, 1) := by decide +kernel
theorem dX2_rolesAt_3 : decode cX2_rolesAt 3 = .ok (.istore_n 3, 1) := by decide +kernel
theorem dX2_rolesAt_4 : decode cX2_rolesAt 4 = .ok (.iload_n 3, 1) := by decide +kernel
theorem dX2_rolesAt_5 : decode cX2_rolesAt 5 = .ok (.aload_n 0, 1) := by decide +kernel
theorem dX2_rolesAt_6 : decode cX2_rolesAt 6 = .ok (.getfield 46, 3) := by decide +kernel
theorem dX2_rolesAt_9 : decode cX2_rolesAt 9 = .ok (.if_icmp .ge 40, 3) := by decide +kernel
theorem dX2_rolesAt_12 : decode cX2_rolesAt 12 = .ok (.aload_n 0, 1) := by decide +kernel
theorem dX2_rolesAt_13 : decode cX2_rolesAt 13 = .ok (.getfield 33, 3) := by decide +kernel
theorem dX2_rolesAt_16 : decode cX2_rolesAt 16 = .ok (.iload_n 3, 1) := by decide +kernel
theorem dX2_rolesAt_17 : decode cX2_rolesAt 17 = .ok (.iaload, 1) := by decide +kernel
theorem dX2_rolesAt_18 : decode cX2_rolesAt 18 = .ok (.iload_n 1, 1) := by decide +kernel
theorem dX2_rolesAt_19 : decode cX2_rolesAt 19 = .ok (.if_icmp .gt 24, 3) := by decide +kernel
theorem dX2_rolesAt_22 : decode cX2_rolesAt 22 = .ok (.iload_n 1, 1) := by decide +kernel
theorem dX2_rolesAt_23 : decode cX2_rolesAt 23 = .ok (.aload_n 0, 1) := by decide +kernel
theorem dX2_rolesAt_24 : decode cX2_rolesAt 24 = .ok (.getfield 36, 3) := by decide +kernel
theorem dX2_rolesAt_27 : decode cX2_rolesAt 27 = .ok (.iload_n 3, 1) := by decide +kernel
theorem dX2_rolesAt_28 : decode cX2_rolesAt 28 = .ok (.iaload, 1) := by decide +kernel
theorem dX2_rolesAt_29 : decode cX2_rolesAt 29 = .ok (.if_icmp .ge 14, 3) := by decide +kernel
theorem dX2_rolesAt_32 : decode cX2_rolesAt 32 = .ok (.iload_n 2, 1) := by decide +kernel
theorem dX2_rolesAt_33 : decode cX2_rolesAt 33 = .ok (.iconst 1, 1) := by decide +kernel
theorem dX2_rolesAt_34 : decode cX2_rolesAt 34 = .ok (.aload_n 0, 1) := by decide +kernel
theorem dX2_rolesAt_35 : decode cX2_rolesAt 35 = .ok (.getfield 27, 3) := by decide +kernel
theorem dX2_rolesAt_38 : decode cX2_rolesAt 38 = .ok (.iload_n 3, 1) := by decide +kernel
theorem dX2_rolesAt_39 : decode cX2_rolesAt 39 = .ok (.iaload, 1) := by decide +kernel
theorem dX2_rolesAt_40 : decode cX2_rolesAt 40 = .ok (.ishl, 1) := by decide +kernel
theorem dX2_rolesAt_41 : decode cX2_rolesAt 41 = .ok (.ior, 1) := by decide +kernel
theorem dX2_rolesAt_42 : decode cX2_rolesAt 42 = .ok (.istore_n 2, 1) := by decide +kernel
theorem dX2_rolesAt_43 : decode cX2_rolesAt 43 = .ok (.iinc 3 1, 3) := by decide +kernel
theorem dX2_rolesAt_46 : decode cX2_rolesAt 46 = .ok (.goto (-42), 3) := by decide +kernel
theorem dX2_rolesAt_49 : decode cX2_rolesAt 49 = .ok (.iload_n 2, 1) := by decide +kernel
theorem dX2_rolesAt_50 : decode cX2_rolesAt 50 = .ok (.ireturn, 1) := by decide +kernel
theorem dX2_rolesWith_0 : decode cX2_rolesWith 0 = .ok (.iconst 0, 1) := by decide +kernel
theorem dX2_rolesWith_1 : decode cX2_rolesWith 1 = .ok (.istore_n 2, 1) := by decide +kernel
theorem dX2_rolesWith_2 : decode cX2_rolesWith 2 = .ok (.iconst 0, 1) := by decide +kernel
theorem dX2_rolesWith_3 : decode cX2_rolesWith 3 = .ok (.istore_n 3, 1) := by decide +kernel
theorem dX2_rolesWith_4 : decode cX2_rolesWith 4 = .ok (.iload_n 3, 1) := by decide +kernel
theorem dX2_rolesWith_5 : decode cX2_rolesWith 5 = .ok (.aload_n 0, 1) := by decide +kernel
theorem dX2_rolesWith_6 : decode cX2_rolesWith 6 = .ok (.getfield 43, 3) := by decide +kernel
theorem dX2_rolesWith_9 : decode cX2_rolesWith 9 = .ok (.if_icmp .ge 25, 3) := by decide +kernel
theorem dX2_rolesWith_12 : decode cX2_rolesWith 12 = .ok (.aload_n 0, 1) := by decide +kernel
theorem dX2_rolesWith_13 : decode cX2_rolesWith 13 = .ok (.getfield 24, 3) := by decide +kernel
theorem dX2_rolesWith_16 : decode cX2_rolesWith 16 = .ok (.iload_n 3, 1) := by decide +kernel
theorem dX2_rolesWith_17 : decode cX2_rolesWith 17 = .ok (.iaload, 1) := by decide +kernel
theorem dX2_rolesWith_18 : decode cX2_rolesWith 18 = .ok (.iload_n 1, 1) := by decide +kernel
theorem dX2_rolesWith_19 : decode cX2_rolesWith 19 = .ok (.if_icmp .ne 9, 3) := by decide +kernel
theorem dX2_rolesWith_22 : decode cX2_rolesWith 22 = .ok (.iload_n 2, 1) := by decide +kernel
theorem dX2_rolesWith_23 : decode cX2_rolesWith 23 = .ok (.iconst 1, 1) := by decide +kernel
theorem dX2_rolesWith_24 : decode cX2_rolesWith 24 = .ok (.iload_n 3, 1) := by decide +kernel
theorem dX2_rolesWith_25 : decode cX2_rolesWith 25 = .ok (.ishl, 1) := by decide +kernel
theorem dX2_rolesWith_26 : decode cX2_rolesWith 26 = .ok (.ior, 1) := by decide +kernel
theorem dX2_rolesWith_27 : decode cX2_rolesWith 27 = .ok (.istore_n 2, 1) := by decide +kernel
theorem dX2_rolesWith_28 : decode cX2_rolesWith 28 = .ok (.iinc 3 1, 3) := by decide +kernel
theorem dX2_rolesWith_31 : decode cX2_rolesWith 31 = .ok (.goto (-27), 3) := by decide +kernel
theorem dX2_rolesWith_34 : decode cX2_rolesWith 34 = .ok (.iload_n 2, 1) := by decide +kernel
theorem dX2_rolesWith_35 : decode cX2_rolesWith 35 = .ok (.ireturn, 1) := by decide +kernel
theorem dX3_init_0 : decode cX3_init 0 = .ok (.aload_n 0, 1) := by decide +kernel
theorem dX3_init_1 : decode cX3_init 1 = .ok (.invokespecial 3, 3) := by decide +kernel
theorem dX3_init_4 : decode cX3_init 4 = .ok (.aload_n 0, 1) := by decide +kernel
theorem dX3_init_5 : decode cX3_init 5 = .ok (.sipush 400, 3) := by decide +kernel
theorem dX3_init_8 : decode cX3_init 8 = .ok (.newarray .char, 2) := by decide +kernel
theorem dX3_init_10 : decode cX3_init 10 = .ok (.putfield 9, 3) := by decide +kernel
theorem dX3_init_13 : decode cX3_init 13 = .ok (.aload_n 0, 1) := by decide +kernel
theorem dX3_init_14 : decode cX3_init 14 = .ok (.iconst 4, 1) := by decide +kernel
theorem dX3_init_15 : decode cX3_init 15 = .ok (.newarray .int, 2) := by decide +kernel
theorem dX3_init_17 : decode cX3_init 17 = .ok (.putfield 15, 3) := by decide +kernel
theorem dX3_init_20 : decode cX3_init 20 = .ok (.return_, 1) := by decide +kernel
theorem dX3_put_0 : decode cX3_put 0 = .ok (.aload_n 0, 1) := by decide +kernel
theorem dX3_put_1 : decode cX3_put 1 = .ok (.getfield 19, 3) := by decide +kernel
theorem dX3_put_4 : decode cX3_put 4 = .ok (.sipush 400, 3) := by decide +kernel
theorem dX3_put_7 : decode cX3_put 7 = .ok (.if_icmp .ge 23, 3) := by decide +kernel
theorem dX3_put_10 : decode cX3_put 10 = .ok (.aload_n 0, 1) := by decide +kernel
theorem dX3_put_11 : decode cX3_put 11 = .ok (.getfield 9, 3) := by decide +kernel
theorem dX3_put_14 : decode cX3_put 14 = .ok (.aload_n 0, 1) := by decide +kernel
theorem dX3_put_15 : decode cX3_put 15 = .ok (.getfield 19, 3) := by decide +kernel
theorem dX3_put_18 : decode cX3_put 18 = .ok (.iload_n 1, 1) := by decide +kernel
theorem dX3_put_19 : decode cX3_put 19 = .ok (.castore, 1) := by decide +kernel
theorem dX3_put_20 : decode cX3_put 20 = .ok (.aload_n 0, 1) := by decide +kernel
theorem dX3_put_21 : decode cX3_put 21 = .ok (.dup, 1) := by decide +kernel
theorem dX3_put_22 : decode cX3_put 22 = .ok (.getfield 19, 3) := by decide +kernel
theorem dX3_put_25 : decode cX3_put 25 = .ok (.iconst 1, 1) := by decide +kernel
theorem dX3_put_26 : decode cX3_put 26 = .ok (.iadd, 1) := by decide +kernel
theorem dX3_put_27 : decode cX3_put 27 = .ok (.putfield 19, 3) := by decide +kernel
theorem dX3_put_30 : decode cX3_put 30 = .ok (.return_, 1) := by decide +kernel
set_option maxRecDepth 20000 in
theorem ggX3_putAll_J0_length_8abf5 : GoodIn wsX3_putAll wsJ0_length_8abf5 := goodIn_r _ [5, 6, 7, 8, 9, 4, 10, 11, 12] (by decide +kernel) (by decide +kernel)
set_option maxRecDepth 20000 in
theorem gX3_putAll_J0_length_8abf5 : GoodIn wsX3_putAll (wsV RX3 23 RJ0 yJ0_length_8abf5 wsJ0_length_8abf5) := goodIn_app (goodIn_of _ (by decide +kernel)) ggX3_putAll_J0_length_8abf5
set_option maxRecDepth 20000 in
theorem ggX3_putAll_J0_charAt_5068e : GoodIn wsX3_putAll wsJ0_charAt_5068e := goodIn_r _ [16, 6, 17, 18, 19, 4, 20, 11, 12, 21, 22, 23, 24, 25, 26, 27, 28, 29, 30, 31, 32, 33, 34, 35, 36, 37, 38, 39, 40, 41, 42, 43, 44, 45, 46, 47, 48, 49] (by decide +kernel) (by decide +kernel)
set_option maxRecDepth 20000 in
theorem gX3_putAll_J0_charAt_5068e : GoodIn wsX3_putAll (wsV RX3 28 RJ0 yJ0_charAt_5068e wsJ0_charAt_5068e) := goodIn_app (goodIn_of _ (by decide +kernel)) ggX3_putAll_J0_charAt_5068e
set_option maxRecDepth 20000 in
theorem ggX3_putAll_X3_put : GoodIn wsX3_putAll wsX3_put := goodIn_r _ [54, 55, 56, 57, 58, 59, 60, 61, 62, 63] (by decide +kernel) (by decide +kernel)
set_option maxRecDepth 20000 in
theorem gX3_putAll_X3_put : GoodIn wsX3_putAll (wsV RX3 32 RX3 yX3_put wsX3_put) := goodIn_app (goodIn_of _ (by decide +kernel)) ggX3_putAll_X3_put
theorem dX3_putAll_0 : decode cX3_putAll 0 = .ok (.iconst 0, 1) := by decide +kernel
theorem dX3_putAll_1 : decode cX3_putAll 1 = .ok (.istore_n 2, 1) := by decide +kernel
theorem dX3_putAll_2 : decode cX3_putAll 2 = .ok (.iload_n 2, 1) := by decide +kernel
theorem dX3_putAll_3 : decode cX3_putAll 3 = .ok (.aload_n 1, 1) := by decide +kernel
theorem dX3_putAll_4 : decode cX3_putAll 4 = .ok (.invokevirtual 23, 3) := by decide +kernel
theorem dX3_putAll_7 : decode cX3_putAll 7 = .ok (.if_icmp .ge 18, 3) := by decide +kernel
theorem dX3_putAll_10 : decode cX3_putAll 10 = .ok (.aload_n 0, 1) := by decide +kernel
theorem dX3_putAll_11 : decode cX3_putAll 11 = .ok (.aload_n 1, 1) := by decide +kernel
theorem dX3_putAll_12 : decode cX3_putAll 12 = .ok (.iload_n 2, 1) := by decide +kernel
theorem dX3_putAll_13 : decode cX3_putAll 13 = .ok (.invokevirtual 28, 3) := by decide +kernel
theorem dX3_putAll_16 : decode cX3_putAll 16 = .ok (.invokevirtual 32, 3) := by decide +kernel
theorem dX3_putAll_19 : decode cX3_putAll 19 = .ok (.iinc 2 1, 3) := by decide +kernel
theorem dX3_putAll_22 : decode cX3_putAll 22 = .ok (.goto (-20), 3) := by decide +kernel
theorem dX3_putAll_25 : decode cX3_putAll 25 = .ok (.return_, 1) := by decide +kernel
set_option maxRecDepth 20000 in
theorem ggX3_readInto_X2_makeEmpty : GoodIn wsX3_readInto wsX2_makeEmpty := goodIn_r _ [9, 10, 11, 12, 157, 158, 159, 160, 161, 162, 163, 164, 165, 166, 167, 168] (by decide +kernel) (by decide +kernel)
set_option maxRecDepth 20000 in
theorem gX3_readInto_X2_makeEmpty : GoodIn wsX3_readInto (wsV RX3 36 RX2 yX2_makeEmpty wsX2_makeEmpty) := goodIn_app (goodIn_of _ (by decide +kernel)) ggX3_readInto_X2_makeEmpty
set_option maxRecDepth 20000 in
theorem ggX3_readInto_X3_readStatement : GoodIn wsX3_readInto wsX3_readStatement := goodIn_r _ [17, 18, 19, 20, 16, 21, 1, 22, 3, 23, 24, 25, 26, 27, 28, 29, 30, 31, 32, 33, 34, 35, 36, 37, 38, 39, 40, 41, 42, 43, 44, 45, 46, 47, 48, 49, 50, 51, 52, 53, 54, 55, 56, 57, 58, 59, 60, 61, 62, 63, 64, 65, 66, 67, 68, 69, 70, 71, 72, 73, 74, 75, 76, 77, 78, 79, 80, 81, 82, 83, 84, 85, 86, 87, 88, 89, 90, 91, 92, 93, 94, 95, 96, 8, 97, 10, 98, 99, 100, 101, 102, 103, 104, 105, 106, 107, 108, 109, 110, 11, 111, 112, 113, 114, 115, 116, 117, 118, 119, 120, 121, 122, 123, 124, 125, 12, 126, 127, 128, 129, 130, 131, 132, 133, 134, 135, 136, 137, 138, 139, 140, 141, 142, 143, 144, 145, 146, 147, 148, 149, 150, 151, 152, 153, 154, 155, 156, 157, 158, 159, 160, 161, 162, 163, 164, 165, 166, 167, 168] (by decide +kernel) (by decide +kernel)
set_option maxRecDepth 20000 in
theorem gX3_readInto_X3_readStatement : GoodIn wsX3_readInto (wsV RX3 50 RX3 yX3_readStatement wsX3_readStatement) := goodIn_app (goodIn_of _ (by decide +kernel)) ggX3_readInto_X3_readStatement
theorem dX3_readInto_0 : decode cX3_readInto 0 = .ok (.aload_n 1, 1) := by decide +kernel
theorem dX3_readInto_1 : decode cX3_readInto 1 = .ok (.invokevirtual 36, 3) := by decide +kernel
theorem dX3_readInto_4 : decode cX3_readInto 4 = .ok (.aload_n 0, 1) := by decide +kernel
theorem dX3_readInto_5 : decode cX3_readInto 5 = .ok (.iconst 0, 1) := by decide +kernel
theorem dX3_readInto_6 : decode cX3_readInto 6 = .ok (.putfield 41, 3) := by decide +kernel
theorem dX3_readInto_9 : decode cX3_readInto 9 = .ok (.aload_n 0, 1) := by decide +kernel
theorem dX3_readInto_10 : decode cX3_readInto 10 = .ok (.iconst 0, 1) := by decide +kernel
theorem dX3_readInto_11 : decode cX3_readInto 11 = .ok (.putfield 44, 3) := by decide +kernel
theorem dX3_readInto_14 : decode cX3_readInto 14 = .ok (.iconst 0, 1) := by decide +kernel
theorem dX3_readInto_15 : decode cX3_readInto 15 = .ok (.istore_n 2, 1) := by decide +kernel
theorem dX3_readInto_16 : decode cX3_readInto 16 = .ok (.iload_n 2, 1) := by decide +kernel
theorem dX3_readInto_17 : decode cX3_readInto 17 = .ok (.sipush 400, 3) := by decide +kernel
theorem dX3_readInto_20 : decode cX3_readInto 20 = .ok (.if_icmp .ge 44, 3) := by decide +kernel
theorem dX3_readInto_23 : decode cX3_readInto 23 = .ok (.aload_n 0, 1) := by decide +kernel
theorem dX3_readInto_24 : decode cX3_readInto 24 = .ok (.getfield 41, 3) := by decide +kernel
theorem dX3_readInto_27 : decode cX3_readInto 27 = .ok (.aload_n 0, 1) := by decide +kernel
theorem dX3_readInto_28 : decode cX3_readInto 28 = .ok (.getfield 19, 3) := by decide +kernel
theorem dX3_readInto_31 : decode cX3_readInto 31 = .ok (.if_icmp .ge 33, 3) := by decide +kernel
theorem dX3_readInto_34 : decode cX3_readInto 34 = .ok (.aload_n 0, 1) := by decide +kernel
theorem dX3_readInto_35 : decode cX3_readInto 35 = .ok (.getfield 44, 3) := by decide +kernel
theorem dX3_readInto_38 : decode cX3_readInto 38 = .ok (.ifCond .ne 26, 3) := by decide +kernel
theorem dX3_readInto_41 : decode cX3_readInto 41 = .ok (.aload_n 0, 1) := by decide +kernel
theorem dX3_readInto_42 : decode cX3_readInto 42 = .ok (.aload_n 0, 1) := by decide +kernel
theorem dX3_readInto_43 : decode cX3_readInto 43 = .ok (.getfield 41, 3) := by decide +kernel
theorem dX3_readInto_46 : decode cX3_readInto 46 = .ok (.putfield 47, 3) := by decide +kernel
theorem dX3_readInto_49 : decode cX3_readInto 49 = .ok (.aload_n 0, 1) := by decide +kernel
theorem dX3_readInto_50 : decode cX3_readInto 50 = .ok (.aload_n 0, 1) := by decide +kernel
theorem dX3_readInto_51 : decode cX3_readInto 51 = .ok (.aload_n 1, 1) := by decide +kernel
theorem dX3_readInto_52 : decode cX3_readInto 52 = .ok (.invokevirtual 50, 3) := by decide +kernel
theorem dX3_readInto_55 : decode cX3_readInto 55 = .ok (.putfield 44, 3) := by decide +kernel
theorem dX3_readInto_58 : decode cX3_readInto 58 = .ok (.iinc 2 1, 3) := by decide +kernel
theorem dX3_readInto_61 : decode cX3_readInto 61 = .ok (.goto (-45), 3) := by decide +kernel
theorem dX3_readInto_64 : decode cX3_readInto 64 = .ok (.return_, 1) := by decide +kernel
set_option maxRecDepth 20000 in
theorem ggX3_readStatement_X3_readWord : GoodIn wsX3_readStatement wsX3_readWord := goodIn_r _ [5, 6, 7, 8, 9, 140, 141, 142, 143, 144, 145, 146] (by decide +kernel) (by decide +kernel)
set_option maxRecDepth 20000 in
theorem gX3_readStatement_X3_readWord : GoodIn wsX3_readStatement (wsV RX3 54 RX3 yX3_readWord wsX3_readWord) := goodIn_app (goodIn_of _ (by decide +kernel)) ggX3_readStatement_X3_readWord
set_option maxRecDepth 20000 in
theorem ggX3_readStatement_X3_wordIs : GoodIn wsX3_readStatement wsX3_wordIs := goodIn_r _ [13, 6, 7, 9, 14, 15, 16, 17, 18, 19, 20, 21, 22, 23, 24, 25, 26, 27, 28, 29, 30, 31, 32, 33, 34, 35, 36, 37, 38, 39, 40, 41, 42, 43, 44, 45, 46, 47, 48, 49, 50, 51, 52, 53, 54, 55, 56, 57, 58, 59, 60, 61, 62, 140, 141, 142, 143, 144, 145, 146] (by decide +kernel) (by decide +kernel)
set_option maxRecDepth 20000 in
theorem gX3_readStatement_X3_wordIs : GoodIn wsX3_readStatement (wsV RX3 59 RX3 yX3_wordIs wsX3_wordIs) := goodIn_app (goodIn_of _ (by decide +kernel)) ggX3_readStatement_X3_wordIs
set_option maxRecDepth 20000 in
theorem ggX3_readStatement_X3_readScene : GoodIn wsX3_readStatement wsX3_readScene := goodIn_r _ [66, 67, 68, 69, 70, 4, 71, 72, 73, 74, 75, 6, 8, 9, 1, 2, 3, 5, 7, 76, 77, 78, 79, 80, 81, 82, 83, 84, 85, 86, 140, 141, 142, 143, 144, 145, 146, 147, 148, 149, 150, 151, 152, 153, 154, 155, 156, 157, 158] (by decide +kernel) (by decide +kernel)
set_option maxRecDepth 20000 in
theorem gX3_readStatement_X3_readScene : GoodIn wsX3_readStatement (wsV RX3 63 RX3 yX3_readScene wsX3_readScene) := goodIn_app (goodIn_of _ (by decide +kernel)) ggX3_readStatement_X3_readScene
set_option maxRecDepth 20000 in
theorem ggX3_readStatement_X3_readRole : GoodIn wsX3_readStatement wsX3_readRole := goodIn_r _ [90, 67, 72, 73, 74, 4, 75, 6, 8, 9, 1, 2, 3, 5, 7, 91, 92, 93, 94, 10, 11, 12, 13, 14, 15, 16, 17, 18, 19, 20, 21, 22, 23, 24, 25, 26, 27, 28, 29, 30, 31, 32, 33, 34, 35, 36, 37, 38, 39, 40, 41, 42, 43, 44, 45, 46, 47, 48, 49, 50, 51, 52, 53, 54, 55, 56, 57, 58, 59, 60, 61, 62, 68, 69, 70, 71, 76, 77, 78, 79, 95, 96, 97, 83, 98, 99, 100, 101, 102, 103, 104, 105, 106, 140, 141, 142, 143, 144, 145, 146, 147, 148, 149, 150, 151, 152, 153, 154, 155, 156, 157, 158] (by decide +kernel) (by decide +kernel)
set_option maxRecDepth 20000 in
theorem gX3_readStatement_X3_readRole : GoodIn wsX3_readStatement (wsV RX3 68 RX3 yX3_readRole wsX3_readRole) := goodIn_app (goodIn_of _ (by decide +kernel)) ggX3_readStatement_X3_readRole
set_option maxRecDepth 20000 in
theorem ggX3_readStatement_X3_readEnter : GoodIn wsX3_readStatement wsX3_readEnter := goodIn_r _ [110, 67, 68, 69, 70, 4, 71, 72, 73, 74, 75, 6, 8, 9, 1, 2, 3, 5, 7, 76, 77, 78, 79, 111, 112, 113, 83, 114, 115, 116, 117, 118, 119, 86, 120, 121, 122, 123, 99, 124, 125, 126, 127, 85, 128, 129, 130, 131, 132, 133, 134, 135, 136, 137, 138, 139, 140, 141, 142, 143, 144, 145, 146, 147, 148, 149, 150, 151, 152, 153, 154, 155, 156, 157, 158] (by decide +kernel) (by decide +kernel)
set_option maxRecDepth 20000 in
theorem gX3_readStatement_X3_readEnter : GoodIn wsX3_readStatement (wsV RX3 73 RX3 yX3_readEnter wsX3_readEnter) := goodIn_app (goodIn_of _ (by decide +kernel)) ggX3_readStatement_X3_readEnter
theorem dX3_readStatement_0 : decode cX3_readStatement 0 = .ok (.aload_n 0, 1) := by decide +kernel
theorem dX3_readStatement_1 : decode cX3_readStatement 1 = .ok (.invokevirtual 54, 3) := by decide +kernel
theorem dX3_readStatement_4 : decode cX3_readStatement 4 = .ok (.aload_n 0, 1) := by decide +kernel
theorem dX3_readStatement_5 : decode cX3_readStatement 5 = .ok (.ldc 57, 2) := by decide +kernel
theorem dX3_readStatement_7 : decode cX3_readStatement 7 = .ok (.invokevirtual 59, 3) := by decide +kernel
theorem dX3_readStatement_10 : decode cX3_readStatement 10 = .ok (.ifCond .eq 9, 3) := by decide +kernel
theorem dX3_readStatement_13 : decode cX3_readStatement 13 = .ok (.aload_n 0, 1) := by decide +kernel
theorem dX3_readStatement_14 : decode cX3_readStatement 14 = .ok (.aload_n 1, 1) := by decide +kernel
theorem dX3_readStatement_15 : decode cX3_readStatement 15 = .ok (.invokevirtual 63, 3) := by decide +kernel
theorem dX3_readStatement_18 : decode cX3_readStatement 18 = .ok (.ireturn, 1) := by decide +kernel
theorem dX3_readStatement_19 : decode cX3_readStatement 19 = .ok (.aload_n 0, 1) := by decide +kernel
theorem dX3_readStatement_20 : decode cX3_readStatement 20 = .ok (.ldc 66, 2) := by decide +kernel
theorem dX3_readStatement_22 : decode cX3_readStatement 22 = .ok (.invokevirtual 59, 3) := by decide +kernel
theorem dX3_readStatement_25 : decode cX3_readStatement 25 = .ok (.ifCond .eq 9, 3) := by decide +kernel
theorem dX3_readStatement_28 : decode cX3_readStatement 28 = .ok (.aload_n 0, 1) := by decide +kernel
theorem dX3_readStatement_29 : decode cX3_readStatement 29 = .ok (.aload_n 1, 1) := by decide +kernel
theorem dX3_readStatement_30 : decode cX3_readStatement 30 = .ok (.invokevirtual 68, 3) := by decide +kernel
theorem dX3_readStatement_33 : decode cX3_readStatement 33 = .ok (.ireturn, 1) := by decide +kernel
theorem dX3_readStatement_34 : decode cX3_readStatement 34 = .ok (.aload_n 0, 1) := by decide +kernel
theorem dX3_readStatement_35 : decode cX3_readStatement 35 = .ok (.ldc 71, 2) := by decide +kernel
theorem dX3_readStatement_37 : decode cX3_readStatement 37 = .ok (.invokevirtual 59, 3) := by decide +kernel
theorem dX3_readStatement_40 : decode cX3_readStatement 40 = .ok (.ifCond .eq 9, 3) := by decide +kernel
theorem dX3_readStatement_43 : decode cX3_readStatement 43 = .ok (.aload_n 0, 1) := by decide +kernel
theorem dX3_readStatement_44 : decode cX3_readStatement 44 = .ok (.aload_n 1, 1) := by decide +kernel
theorem dX3_readStatement_45 : decode cX3_readStatement 45 = .ok (.invokevirtual 73, 3) := by decide +kernel
theorem dX3_readStatement_48 : decode cX3_readStatement 48 = .ok (.ireturn, 1) := by decide +kernel
theorem dX3_readStatement_49 : decode cX3_readStatement 49 = .ok (.iconst 1, 1) := by decide +kernel
theorem dX3_readStatement_50 : decode cX3_readStatement 50 = .ok (.ireturn, 1) := by decide +kernel
set_option maxRecDepth 20000 in
theorem ggX3_readScene_X3_readNumbersAndEnd : GoodIn wsX3_readScene wsX3_readNumbersAndEnd := goodIn_r _ [6, 1, 7, 8, 9, 5, 10, 11, 12, 13, 14, 15, 16, 17, 18, 19, 20, 21, 22, 30, 31, 32, 33, 34, 35, 36] (by decide +kernel) (by decide +kernel)
set_option maxRecDepth 20000 in
theorem gX3_readScene_X3_readNumbersAndEnd : GoodIn wsX3_readScene (wsV RX3 76 RX3 yX3_readNumbersAndEnd wsX3_readNumbersAndEnd) := goodIn_app (goodIn_of _ (by decide +kernel)) ggX3_readScene_X3_readNumbersAndEnd
set_option maxRecDepth 20000 in
theorem ggX3_readScene_X2_stateScene : GoodIn wsX3_readScene wsX2_stateScene := goodIn_r _ [27, 28, 29, 37, 38, 39, 40, 41, 42, 43, 44, 45, 46, 47, 48] (by decide +kernel) (by decide +kernel)
set_option maxRecDepth 20000 in
theorem gX3_readScene_X2_stateScene : GoodIn wsX3_readScene (wsV RX3 80 RX2 yX2_stateScene wsX2_stateScene) := goodIn_app (goodIn_of _ (by decide +kernel)) ggX3_readScene_X2_stateScene
theorem dX3_readScene_0 : decode cX3_readScene 0 = .ok (.aload_n 0, 1) := by decide +kernel
theorem dX3_readScene_1 : decode cX3_readScene 1 = .ok (.iconst 1, 1) := by decide +kernel
theorem dX3_readScene_2 : decode cX3_readScene 2 = .ok (.invokevirtual 76, 3) := by decide +kernel
theorem dX3_readScene_5 : decode cX3_readScene 5 = .ok (.ifCond .ne 5, 3) := by decide +kernel
theorem dX3_readScene_8 : decode cX3_readScene 8 = .ok (.iconst 2, 1) := by decide +kernel
theorem dX3_readScene_9 : decode cX3_readScene 9 = .ok (.ireturn, 1) := by decide +kernel
theorem dX3_readScene_10 : decode cX3_readScene 10 = .ok (.aload_n 1, 1) := by decide +kernel
theorem dX3_readScene_11 : decode cX3_readScene 11 = .ok (.aload_n 0, 1) := by decide +kernel
theorem dX3_readScene_12 : decode cX3_readScene 12 = .ok (.getfield 15, 3) := by decide +kernel
theorem dX3_readScene_15 : decode cX3_readScene 15 = .ok (.iconst 0, 1) := by decide +kernel
theorem dX3_readScene_16 : decode cX3_readScene 16 = .ok (.iaload, 1) := by decide +kernel
theorem dX3_readScene_17 : decode cX3_readScene 17 = .ok (.invokevirtual 80, 3) := by decide +kernel
theorem dX3_readScene_20 : decode cX3_readScene 20 = .ok (.ireturn, 1) := by decide +kernel
set_option maxRecDepth 20000 in
theorem ggX3_readRole_X3_readSign : GoodIn wsX3_readRole wsX3_readSign := goodIn_r _ [6, 7, 8, 9, 93, 94, 95, 96, 97, 98, 99] (by decide +kernel) (by decide +kernel)
set_option maxRecDepth 20000 in
theorem gX3_readRole_X3_readSign : GoodIn wsX3_readRole (wsV RX3 84 RX3 yX3_readSign wsX3_readSign) := goodIn_app (goodIn_of _ (by decide +kernel)) ggX3_readRole_X3_readSign
set_option maxRecDepth 20000 in
theorem ggX3_readRole_X3_readWord : GoodIn wsX3_readRole wsX3_readWord := goodIn_r _ [13, 7, 14, 8, 9, 93, 94, 95, 96, 97, 98, 99] (by decide +kernel) (by decide +kernel)
set_option maxRecDepth 20000 in
theorem gX3_readRole_X3_readWord : GoodIn wsX3_readRole (wsV RX3 54 RX3 yX3_readWord wsX3_readWord) := goodIn_app (goodIn_of _ (by decide +kernel)) ggX3_readRole_X3_readWord
set_option maxRecDepth 20000 in
theorem ggX3_readRole_X3_wordAsVoice : GoodIn wsX3_readRole wsX3_wordAsVoice := goodIn_r _ [18, 19, 20, 21, 5, 22, 7, 14, 9, 23, 24, 25, 26, 27, 28, 29, 30, 31, 32, 33, 34, 35, 36, 37, 38, 39, 40, 41, 42, 43, 44, 45, 46, 47, 48, 49, 50, 51, 52, 53, 54, 55, 56, 57, 58, 59, 60, 61, 62, 63, 64, 65, 66, 67, 68, 69, 70, 71, 93, 94, 95, 96, 97, 98, 99] (by decide +kernel) (by decide +kernel)
set_option maxRecDepth 20000 in
theorem gX3_readRole_X3_wordAsVoice : GoodIn wsX3_readRole (wsV RX3 88 RX3 yX3_wordAsVoice wsX3_wordAsVoice) := goodIn_app (goodIn_of _ (by decide +kernel)) ggX3_readRole_X3_wordAsVoice
set_option maxRecDepth 20000 in
theorem ggX3_readRole_X3_readNumbersAndEnd : GoodIn wsX3_readRole wsX3_readNumbersAndEnd := goodIn_r _ [75, 1, 2, 3, 4, 5, 6, 7, 8, 9, 10, 11, 12, 13, 14, 76, 77, 78, 79, 93, 94, 95, 96, 97, 98, 99] (by decide +kernel) (by decide +kernel)
set_option maxRecDepth 20000 in
theorem gX3_readRole_X3_readNumbersAndEnd : GoodIn wsX3_readRole (wsV RX3 76 RX3 yX3_readNumbersAndEnd wsX3_readNumbersAndEnd) := goodIn_app (goodIn_of _ (by decide +kernel)) ggX3_readRole_X3_readNumbersAndEnd
set_option maxRecDepth 20000 in
theorem ggX3_readRole_X2_stateRole : GoodIn wsX3_readRole wsX2_stateRole := goodIn_r _ [84, 85, 86, 87, 88, 89, 90, 91, 92, 100, 101, 102, 103, 104, 105, 106, 107, 108, 109, 110, 111] (by decide +kernel) (by decide +kernel)
set_option maxRecDepth 20000 in
theorem gX3_readRole_X2_stateRole : GoodIn wsX3_readRole (wsV RX3 91 RX2 yX2_stateRole wsX2_stateRole) := goodIn_app (goodIn_of _ (by decide +kernel)) ggX3_readRole_X2_stateRole
theorem dX3_readRole_0 : decode cX3_readRole 0 = .ok (.aload_n 0, 1) := by decide +kernel
theorem dX3_readRole_1 : decode cX3_readRole 1 = .ok (.bipush 32, 2) := by decide +kernel
theorem dX3_readRole_3 : decode cX3_readRole 3 = .ok (.invokevirtual 84, 3) := by decide +kernel
theorem dX3_readRole_6 : decode cX3_readRole 6 = .ok (.ifCond .ne 5, 3) := by decide +kernel
theorem dX3_readRole_9 : decode cX3_readRole 9 = .ok (.iconst 2, 1) := by decide +kernel
theorem dX3_readRole_10 : decode cX3_readRole 10 = .ok (.ireturn, 1) := by decide +kernel
theorem dX3_readRole_11 : decode cX3_readRole 11 = .ok (.aload_n 0, 1) := by decide +kernel
theorem dX3_readRole_12 : decode cX3_readRole 12 = .ok (.invokevirtual 54, 3) := by decide +kernel
theorem dX3_readRole_15 : decode cX3_readRole 15 = .ok (.aload_n 0, 1) := by decide +kernel
theorem dX3_readRole_16 : decode cX3_readRole 16 = .ok (.invokevirtual 88, 3) := by decide +kernel
theorem dX3_readRole_19 : decode cX3_readRole 19 = .ok (.istore_n 2, 1) := by decide +kernel
theorem dX3_readRole_20 : decode cX3_readRole 20 = .ok (.iload_n 2, 1) := by decide +kernel
theorem dX3_readRole_21 : decode cX3_readRole 21 = .ok (.iconst (-1), 1) := by decide +kernel
theorem dX3_readRole_22 : decode cX3_readRole 22 = .ok (.if_icmp .ne 5, 3) := by decide +kernel
theorem dX3_readRole_25 : decode cX3_readRole 25 = .ok (.iconst 1, 1) := by decide +kernel
theorem dX3_readRole_26 : decode cX3_readRole 26 = .ok (.ireturn, 1) := by decide +kernel
theorem dX3_readRole_27 : decode cX3_readRole 27 = .ok (.aload_n 0, 1) := by decide +kernel
theorem dX3_readRole_28 : decode cX3_readRole 28 = .ok (.iconst 2, 1) := by decide +kernel
theorem dX3_readRole_29 : decode cX3_readRole 29 = .ok (.invokevirtual 76, 3) := by decide +kernel
theorem dX3_readRole_32 : decode cX3_readRole 32 = .ok (.ifCond .ne 5, 3) := by decide +kernel
theorem dX3_readRole_35 : decode cX3_readRole 35 = .ok (.iconst 2, 1) := by decide +kernel
theorem dX3_readRole_36 : decode cX3_readRole 36 = .ok (.ireturn, 1) := by decide +kernel
theorem dX3_readRole_37 : decode cX3_readRole 37 = .ok (.aload_n 1, 1) := by decide +kernel
theorem dX3_readRole_38 : decode cX3_readRole 38 = .ok (.iload_n 2, 1) := by decide +kernel
theorem dX3_readRole_39 : decode cX3_readRole 39 = .ok (.aload_n 0, 1) := by decide +kernel
theorem dX3_readRole_40 : decode cX3_readRole 40 = .ok (.getfield 15, 3) := by decide +kernel
theorem dX3_readRole_43 : decode cX3_readRole 43 = .ok (.iconst 0, 1) := by decide +kernel
theorem dX3_readRole_44 : decode cX3_readRole 44 = .ok (.iaload, 1) := by decide +kernel
theorem dX3_readRole_45 : decode cX3_readRole 45 = .ok (.aload_n 0, 1) := by decide +kernel
theorem dX3_readRole_46 : decode cX3_readRole 46 = .ok (.getfield 15, 3) := by decide +kernel
theorem dX3_readRole_49 : decode cX3_readRole 49 = .ok (.iconst 1, 1) := by decide +kernel
theorem dX3_readRole_50 : decode cX3_readRole 50 = .ok (.iaload, 1) := by decide +kernel
theorem dX3_readRole_51 : decode cX3_readRole 51 = .ok (.invokevirtual 91, 3) := by decide +kernel
theorem dX3_readRole_54 : decode cX3_readRole 54 = .ok (.ireturn, 1) := by decide +kernel
set_option maxRecDepth 20000 in
theorem ggX3_readEnter_X3_readNumbersAndEnd : GoodIn wsX3_readEnter wsX3_readNumbersAndEnd := goodIn_r _ [6, 1, 7, 8, 9, 5, 10, 11, 12, 13, 14, 15, 16, 17, 18, 19, 20, 21, 22, 56, 57, 58, 59, 60, 61, 62] (by decide +kernel) (by decide +kernel)
set_option maxRecDepth 20000 in
theorem gX3_readEnter_X3_readNumbersAndEnd : GoodIn wsX3_readEnter (wsV RX3 76 RX3 yX3_readNumbersAndEnd wsX3_readNumbersAndEnd) := goodIn_app (goodIn_of _ (by decide +kernel)) ggX3_readEnter_X3_readNumbersAndEnd
set_option maxRecDepth 20000 in
theorem ggX3_readEnter_X2_stateAppearance : GoodIn wsX3_readEnter wsX2_stateAppearance := goodIn_r _ [27, 28, 29, 30, 31, 26, 32, 33, 34, 35, 36, 37, 38, 39, 40, 41, 42, 43, 44, 45, 46, 47, 48, 49, 50, 51, 52, 53, 54, 55, 63, 64, 65, 66, 67, 68, 69, 70, 71, 72, 73, 74] (by decide +kernel) (by decide +kernel)
set_option maxRecDepth 20000 in
theorem gX3_readEnter_X2_stateAppearance : GoodIn wsX3_readEnter (wsV RX3 95 RX2 yX2_stateAppearance wsX2_stateAppearance) := goodIn_app (goodIn_of _ (by decide +kernel)) ggX3_readEnter_X2_stateAppearance
theorem dX3_readEnter_0 : decode cX3_readEnter 0 = .ok (.aload_n 0, 1) := by decide +kernel
theorem dX3_readEnter_1 : decode cX3_readEnter 1 = .ok (.iconst 4, 1) := by decide +kernel
theorem dX3_readEnter_2 : decode cX3_readEnter 2 = .ok (.invokevirtual 76, 3) := by decide +kernel
theorem dX3_readEnter_5 : decode cX3_readEnter 5 = .ok (.ifCond .ne 5, 3) := by decide +kernel
theorem dX3_readEnter_8 : decode cX3_readEnter 8 = .ok (.iconst 2, 1) := by decide +kernel
theorem dX3_readEnter_9 : decode cX3_readEnter 9 = .ok (.ireturn, 1) := by decide +kernel
theorem dX3_readEnter_10 : decode cX3_readEnter 10 = .ok (.aload_n 1, 1) := by decide +kernel
theorem dX3_readEnter_11 : decode cX3_readEnter 11 = .ok (.aload_n 0, 1) := by decide +kernel
theorem dX3_readEnter_12 : decode cX3_readEnter 12 = .ok (.getfield 15, 3) := by decide +kernel
theorem dX3_readEnter_15 : decode cX3_readEnter 15 = .ok (.iconst 0, 1) := by decide +kernel
theorem dX3_readEnter_16 : decode cX3_readEnter 16 = .ok (.iaload, 1) := by decide +kernel
theorem dX3_readEnter_17 : decode cX3_readEnter 17 = .ok (.aload_n 0, 1) := by decide +kernel
theorem dX3_readEnter_18 : decode cX3_readEnter 18 = .ok (.getfield 15, 3) := by decide +kernel
theorem dX3_readEnter_21 : decode cX3_readEnter 21 = .ok (.iconst 1, 1) := by decide +kernel
theorem dX3_readEnter_22 : decode cX3_readEnter 22 = .ok (.iaload, 1) := by decide +kernel
theorem dX3_readEnter_23 : decode cX3_readEnter 23 = .ok (.aload_n 0, 1) := by decide +kernel
theorem dX3_readEnter_24 : decode cX3_readEnter 24 = .ok (.getfield 15, 3) := by decide +kernel
theorem dX3_readEnter_27 : decode cX3_readEnter 27 = .ok (.iconst 2, 1) := by decide +kernel
theorem dX3_readEnter_28 : decode cX3_readEnter 28 = .ok (.iaload, 1) := by decide +kernel
theorem dX3_readEnter_29 : decode cX3_readEnter 29 = .ok (.aload_n 0, 1) := by decide +kernel
theorem dX3_readEnter_30 : decode cX3_readEnter 30 = .ok (.getfield 15, 3) := by decide +kernel
theorem dX3_readEnter_33 : decode cX3_readEnter 33 = .ok (.iconst 3, 1) := by decide +kernel
theorem dX3_readEnter_34 : decode cX3_readEnter 34 = .ok (.iaload, 1) := by decide +kernel
theorem dX3_readEnter_35 : decode cX3_readEnter 35 = .ok (.invokevirtual 95, 3) := by decide +kernel
theorem dX3_readEnter_38 : decode cX3_readEnter 38 = .ok (.ireturn, 1) := by decide +kernel
set_option maxRecDepth 20000 in
theorem ggX3_readNumbersAndEnd_X3_readSign : GoodIn wsX3_readNumbersAndEnd wsX3_readSign := goodIn_r _ [6, 7, 8, 9, 19, 20, 21, 22, 23, 24, 25] (by decide +kernel) (by decide +kernel)
set_option maxRecDepth 20000 in
theorem gX3_readNumbersAndEnd_X3_readSign : GoodIn wsX3_readNumbersAndEnd (wsV RX3 84 RX3 yX3_readSign wsX3_readSign) := goodIn_app (goodIn_of _ (by decide +kernel)) ggX3_readNumbersAndEnd_X3_readSign
set_option maxRecDepth 20000 in
theorem ggX3_readNumbersAndEnd_X3_readWord : GoodIn wsX3_readNumbersAndEnd wsX3_readWord := goodIn_r _ [13, 7, 14, 8, 9, 19, 20, 21, 22, 23, 24, 25] (by decide +kernel) (by decide +kernel)
set_option maxRecDepth 20000 in
theorem gX3_readNumbersAndEnd_X3_readWord : GoodIn wsX3_readNumbersAndEnd (wsV RX3 54 RX3 yX3_readWord wsX3_readWord) := goodIn_app (goodIn_of _ (by decide +kernel)) ggX3_readNumbersAndEnd_X3_readWord
set_option maxRecDepth 20000 in
theorem ggX3_readNumbersAndEnd_X3_wordAsNumber : GoodIn wsX3_readNumbersAndEnd wsX3_wordAsNumber := goodIn_r _ [18, 7, 14, 9, 19, 20, 21, 22, 23, 24, 25] (by decide +kernel) (by decide +kernel)
set_option maxRecDepth 20000 in
theorem gX3_readNumbersAndEnd_X3_wordAsNumber : GoodIn wsX3_readNumbersAndEnd (wsV RX3 99 RX3 yX3_wordAsNumber wsX3_wordAsNumber) := goodIn_app (goodIn_of _ (by decide +kernel)) ggX3_readNumbersAndEnd_X3_wordAsNumber
theorem dX3_readNumbersAndEnd_0 : decode cX3_readNumbersAndEnd 0 = .ok (.iconst 0, 1) := by decide +kernel
theorem dX3_readNumbersAndEnd_1 : decode cX3_readNumbersAndEnd 1 = .ok (.istore_n 2, 1) := by decide +kernel
theorem dX3_readNumbersAndEnd_2 : decode cX3_readNumbersAndEnd 2 = .ok (.iload_n 2, 1) := by decide +kernel
theorem dX3_readNumbersAndEnd_3 : decode cX3_readNumbersAndEnd 3 = .ok (.iload_n 1, 1) := by decide +kernel
theorem dX3_readNumbersAndEnd_4 : decode cX3_readNumbersAndEnd 4 = .ok (.if_icmp .ge 51, 3) := by decide +kernel
theorem dX3_readNumbersAndEnd_7 : decode cX3_readNumbersAndEnd 7 = .ok (.iload_n 2, 1) := by decide +kernel
theorem dX3_readNumbersAndEnd_8 : decode cX3_readNumbersAndEnd 8 = .ok (.iconst 4, 1) := by decide +kernel
theorem dX3_readNumbersAndEnd_9 : decode cX3_readNumbersAndEnd 9 = .ok (.if_icmp .ge 46, 3) := by decide +kernel
theorem dX3_readNumbersAndEnd_12 : decode cX3_readNumbersAndEnd 12 = .ok (.aload_n 0, 1) := by decide +kernel
theorem dX3_readNumbersAndEnd_13 : decode cX3_readNumbersAndEnd 13 = .ok (.bipush 32, 2) := by decide +kernel
theorem dX3_readNumbersAndEnd_15 : decode cX3_readNumbersAndEnd 15 = .ok (.invokevirtual 84, 3) := by decide +kernel
theorem dX3_readNumbersAndEnd_18 : decode cX3_readNumbersAndEnd 18 = .ok (.ifCond .ne 5, 3) := by decide +kernel
theorem dX3_readNumbersAndEnd_21 : decode cX3_readNumbersAndEnd 21 = .ok (.iconst 0, 1) := by decide +kernel
theorem dX3_readNumbersAndEnd_22 : decode cX3_readNumbersAndEnd 22 = .ok (.ireturn, 1) := by decide +kernel
theorem dX3_readNumbersAndEnd_23 : decode cX3_readNumbersAndEnd 23 = .ok (.aload_n 0, 1) := by decide +kernel
theorem dX3_readNumbersAndEnd_24 : decode cX3_readNumbersAndEnd 24 = .ok (.invokevirtual 54, 3) := by decide +kernel
theorem dX3_readNumbersAndEnd_27 : decode cX3_readNumbersAndEnd 27 = .ok (.aload_n 0, 1) := by decide +kernel
theorem dX3_readNumbersAndEnd_28 : decode cX3_readNumbersAndEnd 28 = .ok (.getfield 15, 3) := by decide +kernel
theorem dX3_readNumbersAndEnd_31 : decode cX3_readNumbersAndEnd 31 = .ok (.iload_n 2, 1) := by decide +kernel
theorem dX3_readNumbersAndEnd_32 : decode cX3_readNumbersAndEnd 32 = .ok (.aload_n 0, 1) := by decide +kernel
theorem dX3_readNumbersAndEnd_33 : decode cX3_readNumbersAndEnd 33 = .ok (.invokevirtual 99, 3) := by decide +kernel
theorem dX3_readNumbersAndEnd_36 : decode cX3_readNumbersAndEnd 36 = .ok (.iastore, 1) := by decide +kernel
theorem dX3_readNumbersAndEnd_37 : decode cX3_readNumbersAndEnd 37 = .ok (.aload_n 0, 1) := by decide +kernel
theorem dX3_readNumbersAndEnd_38 : decode cX3_readNumbersAndEnd 38 = .ok (.getfield 15, 3) := by decide +kernel
theorem dX3_readNumbersAndEnd_41 : decode cX3_readNumbersAndEnd 41 = .ok (.iload_n 2, 1) := by decide +kernel
theorem dX3_readNumbersAndEnd_42 : decode cX3_readNumbersAndEnd 42 = .ok (.iaload, 1) := by decide +kernel
theorem dX3_readNumbersAndEnd_43 : decode cX3_readNumbersAndEnd 43 = .ok (.iconst (-1), 1) := by decide +kernel
theorem dX3_readNumbersAndEnd_44 : decode cX3_readNumbersAndEnd 44 = .ok (.if_icmp .ne 5, 3) := by decide +kernel
theorem dX3_readNumbersAndEnd_47 : decode cX3_readNumbersAndEnd 47 = .ok (.iconst 0, 1) := by decide +kernel
theorem dX3_readNumbersAndEnd_48 : decode cX3_readNumbersAndEnd 48 = .ok (.ireturn, 1) := by decide +kernel
theorem dX3_readNumbersAndEnd_49 : decode cX3_readNumbersAndEnd 49 = .ok (.iinc 2 1, 3) := by decide +kernel
theorem dX3_readNumbersAndEnd_52 : decode cX3_readNumbersAndEnd 52 = .ok (.goto (-50), 3) := by decide +kernel
theorem dX3_readNumbersAndEnd_55 : decode cX3_readNumbersAndEnd 55 = .ok (.aload_n 0, 1) := by decide +kernel
theorem dX3_readNumbersAndEnd_56 : decode cX3_readNumbersAndEnd 56 = .ok (.bipush 59, 2) := by decide +kernel
theorem dX3_readNumbersAndEnd_58 : decode cX3_readNumbersAndEnd 58 = .ok (.invokevirtual 84, 3) := by decide +kernel
theorem dX3_readNumbersAndEnd_61 : decode cX3_readNumbersAndEnd 61 = .ok (.ireturn, 1) := by decide +kernel
theorem dX3_readSign_0 : decode cX3_readSign 0 = .ok (.aload_n 0, 1) := by decide +kernel
theorem dX3_readSign_1 : decode cX3_readSign 1 = .ok (.getfield 41, 3) := by decide +kernel
theorem dX3_readSign_4 : decode cX3_readSign 4 = .ok (.aload_n 0, 1) := by decide +kernel
theorem dX3_readSign_5 : decode cX3_readSign 5 = .ok (.getfield 19, 3) := by decide +kernel
theorem dX3_readSign_8 : decode cX3_readSign 8 = .ok (.if_icmp .ge 16, 3) := by decide +kernel
theorem dX3_readSign_11 : decode cX3_readSign 11 = .ok (.aload_n 0, 1) := by decide +kernel
theorem dX3_readSign_12 : decode cX3_readSign 12 = .ok (.getfield 9, 3) := by decide +kernel
theorem dX3_readSign_15 : decode cX3_readSign 15 = .ok (.aload_n 0, 1) := by decide +kernel
theorem dX3_readSign_16 : decode cX3_readSign 16 = .ok (.getfield 41, 3) := by decide +kernel
theorem dX3_readSign_19 : decode cX3_readSign 19 = .ok (.caload, 1) := by decide +kernel
theorem dX3_readSign_20 : decode cX3_readSign 20 = .ok (.iload_n 1, 1) := by decide +kernel
theorem dX3_readSign_21 : decode cX3_readSign 21 = .ok (.if_icmp .eq 5, 3) := by decide +kernel
theorem dX3_readSign_24 : decode cX3_readSign 24 = .ok (.iconst 0, 1) := by decide +kernel
theorem dX3_readSign_25 : decode cX3_readSign 25 = .ok (.ireturn, 1) := by decide +kernel
theorem dX3_readSign_26 : decode cX3_readSign 26 = .ok (.aload_n 0, 1) := by decide +kernel
theorem dX3_readSign_27 : decode cX3_readSign 27 = .ok (.dup, 1) := by decide +kernel
theorem dX3_readSign_28 : decode cX3_readSign 28 = .ok (.getfield 41, 3) := by decide +kernel
theorem dX3_readSign_31 : decode cX3_readSign 31 = .ok (.iconst 1, 1) := by decide +kernel
theorem dX3_readSign_32 : decode cX3_readSign 32 = .ok (.iadd, 1) := by decide +kernel
theorem dX3_readSign_33 : decode cX3_readSign 33 = .ok (.putfield 41, 3) := by decide +kernel
theorem dX3_readSign_36 : decode cX3_readSign 36 = .ok (.iconst 1, 1) := by decide +kernel
theorem dX3_readSign_37 : decode cX3_readSign 37 = .ok (.ireturn, 1) := by decide +kernel
theorem dX3_readWord_0 : decode cX3_readWord 0 = .ok (.aload_n 0, 1) := by decide +kernel
theorem dX3_readWord_1 : decode cX3_readWord 1 = .ok (.aload_n 0, 1) := by decide +kernel
theorem dX3_readWord_2 : decode cX3_readWord 2 = .ok (.getfield 41, 3) := by decide +kernel
theorem dX3_readWord_5 : decode cX3_readWord 5 = .ok (.putfield 102, 3) := by decide +kernel
theorem dX3_readWord_8 : decode cX3_readWord 8 = .ok (.aload_n 0, 1) := by decide +kernel
theorem dX3_readWord_9 : decode cX3_readWord 9 = .ok (.getfield 41, 3) := by decide +kernel
theorem dX3_readWord_12 : decode cX3_readWord 12 = .ok (.aload_n 0, 1) := by decide +kernel
theorem dX3_readWord_13 : decode cX3_readWord 13 = .ok (.getfield 19, 3) := by decide +kernel
theorem dX3_readWord_16 : decode cX3_readWord 16 = .ok (.if_icmp .ge 44, 3) := by decide +kernel
theorem dX3_readWord_19 : decode cX3_readWord 19 = .ok (.aload_n 0, 1) := by decide +kernel
theorem dX3_readWord_20 : decode cX3_readWord 20 = .ok (.getfield 9, 3) := by decide +kernel
theorem dX3_readWord_23 : decode cX3_readWord 23 = .ok (.aload_n 0, 1) := by decide +kernel
theorem dX3_readWord_24 : decode cX3_readWord 24 = .ok (.getfield 41, 3) := by decide +kernel
theorem dX3_readWord_27 : decode cX3_readWord 27 = .ok (.caload, 1) := by decide +kernel
theorem dX3_readWord_28 : decode cX3_readWord 28 = .ok (.bipush 32, 2) := by decide +kernel
theorem dX3_readWord_30 : decode cX3_readWord 30 = .ok (.if_icmp .eq 30, 3) := by decide +kernel
theorem dX3_readWord_33 : decode cX3_readWord 33 = .ok (.aload_n 0, 1) := by decide +kernel
theorem dX3_readWord_34 : decode cX3_readWord 34 = .ok (.getfield 9, 3) := by decide +kernel
theorem dX3_readWord_37 : decode cX3_readWord 37 = .ok (.aload_n 0, 1) := by decide +kernel
theorem dX3_readWord_38 : decode cX3_readWord 38 = .ok (.getfield 41, 3) := by decide +kernel
theorem dX3_readWord_41 : decode cX3_readWord 41 = .ok (.caload, 1) := by decide +kernel
theorem dX3_readWord_42 : decode cX3_readWord 42 = .ok (.bipush 59, 2) := by decide +kernel
theorem dX3_readWord_44 : decode cX3_readWord 44 = .ok (.if_icmp .eq 16, 3) := by decide +kernel
theorem dX3_readWord_47 : decode cX3_readWord 47 = .ok (.aload_n 0, 1) := by decide +kernel
theorem dX3_readWord_48 : decode cX3_readWord 48 = .ok (.dup, 1) := by decide +kernel
theorem dX3_readWord_49 : decode cX3_readWord 49 = .ok (.getfield 41, 3) := by decide +kernel
theorem dX3_readWord_52 : decode cX3_readWord 52 = .ok (.iconst 1, 1) := by decide +kernel
theorem dX3_readWord_53 : decode cX3_readWord 53 = .ok (.iadd, 1) := by decide +kernel
theorem dX3_readWord_54 : decode cX3_readWord 54 = .ok (.putfield 41, 3) := by decide +kernel
theorem dX3_readWord_57 : decode cX3_readWord 57 = .ok (.goto (-49), 3) := by decide +kernel
theorem dX3_readWord_60 : decode cX3_readWord 60 = .ok (.return_, 1) := by decide +kernel
set_option maxRecDepth 20000 in
theorem ggX3_wordIs_J0_length_8abf5 : GoodIn wsX3_wordIs wsJ0_length_8abf5 := goodIn_r _ [8, 9, 10, 11, 12, 7, 13, 14, 15] (by decide +kernel) (by decide +kernel)
set_option maxRecDepth 20000 in
theorem gX3_wordIs_J0_length_8abf5 : GoodIn wsX3_wordIs (wsV RX3 23 RJ0 yJ0_length_8abf5 wsJ0_length_8abf5) := goodIn_app (goodIn_of _ (by decide +kernel)) ggX3_wordIs_J0_length_8abf5
set_option maxRecDepth 20000 in
theorem ggX3_wordIs_J0_charAt_5068e : GoodIn wsX3_wordIs wsJ0_charAt_5068e := goodIn_r _ [19, 9, 20, 21, 22, 7, 23, 14, 15, 24, 25, 26, 27, 28, 29, 30, 31, 32, 33, 34, 35, 36, 37, 38, 39, 40, 41, 42, 43, 44, 45, 46, 47, 48, 49, 50, 51, 52] (by decide +kernel) (by decide +kernel)
set_option maxRecDepth 20000 in
theorem gX3_wordIs_J0_charAt_5068e : GoodIn wsX3_wordIs (wsV RX3 28 RJ0 yJ0_charAt_5068e wsJ0_charAt_5068e) := goodIn_app (goodIn_of _ (by decide +kernel)) ggX3_wordIs_J0_charAt_5068e
theorem dX3_wordIs_0 : decode cX3_wordIs 0 = .ok (.aload_n 0, 1) := by decide +kernel
theorem dX3_wordIs_1 : decode cX3_wordIs 1 = .ok (.getfield 41, 3) := by decide +kernel
theorem dX3_wordIs_4 : decode cX3_wordIs 4 = .ok (.aload_n 0, 1) := by decide +kernel
theorem dX3_wordIs_5 : decode cX3_wordIs 5 = .ok (.getfield 102, 3) := by decide +kernel
theorem dX3_wordIs_8 : decode cX3_wordIs 8 = .ok (.isub, 1) := by decide +kernel
theorem dX3_wordIs_9 : decode cX3_wordIs 9 = .ok (.aload_n 1, 1) := by decide +kernel
theorem dX3_wordIs_10 : decode cX3_wordIs 10 = .ok (.invokevirtual 23, 3) := by decide +kernel
theorem dX3_wordIs_13 : decode cX3_wordIs 13 = .ok (.if_icmp .eq 5, 3) := by decide +kernel
theorem dX3_wordIs_16 : decode cX3_wordIs 16 = .ok (.iconst 0, 1) := by decide +kernel
theorem dX3_wordIs_17 : decode cX3_wordIs 17 = .ok (.ireturn, 1) := by decide +kernel
theorem dX3_wordIs_18 : decode cX3_wordIs 18 = .ok (.iconst 0, 1) := by decide +kernel
theorem dX3_wordIs_19 : decode cX3_wordIs 19 = .ok (.istore_n 2, 1) := by decide +kernel
theorem dX3_wordIs_20 : decode cX3_wordIs 20 = .ok (.iload_n 2, 1) := by decide +kernel
theorem dX3_wordIs_21 : decode cX3_wordIs 21 = .ok (.aload_n 1, 1) := by decide +kernel
theorem dX3_wordIs_22 : decode cX3_wordIs 22 = .ok (.invokevirtual 23, 3) := by decide +kernel
theorem dX3_wordIs_25 : decode cX3_wordIs 25 = .ok (.if_icmp .ge 30, 3) := by decide +kernel
theorem dX3_wordIs_28 : decode cX3_wordIs 28 = .ok (.aload_n 0, 1) := by decide +kernel
theorem dX3_wordIs_29 : decode cX3_wordIs 29 = .ok (.getfield 9, 3) := by decide +kernel
theorem dX3_wordIs_32 : decode cX3_wordIs 32 = .ok (.aload_n 0, 1) := by decide +kernel
theorem dX3_wordIs_33 : decode cX3_wordIs 33 = .ok (.getfield 102, 3) := by decide +kernel
theorem dX3_wordIs_36 : decode cX3_wordIs 36 = .ok (.iload_n 2, 1) := by decide +kernel
theorem dX3_wordIs_37 : decode cX3_wordIs 37 = .ok (.iadd, 1) := by decide +kernel
theorem dX3_wordIs_38 : decode cX3_wordIs 38 = .ok (.caload, 1) := by decide +kernel
theorem dX3_wordIs_39 : decode cX3_wordIs 39 = .ok (.aload_n 1, 1) := by decide +kernel
theorem dX3_wordIs_40 : decode cX3_wordIs 40 = .ok (.iload_n 2, 1) := by decide +kernel
theorem dX3_wordIs_41 : decode cX3_wordIs 41 = .ok (.invokevirtual 28, 3) := by decide +kernel
theorem dX3_wordIs_44 : decode cX3_wordIs 44 = .ok (.if_icmp .eq 5, 3) := by decide +kernel
theorem dX3_wordIs_47 : decode cX3_wordIs 47 = .ok (.iconst 0, 1) := by decide +kernel
theorem dX3_wordIs_48 : decode cX3_wordIs 48 = .ok (.ireturn, 1) := by decide +kernel
theorem dX3_wordIs_49 : decode cX3_wordIs 49 = .ok (.iinc 2 1, 3) := by decide +kernel
theorem dX3_wordIs_52 : decode cX3_wordIs 52 = .ok (.goto (-32), 3) := by decide +kernel
theorem dX3_wordIs_55 : decode cX3_wordIs 55 = .ok (.iconst 1, 1) := by decide +kernel
theorem dX3_wordIs_56 : decode cX3_wordIs 56 = .ok (.ireturn, 1) := by decide +kernel
set_option maxRecDepth 20000 in
theorem ggX3_wordAsVoice_X3_wordIs : GoodIn wsX3_wordAsVoice wsX3_wordIs := goodIn_r _ [5, 6, 7, 8, 9, 10, 11, 12, 13, 14, 15, 16, 17, 18, 19, 20, 21, 22, 23, 24, 25, 26, 27, 28, 29, 30, 31, 32, 33, 34, 35, 36, 37, 38, 39, 40, 41, 42, 43, 44, 45, 46, 47, 48, 49, 50, 51, 52, 53, 54, 55, 56, 57, 58, 59, 60, 61, 62, 63, 64] (by decide +kernel) (by decide +kernel)
set_option maxRecDepth 20000 in
theorem gX3_wordAsVoice_X3_wordIs : GoodIn wsX3_wordAsVoice (wsV RX3 59 RX3 yX3_wordIs wsX3_wordIs) := goodIn_app (goodIn_of _ (by decide +kernel)) ggX3_wordAsVoice_X3_wordIs
theorem dX3_wordAsVoice_0 : decode cX3_wordAsVoice 0 = .ok (.aload_n 0, 1) := by decide +kernel
theorem dX3_wordAsVoice_1 : decode cX3_wordAsVoice 1 = .ok (.ldc 105, 2) := by decide +kernel
theorem dX3_wordAsVoice_3 : decode cX3_wordAsVoice 3 = .ok (.invokevirtual 59, 3) := by decide +kernel
theorem dX3_wordAsVoice_6 : decode cX3_wordAsVoice 6 = .ok (.ifCond .eq 5, 3) := by decide +kernel
theorem dX3_wordAsVoice_9 : decode cX3_wordAsVoice 9 = .ok (.iconst 0, 1) := by decide +kernel
theorem dX3_wordAsVoice_10 : decode cX3_wordAsVoice 10 = .ok (.ireturn, 1) := by decide +kernel
theorem dX3_wordAsVoice_11 : decode cX3_wordAsVoice 11 = .ok (.aload_n 0, 1) := by decide +kernel
theorem dX3_wordAsVoice_12 : decode cX3_wordAsVoice 12 = .ok (.ldc 107, 2) := by decide +kernel
theorem dX3_wordAsVoice_14 : decode cX3_wordAsVoice 14 = .ok (.invokevirtual 59, 3) := by decide +kernel
theorem dX3_wordAsVoice_17 : decode cX3_wordAsVoice 17 = .ok (.ifCond .eq 5, 3) := by decide +kernel
theorem dX3_wordAsVoice_20 : decode cX3_wordAsVoice 20 = .ok (.iconst 1, 1) := by decide +kernel
theorem dX3_wordAsVoice_21 : decode cX3_wordAsVoice 21 = .ok (.ireturn, 1) := by decide +kernel
theorem dX3_wordAsVoice_22 : decode cX3_wordAsVoice 22 = .ok (.aload_n 0, 1) := by decide +kernel
theorem dX3_wordAsVoice_23 : decode cX3_wordAsVoice 23 = .ok (.ldc 109, 2) := by decide +kernel
theorem dX3_wordAsVoice_25 : decode cX3_wordAsVoice 25 = .ok (.invokevirtual 59, 3) := by decide +kernel
theorem dX3_wordAsVoice_28 : decode cX3_wordAsVoice 28 = .ok (.ifCond .eq 7, 3) := by decide +kernel
theorem dX3_wordAsVoice_31 : decode cX3_wordAsVoice 31 = .ok (.iconst 2, 1) := by decide +kernel
theorem dX3_wordAsVoice_32 : decode cX3_wordAsVoice 32 = .ok (.goto 4, 3) := by decide +kernel
theorem dX3_wordAsVoice_35 : decode cX3_wordAsVoice 35 = .ok (.iconst (-1), 1) := by decide +kernel
theorem dX3_wordAsVoice_36 : decode cX3_wordAsVoice 36 = .ok (.ireturn, 1) := by decide +kernel
theorem dX3_wordAsNumber_0 : decode cX3_wordAsNumber 0 = .ok (.aload_n 0, 1) := by decide +kernel
theorem dX3_wordAsNumber_1 : decode cX3_wordAsNumber 1 = .ok (.getfield 41, 3) := by decide +kernel
theorem dX3_wordAsNumber_4 : decode cX3_wordAsNumber 4 = .ok (.aload_n 0, 1) := by decide +kernel
theorem dX3_wordAsNumber_5 : decode cX3_wordAsNumber 5 = .ok (.getfield 102, 3) := by decide +kernel
theorem dX3_wordAsNumber_8 : decode cX3_wordAsNumber 8 = .ok (.isub, 1) := by decide +kernel
theorem dX3_wordAsNumber_9 : decode cX3_wordAsNumber 9 = .ok (.istore_n 1, 1) := by decide +kernel
theorem dX3_wordAsNumber_10 : decode cX3_wordAsNumber 10 = .ok (.iload_n 1, 1) := by decide +kernel
theorem dX3_wordAsNumber_11 : decode cX3_wordAsNumber 11 = .ok (.iconst 1, 1) := by decide +kernel
theorem dX3_wordAsNumber_12 : decode cX3_wordAsNumber 12 = .ok (.if_icmp .lt 8, 3) := by decide +kernel
theorem dX3_wordAsNumber_15 : decode cX3_wordAsNumber 15 = .ok (.iload_n 1, 1) := by decide +kernel
theorem dX3_wordAsNumber_16 : decode cX3_wordAsNumber 16 = .ok (.iconst 3, 1) := by decide +kernel
theorem dX3_wordAsNumber_17 : decode cX3_wordAsNumber 17 = .ok (.if_icmp .le 5, 3) := by decide +kernel
theorem dX3_wordAsNumber_20 : decode cX3_wordAsNumber 20 = .ok (.iconst (-1), 1) := by decide +kernel
theorem dX3_wordAsNumber_21 : decode cX3_wordAsNumber 21 = .ok (.ireturn, 1) := by decide +kernel
theorem dX3_wordAsNumber_22 : decode cX3_wordAsNumber 22 = .ok (.iconst 0, 1) := by decide +kernel
theorem dX3_wordAsNumber_23 : decode cX3_wordAsNumber 23 = .ok (.istore_n 2, 1) := by decide +kernel
theorem dX3_wordAsNumber_24 : decode cX3_wordAsNumber 24 = .ok (.aload_n 0, 1) := by decide +kernel
theorem dX3_wordAsNumber_25 : decode cX3_wordAsNumber 25 = .ok (.getfield 102, 3) := by decide +kernel
theorem dX3_wordAsNumber_28 : decode cX3_wordAsNumber 28 = .ok (.istore_n 3, 1) := by decide +kernel
theorem dX3_wordAsNumber_29 : decode cX3_wordAsNumber 29 = .ok (.iload_n 3, 1) := by decide +kernel
theorem dX3_wordAsNumber_30 : decode cX3_wordAsNumber 30 = .ok (.aload_n 0, 1) := by decide +kernel
theorem dX3_wordAsNumber_31 : decode cX3_wordAsNumber 31 = .ok (.getfield 41, 3) := by decide +kernel
theorem dX3_wordAsNumber_34 : decode cX3_wordAsNumber 34 = .ok (.if_icmp .ge 48, 3) := by decide +kernel
theorem dX3_wordAsNumber_37 : decode cX3_wordAsNumber 37 = .ok (.aload_n 0, 1) := by decide +kernel
theorem dX3_wordAsNumber_38 : decode cX3_wordAsNumber 38 = .ok (.getfield 9, 3) := by decide +kernel
theorem dX3_wordAsNumber_41 : decode cX3_wordAsNumber 41 = .ok (.iload_n 3, 1) := by decide +kernel
theorem dX3_wordAsNumber_42 : decode cX3_wordAsNumber 42 = .ok (.caload, 1) := by decide +kernel
theorem dX3_wordAsNumber_43 : decode cX3_wordAsNumber 43 = .ok (.bipush 48, 2) := by decide +kernel
theorem dX3_wordAsNumber_45 : decode cX3_wordAsNumber 45 = .ok (.if_icmp .lt 14, 3) := by decide +kernel
theorem dX3_wordAsNumber_48 : decode cX3_wordAsNumber 48 = .ok (.aload_n 0, 1) := by decide +kernel
theorem dX3_wordAsNumber_49 : decode cX3_wordAsNumber 49 = .ok (.getfield 9, 3) := by decide +kernel
theorem dX3_wordAsNumber_52 : decode cX3_wordAsNumber 52 = .ok (.iload_n 3, 1) := by decide +kernel
theorem dX3_wordAsNumber_53 : decode cX3_wordAsNumber 53 = .ok (.caload, 1) := by decide +kernel
theorem dX3_wordAsNumber_54 : decode cX3_wordAsNumber 54 = .ok (.bipush 57, 2) := by decide +kernel
theorem dX3_wordAsNumber_56 : decode cX3_wordAsNumber 56 = .ok (.if_icmp .le 5, 3) := by decide +kernel
theorem dX3_wordAsNumber_59 : decode cX3_wordAsNumber 59 = .ok (.iconst (-1), 1) := by decide +kernel
theorem dX3_wordAsNumber_60 : decode cX3_wordAsNumber 60 = .ok (.ireturn, 1) := by decide +kernel
theorem dX3_wordAsNumber_61 : decode cX3_wordAsNumber 61 = .ok (.bipush 10, 2) := by decide +kernel
theorem dX3_wordAsNumber_63 : decode cX3_wordAsNumber 63 = .ok (.iload_n 2, 1) := by decide +kernel
theorem dX3_wordAsNumber_64 : decode cX3_wordAsNumber 64 = .ok (.imul, 1) := by decide +kernel
theorem dX3_wordAsNumber_65 : decode cX3_wordAsNumber 65 = .ok (.aload_n 0, 1) := by decide +kernel
theorem dX3_wordAsNumber_66 : decode cX3_wordAsNumber 66 = .ok (.getfield 9, 3) := by decide +kernel
theorem dX3_wordAsNumber_69 : decode cX3_wordAsNumber 69 = .ok (.iload_n 3, 1) := by decide +kernel
theorem dX3_wordAsNumber_70 : decode cX3_wordAsNumber 70 = .ok (.caload, 1) := by decide +kernel
theorem dX3_wordAsNumber_71 : decode cX3_wordAsNumber 71 = .ok (.bipush 48, 2) := by decide +kernel
theorem dX3_wordAsNumber_73 : decode cX3_wordAsNumber 73 = .ok (.isub, 1) := by decide +kernel
theorem dX3_wordAsNumber_74 : decode cX3_wordAsNumber 74 = .ok (.iadd, 1) := by decide +kernel
theorem dX3_wordAsNumber_75 : decode cX3_wordAsNumber 75 = .ok (.istore_n 2, 1) := by decide +kernel
theorem dX3_wordAsNumber_76 : decode cX3_wordAsNumber 76 = .ok (.iinc 3 1, 3) := by decide +kernel
theorem dX3_wordAsNumber_79 : decode cX3_wordAsNumber 79 = .ok (.goto (-50), 3) := by decide +kernel
theorem dX3_wordAsNumber_82 : decode cX3_wordAsNumber 82 = .ok (.iload_n 2, 1) := by decide +kernel
theorem dX3_wordAsNumber_83 : decode cX3_wordAsNumber 83 = .ok (.ireturn, 1) := by decide +kernel
theorem dX4_init_0 : decode cX4_init 0 = .ok (.aload_n 0, 1) := by decide +kernel
theorem dX4_init_1 : decode cX4_init 1 = .ok (.invokespecial 3, 3) := by decide +kernel
theorem dX4_init_4 : decode cX4_init 4 = .ok (.aload_n 0, 1) := by decide +kernel
theorem dX4_init_5 : decode cX4_init 5 = .ok (.bipush 8, 2) := by decide +kernel
theorem dX4_init_7 : decode cX4_init 7 = .ok (.bipush 8, 2) := by decide +kernel
theorem dX4_init_9 : decode cX4_init 9 = .ok (.multianewarray 9 2, 4) := by decide +kernel
theorem dX4_init_13 : decode cX4_init 13 = .ok (.putfield 11, 3) := by decide +kernel
theorem dX4_init_16 : decode cX4_init 16 = .ok (.aload_n 0, 1) := by decide +kernel
theorem dX4_init_17 : decode cX4_init 17 = .ok (.aload_n 1, 1) := by decide +kernel
theorem dX4_init_18 : decode cX4_init 18 = .ok (.putfield 16, 3) := by decide +kernel
theorem dX4_init_21 : decode cX4_init 21 = .ok (.return_, 1) := by decide +kernel
set_option maxRecDepth 20000 in
theorem ggX4_measure_X4_compare : GoodIn wsX4_measure wsX4_compare := goodIn_r _ [8, 2, 9, 1, 10, 11, 12, 13, 14, 7, 15, 16, 17, 18, 19, 20, 21, 22, 23, 24, 25, 26, 27, 28, 29, 30, 31, 32, 33, 34, 35, 36, 37, 38] (by decide +kernel) (by decide +kernel)
set_option maxRecDepth 20000 in
theorem gX4_measure_X4_compare : GoodIn wsX4_measure (wsV RX4 26 RX4 yX4_compare wsX4_compare) := goodIn_app (goodIn_of _ (by decide +kernel)) ggX4_measure_X4_compare
theorem dX4_measure_0 : decode cX4_measure 0 = .ok (.iconst 0, 1) := by decide +kernel
theorem dX4_measure_1 : decode cX4_measure 1 = .ok (.istore_n 1, 1) := by decide +kernel
theorem dX4_measure_2 : decode cX4_measure 2 = .ok (.iload_n 1, 1) := by decide +kernel
theorem dX4_measure_3 : decode cX4_measure 3 = .ok (.bipush 8, 2) := by decide +kernel
theorem dX4_measure_5 : decode cX4_measure 5 = .ok (.if_icmp .ge 34, 3) := by decide +kernel
theorem dX4_measure_8 : decode cX4_measure 8 = .ok (.iconst 0, 1) := by decide +kernel
theorem dX4_measure_9 : decode cX4_measure 9 = .ok (.istore_n 2, 1) := by decide +kernel
theorem dX4_measure_10 : decode cX4_measure 10 = .ok (.iload_n 2, 1) := by decide +kernel
theorem dX4_measure_11 : decode cX4_measure 11 = .ok (.bipush 8, 2) := by decide +kernel
theorem dX4_measure_13 : decode cX4_measure 13 = .ok (.if_icmp .ge 20, 3) := by decide +kernel
theorem dX4_measure_16 : decode cX4_measure 16 = .ok (.aload_n 0, 1) := by decide +kernel
theorem dX4_measure_17 : decode cX4_measure 17 = .ok (.getfield 11, 3) := by decide +kernel
theorem dX4_measure_20 : decode cX4_measure 20 = .ok (.iload_n 1, 1) := by decide +kernel
theorem dX4_measure_21 : decode cX4_measure 21 = .ok (.aaload, 1) := by decide +kernel
theorem dX4_measure_22 : decode cX4_measure 22 = .ok (.iload_n 2, 1) := by decide +kernel
theorem dX4_measure_23 : decode cX4_measure 23 = .ok (.sipush (-1004), 3) := by decide +kernel
theorem dX4_measure_26 : decode cX4_measure 26 = .ok (.iastore, 1) := by decide +kernel
theorem dX4_measure_27 : decode cX4_measure 27 = .ok (.iinc 2 1, 3) := by decide +kernel
theorem dX4_measure_30 : decode cX4_measure 30 = .ok (.goto (-20), 3) := by decide +kernel
theorem dX4_measure_33 : decode cX4_measure 33 = .ok (.iinc 1 1, 3) := by decide +kernel
theorem dX4_measure_36 : decode cX4_measure 36 = .ok (.goto (-34), 3) := by decide +kernel
theorem dX4_measure_39 : decode cX4_measure 39 = .ok (.iconst 1, 1) := by decide +kernel
theorem dX4_measure_40 : decode cX4_measure 40 = .ok (.istore_n 1, 1) := by decide +kernel
theorem dX4_measure_41 : decode cX4_measure 41 = .ok (.iload_n 1, 1) := by decide +kernel
theorem dX4_measure_42 : decode cX4_measure 42 = .ok (.aload_n 0, 1) := by decide +kernel
theorem dX4_measure_43 : decode cX4_measure 43 = .ok (.getfield 16, 3) := by decide +kernel
theorem dX4_measure_46 : decode cX4_measure 46 = .ok (.getfield 20, 3) := by decide +kernel
theorem dX4_measure_49 : decode cX4_measure 49 = .ok (.if_icmp .ge 28, 3) := by decide +kernel
theorem dX4_measure_52 : decode cX4_measure 52 = .ok (.iconst 0, 1) := by decide +kernel
theorem dX4_measure_53 : decode cX4_measure 53 = .ok (.istore_n 2, 1) := by decide +kernel
theorem dX4_measure_54 : decode cX4_measure 54 = .ok (.iload_n 2, 1) := by decide +kernel
theorem dX4_measure_55 : decode cX4_measure 55 = .ok (.iload_n 1, 1) := by decide +kernel
theorem dX4_measure_56 : decode cX4_measure 56 = .ok (.if_icmp .ge 15, 3) := by decide +kernel
theorem dX4_measure_59 : decode cX4_measure 59 = .ok (.aload_n 0, 1) := by decide +kernel
theorem dX4_measure_60 : decode cX4_measure 60 = .ok (.iload_n 1, 1) := by decide +kernel
theorem dX4_measure_61 : decode cX4_measure 61 = .ok (.iload_n 2, 1) := by decide +kernel
theorem dX4_measure_62 : decode cX4_measure 62 = .ok (.invokevirtual 26, 3) := by decide +kernel
theorem dX4_measure_65 : decode cX4_measure 65 = .ok (.iinc 2 1, 3) := by decide +kernel
theorem dX4_measure_68 : decode cX4_measure 68 = .ok (.goto (-14), 3) := by decide +kernel
theorem dX4_measure_71 : decode cX4_measure 71 = .ok (.iinc 1 1, 3) := by decide +kernel
theorem dX4_measure_74 : decode cX4_measure 74 = .ok (.goto (-33), 3) := by decide +kernel
theorem dX4_measure_77 : decode cX4_measure 77 = .ok (.return_, 1) := by decide +kernel
set_option maxRecDepth 20000 in
theorem ggX4_compare_X4_slackFrom : GoodIn wsX4_compare wsX4_slackFrom := goodIn_r _ [10, 1, 11, 2, 12, 5, 4, 20, 21, 22, 23, 24, 25, 26, 27, 28, 29, 30, 31, 32, 33] (by decide +kernel) (by decide +kernel)
set_option maxRecDepth 20000 in
theorem gX4_compare_X4_slackFrom : GoodIn wsX4_compare (wsV RX4 40 RX4 yX4_slackFrom wsX4_slackFrom) := goodIn_app (goodIn_of _ (by decide +kernel)) ggX4_compare_X4_slackFrom
set_option maxRecDepth 20000 in
theorem ggX4_compare_X5_lesserSlack : GoodIn wsX4_compare wsX5_lesserSlack := goodIn_r _ [15, 16, 17, 18, 19] (by decide +kernel) (by decide +kernel)
set_option maxRecDepth 20000 in
theorem gX4_compare_X5_lesserSlack_n44 : GoodIn wsX4_compare (wsX5_lesserSlack) := ggX4_compare_X5_lesserSlack
end
section
theorem dX4_compare_0 : decode cX4_compare 0 = .ok (.aload_n 0, 1) := by decide +kernel
theorem dX4_compare_1 : decode cX4_compare 1 = .ok (.getfield 16, 3) := by decide +kernel
theorem dX4_compare_4 : decode cX4_compare 4 = .ok (.getfield 30, 3) := by decide +kernel
theorem dX4_compare_7 : decode cX4_compare 7 = .ok (.iload_n 1, 1) := by decide +kernel
theorem dX4_compare_8 : decode cX4_compare 8 = .ok (.iaload, 1) := by decide +kernel
theorem dX4_compare_9 : decode cX4_compare 9 = .ok (.istore_n 3, 1) := by decide +kernel
theorem dX4_compare_10 : decode cX4_compare 10 = .ok (.aload_n 0, 1) := by decide +kernel
theorem dX4_compare_11 : decode cX4_compare 11 = .ok (.getfield 16, 3) := by decide +kernel
theorem dX4_compare_14 : decode cX4_compare 14 = .ok (.getfield 30, 3) := by decide +kernel
theorem dX4_compare_17 : decode cX4_compare 17 = .ok (.iload_n 2, 1) := by decide +kernel
theorem dX4_compare_18 : decode cX4_compare 18 = .ok (.iaload, 1) := by decide +kernel
theorem dX4_compare_19 : decode cX4_compare 19 = .ok (.istore 4, 2) := by decide +kernel
theorem dX4_compare_21 : decode cX4_compare 21 = .ok (.iload_n 3, 1) := by decide +kernel
theorem dX4_compare_22 : decode cX4_compare 22 = .ok (.iload 4, 2) := by decide +kernel
theorem dX4_compare_24 : decode cX4_compare 24 = .ok (.if_icmp .eq 18, 3) := by decide +kernel
theorem dX4_compare_27 : decode cX4_compare 27 = .ok (.aload_n 0, 1) := by decide +kernel
theorem dX4_compare_28 : decode cX4_compare 28 = .ok (.getfield 11, 3) := by decide +kernel
theorem dX4_compare_31 : decode cX4_compare 31 = .ok (.iload_n 3, 1) := by decide +kernel
theorem dX4_compare_32 : decode cX4_compare 32 = .ok (.aaload, 1) := by decide +kernel
theorem dX4_compare_33 : decode cX4_compare 33 = .ok (.iload 4, 2) := by decide +kernel
theorem dX4_compare_35 : decode cX4_compare 35 = .ok (.iaload, 1) := by decide +kernel
theorem dX4_compare_36 : decode cX4_compare 36 = .ok (.sipush (-1002), 3) := by decide +kernel
theorem dX4_compare_39 : decode cX4_compare 39 = .ok (.if_icmp .ne 4, 3) := by decide +kernel
theorem dX4_compare_42 : decode cX4_compare 42 = .ok (.return_, 1) := by decide +kernel
theorem dX4_compare_43 : decode cX4_compare 43 = .ok (.sipush (-1002), 3) := by decide +kernel
theorem dX4_compare_46 : decode cX4_compare 46 = .ok (.istore 5, 2) := by decide +kernel
theorem dX4_compare_48 : decode cX4_compare 48 = .ok (.aload_n 0, 1) := by decide +kernel
theorem dX4_compare_49 : decode cX4_compare 49 = .ok (.getfield 16, 3) := by decide +kernel
theorem dX4_compare_52 : decode cX4_compare 52 = .ok (.getfield 34, 3) := by decide +kernel
theorem dX4_compare_55 : decode cX4_compare 55 = .ok (.iload_n 1, 1) := by decide +kernel
theorem dX4_compare_56 : decode cX4_compare 56 = .ok (.iaload, 1) := by decide +kernel
theorem dX4_compare_57 : decode cX4_compare 57 = .ok (.aload_n 0, 1) := by decide +kernel
theorem dX4_compare_58 : decode cX4_compare 58 = .ok (.getfield 16, 3) := by decide +kernel
theorem dX4_compare_61 : decode cX4_compare 61 = .ok (.getfield 37, 3) := by decide +kernel
theorem dX4_compare_64 : decode cX4_compare 64 = .ok (.iload_n 2, 1) := by decide +kernel
theorem dX4_compare_65 : decode cX4_compare 65 = .ok (.iaload, 1) := by decide +kernel
theorem dX4_compare_66 : decode cX4_compare 66 = .ok (.if_icmp .gt 26, 3) := by decide +kernel
theorem dX4_compare_69 : decode cX4_compare 69 = .ok (.aload_n 0, 1) := by decide +kernel
theorem dX4_compare_70 : decode cX4_compare 70 = .ok (.getfield 11, 3) := by decide +kernel
theorem dX4_compare_73 : decode cX4_compare 73 = .ok (.iload_n 3, 1) := by decide +kernel
theorem dX4_compare_74 : decode cX4_compare 74 = .ok (.aaload, 1) := by decide +kernel
theorem dX4_compare_75 : decode cX4_compare 75 = .ok (.iload 4, 2) := by decide +kernel
theorem dX4_compare_77 : decode cX4_compare 77 = .ok (.iaload, 1) := by decide +kernel
theorem dX4_compare_78 : decode cX4_compare 78 = .ok (.aload_n 0, 1) := by decide +kernel
theorem dX4_compare_79 : decode cX4_compare 79 = .ok (.iload_n 1, 1) := by decide +kernel
theorem dX4_compare_80 : decode cX4_compare 80 = .ok (.iload_n 2, 1) := by decide +kernel
theorem dX4_compare_81 : decode cX4_compare 81 = .ok (.invokevirtual 40, 3) := by decide +kernel
theorem dX4_compare_84 : decode cX4_compare 84 = .ok (.invokestatic 44, 3) := by decide +kernel
theorem dX4_compare_87 : decode cX4_compare 87 = .ok (.istore 5, 2) := by decide +kernel
theorem dX4_compare_89 : decode cX4_compare 89 = .ok (.goto 44, 3) := by decide +kernel
theorem dX4_compare_92 : decode cX4_compare 92 = .ok (.aload_n 0, 1) := by decide +kernel
theorem dX4_compare_93 : decode cX4_compare 93 = .ok (.getfield 16, 3) := by decide +kernel
theorem dX4_compare_96 : decode cX4_compare 96 = .ok (.getfield 34, 3) := by decide +kernel
theorem dX4_compare_99 : decode cX4_compare 99 = .ok (.iload_n 2, 1) := by decide +kernel
theorem dX4_compare_100 : decode cX4_compare 100 = .ok (.iaload, 1) := by decide +kernel
theorem dX4_compare_101 : decode cX4_compare 101 = .ok (.aload_n 0, 1) := by decide +kernel
theorem dX4_compare_102 : decode cX4_compare 102 = .ok (.getfield 16, 3) := by decide +kernel
theorem dX4_compare_105 : decode cX4_compare 105 = .ok (.getfield 37, 3) := by decide +kernel
theorem dX4_compare_108 : decode cX4_compare 108 = .ok (.iload_n 1, 1) := by decide +kernel
theorem dX4_compare_109 : decode cX4_compare 109 = .ok (.iaload, 1) := by decide +kernel
theorem dX4_compare_110 : decode cX4_compare 110 = .ok (.if_icmp .gt 23, 3) := by decide +kernel
theorem dX4_compare_113 : decode cX4_compare 113 = .ok (.aload_n 0, 1) := by decide +kernel
theorem dX4_compare_114 : decode cX4_compare 114 = .ok (.getfield 11, 3) := by decide +kernel
theorem dX4_compare_117 : decode cX4_compare 117 = .ok (.iload_n 3, 1) := by decide +kernel
theorem dX4_compare_118 : decode cX4_compare 118 = .ok (.aaload, 1) := by decide +kernel
theorem dX4_compare_119 : decode cX4_compare 119 = .ok (.iload 4, 2) := by decide +kernel
theorem dX4_compare_121 : decode cX4_compare 121 = .ok (.iaload, 1) := by decide +kernel
theorem dX4_compare_122 : decode cX4_compare 122 = .ok (.aload_n 0, 1) := by decide +kernel
theorem dX4_compare_123 : decode cX4_compare 123 = .ok (.iload_n 2, 1) := by decide +kernel
theorem dX4_compare_124 : decode cX4_compare 124 = .ok (.iload_n 1, 1) := by decide +kernel
theorem dX4_compare_125 : decode cX4_compare 125 = .ok (.invokevirtual 40, 3) := by decide +kernel
theorem dX4_compare_128 : decode cX4_compare 128 = .ok (.invokestatic 44, 3) := by decide +kernel
theorem dX4_compare_131 : decode cX4_compare 131 = .ok (.istore 5, 2) := by decide +kernel
theorem dX4_compare_133 : decode cX4_compare 133 = .ok (.aload_n 0, 1) := by decide +kernel
theorem dX4_compare_134 : decode cX4_compare 134 = .ok (.getfield 11, 3) := by decide +kernel
theorem dX4_compare_137 : decode cX4_compare 137 = .ok (.iload_n 3, 1) := by decide +kernel
theorem dX4_compare_138 : decode cX4_compare 138 = .ok (.aaload, 1) := by decide +kernel
theorem dX4_compare_139 : decode cX4_compare 139 = .ok (.iload 4, 2) := by decide +kernel
theorem dX4_compare_141 : decode cX4_compare 141 = .ok (.iload 5, 2) := by decide +kernel
theorem dX4_compare_143 : decode cX4_compare 143 = .ok (.iastore, 1) := by decide +kernel
theorem dX4_compare_144 : decode cX4_compare 144 = .ok (.aload_n 0, 1) := by decide +kernel
theorem dX4_compare_145 : decode cX4_compare 145 = .ok (.getfield 11, 3) := by decide +kernel
theorem dX4_compare_148 : decode cX4_compare 148 = .ok (.iload 4, 2) := by decide +kernel
theorem dX4_compare_150 : decode cX4_compare 150 = .ok (.aaload, 1) := by decide +kernel
theorem dX4_compare_151 : decode cX4_compare 151 = .ok (.iload_n 3, 1) := by decide +kernel
theorem dX4_compare_152 : decode cX4_compare 152 = .ok (.iload 5, 2) := by decide +kernel
theorem dX4_compare_154 : decode cX4_compare 154 = .ok (.iastore, 1) := by decide +kernel
theorem dX4_compare_155 : decode cX4_compare 155 = .ok (.return_, 1) := by decide +kernel
theorem dX4_slackFrom_0 : decode cX4_slackFrom 0 = .ok (.aload_n 0, 1) := by decide +kernel
theorem dX4_slackFrom_1 : decode cX4_slackFrom 1 = .ok (.getfield 16, 3) := by decide +kernel
theorem dX4_slackFrom_4 : decode cX4_slackFrom 4 = .ok (.getfield 47, 3) := by decide +kernel
theorem dX4_slackFrom_7 : decode cX4_slackFrom 7 = .ok (.aload_n 0, 1) := by decide +kernel
theorem dX4_slackFrom_8 : decode cX4_slackFrom 8 = .ok (.getfield 16, 3) := by decide +kernel
theorem dX4_slackFrom_11 : decode cX4_slackFrom 11 = .ok (.getfield 30, 3) := by decide +kernel
theorem dX4_slackFrom_14 : decode cX4_slackFrom 14 = .ok (.iload_n 1, 1) := by decide +kernel
theorem dX4_slackFrom_15 : decode cX4_slackFrom 15 = .ok (.iaload, 1) := by decide +kernel
theorem dX4_slackFrom_16 : decode cX4_slackFrom 16 = .ok (.iaload, 1) := by decide +kernel
theorem dX4_slackFrom_17 : decode cX4_slackFrom 17 = .ok (.aload_n 0, 1) := by decide +kernel
theorem dX4_slackFrom_18 : decode cX4_slackFrom 18 = .ok (.getfield 16, 3) := by decide +kernel
theorem dX4_slackFrom_21 : decode cX4_slackFrom 21 = .ok (.getfield 50, 3) := by decide +kernel
theorem dX4_slackFrom_24 : decode cX4_slackFrom 24 = .ok (.aload_n 0, 1) := by decide +kernel
theorem dX4_slackFrom_25 : decode cX4_slackFrom 25 = .ok (.getfield 16, 3) := by decide +kernel
theorem dX4_slackFrom_28 : decode cX4_slackFrom 28 = .ok (.getfield 30, 3) := by decide +kernel
theorem dX4_slackFrom_31 : decode cX4_slackFrom 31 = .ok (.iload_n 2, 1) := by decide +kernel
theorem dX4_slackFrom_32 : decode cX4_slackFrom 32 = .ok (.iaload, 1) := by decide +kernel
theorem dX4_slackFrom_33 : decode cX4_slackFrom 33 = .ok (.iaload, 1) := by decide +kernel
theorem dX4_slackFrom_34 : decode cX4_slackFrom 34 = .ok (.iadd, 1) := by decide +kernel
theorem dX4_slackFrom_35 : decode cX4_slackFrom 35 = .ok (.istore_n 3, 1) := by decide +kernel
theorem dX4_slackFrom_36 : decode cX4_slackFrom 36 = .ok (.aload_n 0, 1) := by decide +kernel
theorem dX4_slackFrom_37 : decode cX4_slackFrom 37 = .ok (.getfield 16, 3) := by decide +kernel
theorem dX4_slackFrom_40 : decode cX4_slackFrom 40 = .ok (.getfield 37, 3) := by decide +kernel
theorem dX4_slackFrom_43 : decode cX4_slackFrom 43 = .ok (.iload_n 2, 1) := by decide +kernel
theorem dX4_slackFrom_44 : decode cX4_slackFrom 44 = .ok (.iaload, 1) := by decide +kernel
theorem dX4_slackFrom_45 : decode cX4_slackFrom 45 = .ok (.aload_n 0, 1) := by decide +kernel
theorem dX4_slackFrom_46 : decode cX4_slackFrom 46 = .ok (.getfield 16, 3) := by decide +kernel
theorem dX4_slackFrom_49 : decode cX4_slackFrom 49 = .ok (.getfield 34, 3) := by decide +kernel
theorem dX4_slackFrom_52 : decode cX4_slackFrom 52 = .ok (.iload_n 1, 1) := by decide +kernel
theorem dX4_slackFrom_53 : decode cX4_slackFrom 53 = .ok (.iaload, 1) := by decide +kernel
theorem dX4_slackFrom_54 : decode cX4_slackFrom 54 = .ok (.isub, 1) := by decide +kernel
theorem dX4_slackFrom_55 : decode cX4_slackFrom 55 = .ok (.iload_n 3, 1) := by decide +kernel
theorem dX4_slackFrom_56 : decode cX4_slackFrom 56 = .ok (.isub, 1) := by decide +kernel
theorem dX4_slackFrom_57 : decode cX4_slackFrom 57 = .ok (.ireturn, 1) := by decide +kernel
theorem dX4_reason_0 : decode cX4_reason 0 = .ok (.aload_n 0, 1) := by decide +kernel
theorem dX4_reason_1 : decode cX4_reason 1 = .ok (.getfield 16, 3) := by decide +kernel
theorem dX4_reason_4 : decode cX4_reason 4 = .ok (.getfield 53, 3) := by decide +kernel
theorem dX4_reason_7 : decode cX4_reason 7 = .ok (.iload_n 1, 1) := by decide +kernel
theorem dX4_reason_8 : decode cX4_reason 8 = .ok (.iaload, 1) := by decide +kernel
theorem dX4_reason_9 : decode cX4_reason 9 = .ok (.aload_n 0, 1) := by decide +kernel
theorem dX4_reason_10 : decode cX4_reason 10 = .ok (.getfield 16, 3) := by decide +kernel
theorem dX4_reason_13 : decode cX4_reason 13 = .ok (.getfield 53, 3) := by decide +kernel
theorem dX4_reason_16 : decode cX4_reason 16 = .ok (.iload_n 2, 1) := by decide +kernel
theorem dX4_reason_17 : decode cX4_reason 17 = .ok (.iaload, 1) := by decide +kernel
theorem dX4_reason_18 : decode cX4_reason 18 = .ok (.if_icmp .eq 5, 3) := by decide +kernel
theorem dX4_reason_21 : decode cX4_reason 21 = .ok (.iconst 1, 1) := by decide +kernel
theorem dX4_reason_22 : decode cX4_reason 22 = .ok (.ireturn, 1) := by decide +kernel
theorem dX4_reason_23 : decode cX4_reason 23 = .ok (.aload_n 0, 1) := by decide +kernel
theorem dX4_reason_24 : decode cX4_reason 24 = .ok (.getfield 11, 3) := by decide +kernel
theorem dX4_reason_27 : decode cX4_reason 27 = .ok (.iload_n 1, 1) := by decide +kernel
theorem dX4_reason_28 : decode cX4_reason 28 = .ok (.aaload, 1) := by decide +kernel
theorem dX4_reason_29 : decode cX4_reason 29 = .ok (.iload_n 2, 1) := by decide +kernel
theorem dX4_reason_30 : decode cX4_reason 30 = .ok (.iaload, 1) := by decide +kernel
theorem dX4_reason_31 : decode cX4_reason 31 = .ok (.istore 4, 2) := by decide +kernel
theorem dX4_reason_33 : decode cX4_reason 33 = .ok (.iload 4, 2) := by decide +kernel
theorem dX4_reason_35 : decode cX4_reason 35 = .ok (.sipush (-1002), 3) := by decide +kernel
theorem dX4_reason_38 : decode cX4_reason 38 = .ok (.if_icmp .ne 5, 3) := by decide +kernel
theorem dX4_reason_41 : decode cX4_reason 41 = .ok (.iconst 2, 1) := by decide +kernel
theorem dX4_reason_42 : decode cX4_reason 42 = .ok (.ireturn, 1) := by decide +kernel
theorem dX4_reason_43 : decode cX4_reason 43 = .ok (.iload 4, 2) := by decide +kernel
theorem dX4_reason_45 : decode cX4_reason 45 = .ok (.sipush (-1004), 3) := by decide +kernel
theorem dX4_reason_48 : decode cX4_reason 48 = .ok (.if_icmp .ne 5, 3) := by decide +kernel
theorem dX4_reason_51 : decode cX4_reason 51 = .ok (.iconst 0, 1) := by decide +kernel
theorem dX4_reason_52 : decode cX4_reason 52 = .ok (.ireturn, 1) := by decide +kernel
theorem dX4_reason_53 : decode cX4_reason 53 = .ok (.iload 4, 2) := by decide +kernel
theorem dX4_reason_55 : decode cX4_reason 55 = .ok (.iload_n 3, 1) := by decide +kernel
theorem dX4_reason_56 : decode cX4_reason 56 = .ok (.iadd, 1) := by decide +kernel
theorem dX4_reason_57 : decode cX4_reason 57 = .ok (.ifCond .ge 7, 3) := by decide +kernel
theorem dX4_reason_60 : decode cX4_reason 60 = .ok (.iconst 3, 1) := by decide +kernel
theorem dX4_reason_61 : decode cX4_reason 61 = .ok (.goto 4, 3) := by decide +kernel
theorem dX4_reason_64 : decode cX4_reason 64 = .ok (.iconst 0, 1) := by decide +kernel
theorem dX4_reason_65 : decode cX4_reason 65 = .ok (.ireturn, 1) := by decide +kernel
set_option maxRecDepth 20000 in
theorem ggX5_init_X3_init : GoodIn wsX5_init wsX3_init := goodIn_r _ [27, 28, 2, 3, 29, 30, 31, 32, 248, 249, 250, 251, 252, 253, 254] (by decide +kernel) (by decide +kernel)
set_option maxRecDepth 20000 in
theorem gX5_init_X3_init_n11 : GoodIn wsX5_init (wsX3_init) := ggX5_init_X3_init
set_option maxRecDepth 20000 in
theorem ggX5_init_X2_init : GoodIn wsX5_init wsX2_init := goodIn_r _ [34, 35, 2, 3, 31, 36, 37, 38, 39, 40, 41, 42, 43, 44, 261, 262, 263, 264, 265, 266, 267, 268, 269, 270, 271, 272] (by decide +kernel) (by decide +kernel)
set_option maxRecDepth 20000 in
theorem gX5_init_X2_init_n18 : GoodIn wsX5_init (wsX2_init) := ggX5_init_X2_init
set_option maxRecDepth 20000 in
theorem ggX5_init_X4_init : GoodIn wsX5_init wsX4_init := goodIn_r _ [47, 48, 2, 3, 49, 31, 50, 51, 273, 274] (by decide +kernel) (by decide +kernel)
set_option maxRecDepth 20000 in
theorem gX5_init_X4_init : GoodIn wsX5_init (wsX4_init) := ggX5_init_X4_init
set_option maxRecDepth 20000 in
theorem ggX5_init_X0_init : GoodIn wsX5_init wsX0_init := goodIn_r _ [53, 54, 2, 3, 31, 55, 56, 275, 276, 277] (by decide +kernel) (by decide +kernel)
set_option maxRecDepth 20000 in
theorem gX5_init_X0_init_n37 : GoodIn wsX5_init (wsX0_init) := ggX5_init_X0_init
set_option maxRecDepth 20000 in
theorem ggX5_init_X1_init : GoodIn wsX5_init wsX1_init := goodIn_r _ [59, 60, 2, 3, 61, 62, 9, 10, 33, 34, 35, 31, 36, 37, 38, 39, 40, 41, 42, 43, 44, 278, 279, 261, 262, 263, 264, 265, 266, 267, 268, 269, 270, 271, 272] (by decide +kernel) (by decide +kernel)
set_option maxRecDepth 20000 in
theorem gX5_init_X1_init : GoodIn wsX5_init (wsX1_init) := ggX5_init_X1_init
set_option maxRecDepth 20000 in
theorem ggX5_init_X3_putAll : GoodIn wsX5_init wsX3_putAll := goodIn_r _ [66, 67, 68, 69, 70, 71, 72, 73, 74, 75, 76, 77, 78, 79, 80, 81, 82, 83, 84, 85, 86, 87, 88, 89, 90, 91, 92, 93, 94, 95, 96, 97, 98, 99, 100, 101, 102, 103, 104, 105, 106, 107, 108, 109, 110, 111, 112, 113, 114, 115, 116, 117, 118, 6, 119, 120, 30, 248, 249, 250, 251, 252, 253, 254] (by decide +kernel) (by decide +kernel)
set_option maxRecDepth 20000 in
theorem gX5_init_X3_putAll : GoodIn wsX5_init (wsV RX5 51 RX3 yX3_putAll wsX3_putAll) := goodIn_app (goodIn_of _ (by decide +kernel)) ggX5_init_X3_putAll
set_option maxRecDepth 20000 in
theorem ggX5_init_X3_readInto : GoodIn wsX5_init wsX3_readInto := goodIn_r _ [124, 125, 126, 120, 127, 128, 129, 130, 10, 131, 132, 133, 134, 135, 136, 137, 6, 138, 139, 140, 141, 142, 143, 30, 144, 145, 146, 147, 67, 68, 69, 70, 71, 72, 73, 74, 75, 76, 77, 78, 79, 80, 81, 82, 83, 84, 85, 86, 87, 88, 89, 90, 91, 92, 93, 94, 95, 96, 97, 98, 99, 100, 101, 102, 103, 104, 105, 106, 107, 108, 109, 110, 111, 112, 113, 114, 115, 148, 149, 150, 151, 32, 152, 153, 154, 155, 156, 157, 158, 159, 160, 161, 162, 163, 164, 165, 166, 167, 36, 168, 169, 170, 171, 172, 173, 174, 175, 176, 177, 178, 179, 37, 38, 39, 40, 180, 181, 182, 183, 184, 185, 186, 187, 188, 189, 190, 191, 192, 193, 194, 195, 196, 197, 198, 199, 200, 201, 202, 203, 204, 205, 206, 41, 42, 43, 44, 207, 208, 209, 210, 248, 249, 250, 251, 252, 253, 254, 261, 262, 263, 264, 265, 266, 267, 268, 269, 270, 271, 272] (by decide +kernel) (by decide +kernel)
set_option maxRecDepth 20000 in
theorem gX5_init_X3_readInto : GoodIn wsX5_init (wsV RX5 63 RX3 yX3_readInto wsX3_readInto) := goodIn_app (goodIn_of _ (by decide +kernel)) ggX5_init_X3_readInto
set_option maxRecDepth 20000 in
theorem ggX5_init_X5_startStatedPlay : GoodIn wsX5_init wsX5_startStatedPlay := goodIn_r _ [214, 12, 11, 24, 215, 16, 216, 217, 218, 10, 219, 132, 133, 134, 36, 220, 221, 222, 223, 37, 38, 39, 40, 41, 42, 43, 44, 224, 225, 226, 15, 227, 50, 51, 228, 229, 230, 231, 232, 233, 234, 235, 236, 237, 238, 239, 240, 241, 242, 181, 243, 244, 245, 246, 247, 255, 256, 257, 258, 259, 260, 278, 279, 261, 262, 263, 264, 265, 266, 267, 268, 269, 270, 271, 272, 273, 274] (by decide +kernel) (by decide +kernel)
set_option maxRecDepth 20000 in
theorem gX5_init_X5_startStatedPlay : GoodIn wsX5_init (wsV RX5 66 RX5 yX5_startStatedPlay wsX5_startStatedPlay) := goodIn_app (goodIn_of _ (by decide +kernel)) ggX5_init_X5_startStatedPlay
theorem dX5_init_0 : decode cX5_init 0 = .ok (.aload_n 0, 1) := by decide +kernel
theorem dX5_init_1 : decode cX5_init 1 = .ok (.invokespecial 3, 3) := by decide +kernel
theorem dX5_init_4 : decode cX5_init 4 = .ok (.aload_n 0, 1) := by decide +kernel
theorem dX5_init_5 : decode cX5_init 5 = .ok (.new 9, 3) := by decide +kernel
theorem dX5_init_8 : decode cX5_init 8 = .ok (.dup, 1) := by decide +kernel
theorem dX5_init_9 : decode cX5_init 9 = .ok (.invokespecial 11, 3) := by decide +kernel
theorem dX5_init_12 : decode cX5_init 12 = .ok (.putfield 12, 3) := by decide +kernel
theorem dX5_init_15 : decode cX5_init 15 = .ok (.aload_n 0, 1) := by decide +kernel
theorem dX5_init_16 : decode cX5_init 16 = .ok (.new 16, 3) := by decide +kernel
theorem dX5_init_19 : decode cX5_init 19 = .ok (.dup, 1) := by decide +kernel
theorem dX5_init_20 : decode cX5_init 20 = .ok (.invokespecial 18, 3) := by decide +kernel
theorem dX5_init_23 : decode cX5_init 23 = .ok (.putfield 19, 3) := by decide +kernel
theorem dX5_init_26 : decode cX5_init 26 = .ok (.aload_n 0, 1) := by decide +kernel
theorem dX5_init_27 : decode cX5_init 27 = .ok (.new 16, 3) := by decide +kernel
theorem dX5_init_30 : decode cX5_init 30 = .ok (.dup, 1) := by decide +kernel
theorem dX5_init_31 : decode cX5_init 31 = .ok (.invokespecial 18, 3) := by decide +kernel
theorem dX5_init_34 : decode cX5_init 34 = .ok (.putfield 23, 3) := by decide +kernel
theorem dX5_init_37 : decode cX5_init 37 = .ok (.aload_n 0, 1) := by decide +kernel
theorem dX5_init_38 : decode cX5_init 38 = .ok (.new 26, 3) := by decide +kernel
theorem dX5_init_41 : decode cX5_init 41 = .ok (.dup, 1) := by decide +kernel
theorem dX5_init_42 : decode cX5_init 42 = .ok (.aload_n 0, 1) := by decide +kernel
theorem dX5_init_43 : decode cX5_init 43 = .ok (.getfield 23, 3) := by decide +kernel
theorem dX5_init_46 : decode cX5_init 46 = .ok (.invokespecial 28, 3) := by decide +kernel
theorem dX5_init_49 : decode cX5_init 49 = .ok (.putfield 31, 3) := by decide +kernel
theorem dX5_init_52 : decode cX5_init 52 = .ok (.aload_n 0, 1) := by decide +kernel
theorem dX5_init_53 : decode cX5_init 53 = .ok (.new 35, 3) := by decide +kernel
theorem dX5_init_56 : decode cX5_init 56 = .ok (.dup, 1) := by decide +kernel
theorem dX5_init_57 : decode cX5_init 57 = .ok (.invokespecial 37, 3) := by decide +kernel
theorem dX5_init_60 : decode cX5_init 60 = .ok (.putfield 38, 3) := by decide +kernel
theorem dX5_init_63 : decode cX5_init 63 = .ok (.aload_n 0, 1) := by decide +kernel
theorem dX5_init_64 : decode cX5_init 64 = .ok (.new 42, 3) := by decide +kernel
theorem dX5_init_67 : decode cX5_init 67 = .ok (.dup, 1) := by decide +kernel
theorem dX5_init_68 : decode cX5_init 68 = .ok (.invokespecial 44, 3) := by decide +kernel
theorem dX5_init_71 : decode cX5_init 71 = .ok (.putfield 45, 3) := by decide +kernel
theorem dX5_init_74 : decode cX5_init 74 = .ok (.aload_n 0, 1) := by decide +kernel
theorem dX5_init_75 : decode cX5_init 75 = .ok (.getfield 12, 3) := by decide +kernel
theorem dX5_init_78 : decode cX5_init 78 = .ok (.ldc 49, 2) := by decide +kernel
theorem dX5_init_80 : decode cX5_init 80 = .ok (.invokevirtual 51, 3) := by decide +kernel
theorem dX5_init_83 : decode cX5_init 83 = .ok (.aload_n 0, 1) := by decide +kernel
theorem dX5_init_84 : decode cX5_init 84 = .ok (.getfield 12, 3) := by decide +kernel
theorem dX5_init_87 : decode cX5_init 87 = .ok (.ldc 55, 2) := by decide +kernel
theorem dX5_init_89 : decode cX5_init 89 = .ok (.invokevirtual 51, 3) := by decide +kernel
theorem dX5_init_92 : decode cX5_init 92 = .ok (.aload_n 0, 1) := by decide +kernel
theorem dX5_init_93 : decode cX5_init 93 = .ok (.getfield 12, 3) := by decide +kernel
theorem dX5_init_96 : decode cX5_init 96 = .ok (.ldc 57, 2) := by decide +kernel
theorem dX5_init_98 : decode cX5_init 98 = .ok (.invokevirtual 51, 3) := by decide +kernel
theorem dX5_init_101 : decode cX5_init 101 = .ok (.aload_n 0, 1) := by decide +kernel
theorem dX5_init_102 : decode cX5_init 102 = .ok (.getfield 12, 3) := by decide +kernel
theorem dX5_init_105 : decode cX5_init 105 = .ok (.ldc 59, 2) := by decide +kernel
theorem dX5_init_107 : decode cX5_init 107 = .ok (.invokevirtual 51, 3) := by decide +kernel
theorem dX5_init_110 : decode cX5_init 110 = .ok (.aload_n 0, 1) := by decide +kernel
theorem dX5_init_111 : decode cX5_init 111 = .ok (.getfield 12, 3) := by decide +kernel
theorem dX5_init_114 : decode cX5_init 114 = .ok (.ldc 61, 2) := by decide +kernel
theorem dX5_init_116 : decode cX5_init 116 = .ok (.invokevirtual 51, 3) := by decide +kernel
theorem dX5_init_119 : decode cX5_init 119 = .ok (.aload_n 0, 1) := by decide +kernel
theorem dX5_init_120 : decode cX5_init 120 = .ok (.getfield 12, 3) := by decide +kernel
theorem dX5_init_123 : decode cX5_init 123 = .ok (.aload_n 0, 1) := by decide +kernel
theorem dX5_init_124 : decode cX5_init 124 = .ok (.getfield 19, 3) := by decide +kernel
theorem dX5_init_127 : decode cX5_init 127 = .ok (.invokevirtual 63, 3) := by decide +kernel
theorem dX5_init_130 : decode cX5_init 130 = .ok (.aload_n 0, 1) := by decide +kernel
theorem dX5_init_131 : decode cX5_init 131 = .ok (.invokevirtual 66, 3) := by decide +kernel
theorem dX5_init_134 : decode cX5_init 134 = .ok (.aload_n 0, 1) := by decide +kernel
theorem dX5_init_135 : decode cX5_init 135 = .ok (.getfield 12, 3) := by decide +kernel
theorem dX5_init_138 : decode cX5_init 138 = .ok (.iconst 0, 1) := by decide +kernel
theorem dX5_init_139 : decode cX5_init 139 = .ok (.putfield 69, 3) := by decide +kernel
theorem dX5_init_142 : decode cX5_init 142 = .ok (.return_, 1) := by decide +kernel
set_option maxRecDepth 20000 in
theorem ggX5_append_X3_put : GoodIn wsX5_append wsX3_put := goodIn_r _ [7, 8, 9, 16, 17, 18, 19, 20, 21, 22] (by decide +kernel) (by decide +kernel)
set_option maxRecDepth 20000 in
theorem gX5_append_X3_put : GoodIn wsX5_append (wsV RX5 73 RX3 yX3_put wsX3_put) := goodIn_app (goodIn_of _ (by decide +kernel)) ggX5_append_X3_put
theorem dX5_append_0 : decode cX5_append 0 = .ok (.iload_n 1, 1) := by decide +kernel
theorem dX5_append_1 : decode cX5_append 1 = .ok (.bipush 32, 2) := by decide +kernel
theorem dX5_append_3 : decode cX5_append 3 = .ok (.if_icmp .lt 9, 3) := by decide +kernel
theorem dX5_append_6 : decode cX5_append 6 = .ok (.iload_n 1, 1) := by decide +kernel
theorem dX5_append_7 : decode cX5_append 7 = .ok (.bipush 126, 2) := by decide +kernel
theorem dX5_append_9 : decode cX5_append 9 = .ok (.if_icmp .le 7, 3) := by decide +kernel
theorem dX5_append_12 : decode cX5_append 12 = .ok (.sipush (-1001), 3) := by decide +kernel
theorem dX5_append_15 : decode cX5_append 15 = .ok (.ireturn, 1) := by decide +kernel
theorem dX5_append_16 : decode cX5_append 16 = .ok (.aload_n 0, 1) := by decide +kernel
theorem dX5_append_17 : decode cX5_append 17 = .ok (.getfield 12, 3) := by decide +kernel
theorem dX5_append_20 : decode cX5_append 20 = .ok (.getfield 69, 3) := by decide +kernel
theorem dX5_append_23 : decode cX5_append 23 = .ok (.sipush 400, 3) := by decide +kernel
theorem dX5_append_26 : decode cX5_append 26 = .ok (.if_icmp .lt 7, 3) := by decide +kernel
theorem dX5_append_29 : decode cX5_append 29 = .ok (.sipush (-1003), 3) := by decide +kernel
theorem dX5_append_32 : decode cX5_append 32 = .ok (.ireturn, 1) := by decide +kernel
theorem dX5_append_33 : decode cX5_append 33 = .ok (.aload_n 0, 1) := by decide +kernel
theorem dX5_append_34 : decode cX5_append 34 = .ok (.getfield 12, 3) := by decide +kernel
theorem dX5_append_37 : decode cX5_append 37 = .ok (.iload_n 1, 1) := by decide +kernel
theorem dX5_append_38 : decode cX5_append 38 = .ok (.i2c, 1) := by decide +kernel
theorem dX5_append_39 : decode cX5_append 39 = .ok (.invokevirtual 73, 3) := by decide +kernel
theorem dX5_append_42 : decode cX5_append 42 = .ok (.aload_n 0, 1) := by decide +kernel
theorem dX5_append_43 : decode cX5_append 43 = .ok (.getfield 12, 3) := by decide +kernel
theorem dX5_append_46 : decode cX5_append 46 = .ok (.getfield 69, 3) := by decide +kernel
theorem dX5_append_49 : decode cX5_append 49 = .ok (.ireturn, 1) := by decide +kernel
theorem dX5_clearText_0 : decode cX5_clearText 0 = .ok (.aload_n 0, 1) := by decide +kernel
theorem dX5_clearText_1 : decode cX5_clearText 1 = .ok (.getfield 12, 3) := by decide +kernel
theorem dX5_clearText_4 : decode cX5_clearText 4 = .ok (.getfield 69, 3) := by decide +kernel
theorem dX5_clearText_7 : decode cX5_clearText 7 = .ok (.istore_n 1, 1) := by decide +kernel
theorem dX5_clearText_8 : decode cX5_clearText 8 = .ok (.aload_n 0, 1) := by decide +kernel
theorem dX5_clearText_9 : decode cX5_clearText 9 = .ok (.getfield 12, 3) := by decide +kernel
theorem dX5_clearText_12 : decode cX5_clearText 12 = .ok (.iconst 0, 1) := by decide +kernel
theorem dX5_clearText_13 : decode cX5_clearText 13 = .ok (.putfield 69, 3) := by decide +kernel
theorem dX5_clearText_16 : decode cX5_clearText 16 = .ok (.iload_n 1, 1) := by decide +kernel
theorem dX5_clearText_17 : decode cX5_clearText 17 = .ok (.ireturn, 1) := by decide +kernel
set_option maxRecDepth 20000 in
theorem ggX5_firstError_X3_readInto : GoodIn wsX5_firstError wsX3_readInto := goodIn_r _ [9, 10, 11, 12, 13, 14, 15, 16, 17, 18, 19, 20, 21, 22, 23, 24, 8, 25, 26, 27, 28, 29, 30, 31, 32, 33, 34, 35, 36, 37, 38, 39, 40, 41, 42, 43, 44, 45, 46, 47, 48, 49, 50, 51, 52, 53, 54, 55, 56, 57, 58, 59, 60, 61, 62, 63, 64, 65, 66, 67, 68, 69, 70, 71, 72, 73, 74, 75, 76, 77, 78, 79, 80, 81, 82, 83, 84, 85, 86, 87, 88, 89, 90, 91, 92, 93, 94, 95, 96, 97, 98, 99, 100, 101, 102, 103, 104, 105, 106, 107, 108, 109, 110, 111, 112, 113, 114, 115, 116, 117, 118, 119, 120, 121, 122, 123, 124, 125, 126, 127, 128, 129, 130, 131, 132, 133, 134, 135, 136, 137, 138, 139, 140, 141, 142, 143, 144, 145, 146, 147, 148, 149, 150, 151, 152, 153, 154, 155, 156, 157, 164, 165, 166, 167, 168, 169, 170, 171, 172, 173, 174, 175, 176, 177, 178, 179, 180, 181, 182] (by decide +kernel) (by decide +kernel)
set_option maxRecDepth 20000 in
theorem gX5_firstError_X3_readInto : GoodIn wsX5_firstError (wsV RX5 63 RX3 yX3_readInto wsX3_readInto) := goodIn_app (goodIn_of _ (by decide +kernel)) ggX5_firstError_X3_readInto
theorem dX5_firstError_0 : decode cX5_firstError 0 = .ok (.aload_n 0, 1) := by decide +kernel
theorem dX5_firstError_1 : decode cX5_firstError 1 = .ok (.getfield 12, 3) := by decide +kernel
theorem dX5_firstError_4 : decode cX5_firstError 4 = .ok (.aload_n 0, 1) := by decide +kernel
theorem dX5_firstError_5 : decode cX5_firstError 5 = .ok (.getfield 19, 3) := by decide +kernel
theorem dX5_firstError_8 : decode cX5_firstError 8 = .ok (.invokevirtual 63, 3) := by decide +kernel
theorem dX5_firstError_11 : decode cX5_firstError 11 = .ok (.aload_n 0, 1) := by decide +kernel
theorem dX5_firstError_12 : decode cX5_firstError 12 = .ok (.getfield 12, 3) := by decide +kernel
theorem dX5_firstError_15 : decode cX5_firstError 15 = .ok (.getfield 77, 3) := by decide +kernel
theorem dX5_firstError_18 : decode cX5_firstError 18 = .ok (.ifCond .ne 9, 3) := by decide +kernel
theorem dX5_firstError_21 : decode cX5_firstError 21 = .ok (.sipush (-1004), 3) := by decide +kernel
theorem dX5_firstError_24 : decode cX5_firstError 24 = .ok (.goto 10, 3) := by decide +kernel
theorem dX5_firstError_27 : decode cX5_firstError 27 = .ok (.aload_n 0, 1) := by decide +kernel
theorem dX5_firstError_28 : decode cX5_firstError 28 = .ok (.getfield 12, 3) := by decide +kernel
theorem dX5_firstError_31 : decode cX5_firstError 31 = .ok (.getfield 80, 3) := by decide +kernel
theorem dX5_firstError_34 : decode cX5_firstError 34 = .ok (.ireturn, 1) := by decide +kernel
set_option maxRecDepth 20000 in
theorem ggX5_errorReason_X3_readInto : GoodIn wsX5_errorReason wsX3_readInto := goodIn_r _ [8, 9, 10, 11, 12, 13, 14, 15, 16, 17, 18, 19, 20, 21, 22, 23, 7, 24, 25, 26, 27, 28, 29, 30, 31, 32, 33, 34, 35, 36, 37, 38, 39, 40, 41, 42, 43, 44, 45, 46, 47, 48, 49, 50, 51, 52, 53, 54, 55, 56, 57, 58, 59, 60, 61, 62, 63, 64, 65, 66, 67, 68, 69, 70, 71, 72, 73, 74, 75, 76, 77, 78, 79, 80, 81, 82, 83, 84, 85, 86, 87, 88, 89, 90, 91, 92, 93, 94, 95, 96, 97, 98, 99, 100, 101, 102, 103, 104, 105, 106, 107, 108, 109, 110, 111, 112, 113, 114, 115, 116, 117, 118, 119, 120, 121, 122, 123, 124, 125, 126, 127, 128, 129, 130, 131, 132, 133, 134, 135, 136, 137, 138, 139, 140, 141, 142, 143, 144, 145, 146, 147, 148, 149, 150, 151, 152, 153, 154, 155, 156, 163, 164, 165, 166, 167, 168, 169, 170, 171, 172, 173, 174, 175, 176, 177, 178, 179, 180, 181] (by decide +kernel) (by decide +kernel)
set_option maxRecDepth 20000 in
theorem gX5_errorReason_X3_readInto : GoodIn wsX5_errorReason (wsV RX5 63 RX3 yX3_readInto wsX3_readInto) := goodIn_app (goodIn_of _ (by decide +kernel)) ggX5_errorReason_X3_readInto
theorem dX5_errorReason_0 : decode cX5_errorReason 0 = .ok (.aload_n 0, 1) := by decide +kernel
theorem dX5_errorReason_1 : decode cX5_errorReason 1 = .ok (.getfield 12, 3) := by decide +kernel
theorem dX5_errorReason_4 : decode cX5_errorReason 4 = .ok (.aload_n 0, 1) := by decide +kernel
theorem dX5_errorReason_5 : decode cX5_errorReason 5 = .ok (.getfield 19, 3) := by decide +kernel
theorem dX5_errorReason_8 : decode cX5_errorReason 8 = .ok (.invokevirtual 63, 3) := by decide +kernel
theorem dX5_errorReason_11 : decode cX5_errorReason 11 = .ok (.aload_n 0, 1) := by decide +kernel
theorem dX5_errorReason_12 : decode cX5_errorReason 12 = .ok (.getfield 12, 3) := by decide +kernel
theorem dX5_errorReason_15 : decode cX5_errorReason 15 = .ok (.getfield 77, 3) := by decide +kernel
theorem dX5_errorReason_18 : decode cX5_errorReason 18 = .ok (.ifCond .ne 9, 3) := by decide +kernel
theorem dX5_errorReason_21 : decode cX5_errorReason 21 = .ok (.sipush (-1004), 3) := by decide +kernel
theorem dX5_errorReason_24 : decode cX5_errorReason 24 = .ok (.goto 10, 3) := by decide +kernel
theorem dX5_errorReason_27 : decode cX5_errorReason 27 = .ok (.aload_n 0, 1) := by decide +kernel
theorem dX5_errorReason_28 : decode cX5_errorReason 28 = .ok (.getfield 12, 3) := by decide +kernel
theorem dX5_errorReason_31 : decode cX5_errorReason 31 = .ok (.getfield 77, 3) := by decide +kernel
theorem dX5_errorReason_34 : decode cX5_errorReason 34 = .ok (.ireturn, 1) := by decide +kernel
set_option maxRecDepth 20000 in
theorem ggX5_configure_X3_readInto : GoodIn wsX5_configure wsX3_readInto := goodIn_r _ [11, 12, 13, 14, 15, 16, 17, 18, 19, 20, 21, 22, 23, 24, 25, 26, 10, 27, 28, 29, 30, 31, 32, 33, 34, 35, 36, 37, 38, 39, 40, 41, 42, 43, 44, 45, 46, 47, 48, 49, 50, 51, 52, 53, 54, 55, 56, 57, 58, 59, 60, 61, 62, 63, 64, 65, 66, 67, 68, 69, 70, 71, 72, 73, 74, 75, 76, 77, 78, 79, 80, 81, 82, 83, 84, 85, 86, 87, 88, 89, 90, 91, 92, 93, 94, 95, 96, 97, 98, 99, 100, 101, 102, 103, 104, 105, 106, 107, 108, 109, 110, 111, 112, 113, 114, 115, 116, 117, 118, 119, 120, 121, 122, 123, 124, 125, 126, 127, 128, 129, 130, 131, 132, 133, 134, 135, 136, 137, 138, 139, 140, 141, 142, 143, 144, 145, 146, 147, 148, 149, 150, 151, 152, 153, 154, 155, 156, 157, 158, 159, 208, 209, 210, 211, 212, 213, 214, 215, 216, 217, 218, 219, 220, 221, 222, 223, 224, 225, 226] (by decide +kernel) (by decide +kernel)
set_option maxRecDepth 20000 in
theorem gX5_configure_X3_readInto : GoodIn wsX5_configure (wsV RX5 63 RX3 yX3_readInto wsX3_readInto) := goodIn_app (goodIn_of _ (by decide +kernel)) ggX5_configure_X3_readInto
set_option maxRecDepth 20000 in
theorem ggX5_configure_X5_startStatedPlay : GoodIn wsX5_configure wsX5_startStatedPlay := goodIn_r _ [163, 6, 2, 164, 165, 166, 167, 168, 169, 19, 170, 21, 22, 23, 108, 171, 172, 173, 174, 121, 122, 123, 124, 152, 153, 154, 155, 175, 176, 177, 178, 179, 180, 181, 182, 183, 184, 185, 186, 187, 188, 189, 190, 191, 192, 193, 194, 195, 196, 126, 197, 198, 199, 200, 201, 202, 203, 204, 205, 206, 207, 227, 228, 215, 216, 217, 218, 219, 220, 221, 222, 223, 224, 225, 226, 229, 230] (by decide +kernel) (by decide +kernel)
set_option maxRecDepth 20000 in
theorem gX5_configure_X5_startStatedPlay : GoodIn wsX5_configure (wsV RX5 66 RX5 yX5_startStatedPlay wsX5_startStatedPlay) := goodIn_app (goodIn_of _ (by decide +kernel)) ggX5_configure_X5_startStatedPlay
theorem dX5_configure_0 : decode cX5_configure 0 = .ok (.aload_n 0, 1) := by decide +kernel
theorem dX5_configure_1 : decode cX5_configure 1 = .ok (.getfield 12, 3) := by decide +kernel
theorem dX5_configure_4 : decode cX5_configure 4 = .ok (.aload_n 0, 1) := by decide +kernel
theorem dX5_configure_5 : decode cX5_configure 5 = .ok (.getfield 19, 3) := by decide +kernel
theorem dX5_configure_8 : decode cX5_configure 8 = .ok (.invokevirtual 63, 3) := by decide +kernel
theorem dX5_configure_11 : decode cX5_configure 11 = .ok (.aload_n 0, 1) := by decide +kernel
theorem dX5_configure_12 : decode cX5_configure 12 = .ok (.getfield 12, 3) := by decide +kernel
theorem dX5_configure_15 : decode cX5_configure 15 = .ok (.getfield 77, 3) := by decide +kernel
theorem dX5_configure_18 : decode cX5_configure 18 = .ok (.ifCond .ne 23, 3) := by decide +kernel
theorem dX5_configure_21 : decode cX5_configure 21 = .ok (.aload_n 0, 1) := by decide +kernel
theorem dX5_configure_22 : decode cX5_configure 22 = .ok (.getfield 19, 3) := by decide +kernel
theorem dX5_configure_25 : decode cX5_configure 25 = .ok (.getfield 83, 3) := by decide +kernel
theorem dX5_configure_28 : decode cX5_configure 28 = .ok (.ifCond .eq 13, 3) := by decide +kernel
theorem dX5_configure_31 : decode cX5_configure 31 = .ok (.aload_n 0, 1) := by decide +kernel
theorem dX5_configure_32 : decode cX5_configure 32 = .ok (.getfield 19, 3) := by decide +kernel
theorem dX5_configure_35 : decode cX5_configure 35 = .ok (.getfield 86, 3) := by decide +kernel
theorem dX5_configure_38 : decode cX5_configure 38 = .ok (.ifCond .ne 7, 3) := by decide +kernel
theorem dX5_configure_41 : decode cX5_configure 41 = .ok (.sipush (-1002), 3) := by decide +kernel
theorem dX5_configure_44 : decode cX5_configure 44 = .ok (.ireturn, 1) := by decide +kernel
theorem dX5_configure_45 : decode cX5_configure 45 = .ok (.aload_n 0, 1) := by decide +kernel
theorem dX5_configure_46 : decode cX5_configure 46 = .ok (.invokevirtual 66, 3) := by decide +kernel
theorem dX5_configure_49 : decode cX5_configure 49 = .ok (.aload_n 0, 1) := by decide +kernel
theorem dX5_configure_50 : decode cX5_configure 50 = .ok (.getfield 23, 3) := by decide +kernel
theorem dX5_configure_53 : decode cX5_configure 53 = .ok (.getfield 86, 3) := by decide +kernel
theorem dX5_configure_56 : decode cX5_configure 56 = .ok (.ireturn, 1) := by decide +kernel
set_option maxRecDepth 20000 in
theorem ggX5_addAppearance_X2_admits : GoodIn wsX5_addAppearance wsX2_admits := goodIn_r _ [9, 10, 11, 12, 13, 8, 14, 15, 16, 17, 18, 19, 20, 106, 107, 108, 109, 110, 111, 112, 113, 114, 115, 116, 117] (by decide +kernel) (by decide +kernel)
set_option maxRecDepth 20000 in
theorem gX5_addAppearance_X2_admits : GoodIn wsX5_addAppearance (wsV RX5 89 RX2 yX2_admits wsX2_admits) := goodIn_app (goodIn_of _ (by decide +kernel)) ggX5_addAppearance_X2_admits
set_option maxRecDepth 20000 in
theorem ggX5_addAppearance_X1_remember : GoodIn wsX5_addAppearance wsX1_remember := goodIn_r _ [25, 26, 27, 28, 29, 30, 24, 31, 32, 33, 34, 8, 35, 20, 15, 36, 10, 37, 38, 39, 40, 41, 42, 43, 44, 45, 46, 47, 48, 118, 119, 106, 107, 108, 109, 110, 111, 112, 113, 114, 115, 116, 117] (by decide +kernel) (by decide +kernel)
set_option maxRecDepth 20000 in
theorem gX5_addAppearance_X1_remember : GoodIn wsX5_addAppearance (wsV RX5 96 RX1 yX1_remember wsX1_remember) := goodIn_app (goodIn_of _ (by decide +kernel)) ggX5_addAppearance_X1_remember
set_option maxRecDepth 20000 in
theorem ggX5_addAppearance_X2_putAppearance : GoodIn wsX5_addAppearance wsX2_putAppearance := goodIn_r _ [52, 45, 36, 46, 47, 48, 53, 54, 55, 8, 56, 20, 10, 106, 107, 108, 109, 110, 111, 112, 113, 114, 115, 116, 117] (by decide +kernel) (by decide +kernel)
set_option maxRecDepth 20000 in
theorem gX5_addAppearance_X2_putAppearance : GoodIn wsX5_addAppearance (wsV RX5 99 RX2 yX2_putAppearance wsX2_putAppearance) := goodIn_app (goodIn_of _ (by decide +kernel)) ggX5_addAppearance_X2_putAppearance
set_option maxRecDepth 20000 in
theorem ggX5_addAppearance_X4_measure : GoodIn wsX5_addAppearance wsX4_measure := goodIn_r _ [61, 62, 63, 64, 65, 66, 67, 60, 68, 69, 70, 71, 72, 73, 74, 75, 76, 77, 78, 79, 80, 81, 82, 83, 84, 120, 121, 106, 107, 108, 109, 110, 111, 112, 113, 114, 115, 116, 117] (by decide +kernel) (by decide +kernel)
set_option maxRecDepth 20000 in
theorem gX5_addAppearance_X4_measure : GoodIn wsX5_addAppearance (wsV RX5 103 RX4 yX4_measure wsX4_measure) := goodIn_app (goodIn_of _ (by decide +kernel)) ggX5_addAppearance_X4_measure
set_option maxRecDepth 20000 in
theorem ggX5_addAppearance_X5_freeRivals : GoodIn wsX5_addAppearance wsX5_freeRivals := goodIn_r _ [88, 1, 89, 90, 91, 92, 93, 79, 94, 4, 95, 96, 97, 60, 98, 63, 99, 62, 100, 101, 102, 103, 104, 105, 106, 107, 108, 109, 110, 111, 112, 113, 114, 115, 116, 117, 120, 121] (by decide +kernel) (by decide +kernel)
set_option maxRecDepth 20000 in
theorem gX5_addAppearance_X5_freeRivals : GoodIn wsX5_addAppearance (wsV RX5 106 RX5 yX5_freeRivals wsX5_freeRivals) := goodIn_app (goodIn_of _ (by decide +kernel)) ggX5_addAppearance_X5_freeRivals
theorem dX5_addAppearance_0 : decode cX5_addAppearance 0 = .ok (.aload_n 0, 1) := by decide +kernel
theorem dX5_addAppearance_1 : decode cX5_addAppearance 1 = .ok (.getfield 23, 3) := by decide +kernel
theorem dX5_addAppearance_4 : decode cX5_addAppearance 4 = .ok (.iload_n 1, 1) := by decide +kernel
theorem dX5_addAppearance_5 : decode cX5_addAppearance 5 = .ok (.iload_n 2, 1) := by decide +kernel
theorem dX5_addAppearance_6 : decode cX5_addAppearance 6 = .ok (.iload_n 3, 1) := by decide +kernel
theorem dX5_addAppearance_7 : decode cX5_addAppearance 7 = .ok (.iload 4, 2) := by decide +kernel
theorem dX5_addAppearance_9 : decode cX5_addAppearance 9 = .ok (.invokevirtual 89, 3) := by decide +kernel
theorem dX5_addAppearance_12 : decode cX5_addAppearance 12 = .ok (.ifCond .ne 7, 3) := by decide +kernel
theorem dX5_addAppearance_15 : decode cX5_addAppearance 15 = .ok (.sipush (-1001), 3) := by decide +kernel
theorem dX5_addAppearance_18 : decode cX5_addAppearance 18 = .ok (.ireturn, 1) := by decide +kernel
theorem dX5_addAppearance_19 : decode cX5_addAppearance 19 = .ok (.aload_n 0, 1) := by decide +kernel
theorem dX5_addAppearance_20 : decode cX5_addAppearance 20 = .ok (.getfield 23, 3) := by decide +kernel
theorem dX5_addAppearance_23 : decode cX5_addAppearance 23 = .ok (.getfield 93, 3) := by decide +kernel
theorem dX5_addAppearance_26 : decode cX5_addAppearance 26 = .ok (.bipush 20, 2) := by decide +kernel
theorem dX5_addAppearance_28 : decode cX5_addAppearance 28 = .ok (.if_icmp .lt 7, 3) := by decide +kernel
theorem dX5_addAppearance_31 : decode cX5_addAppearance 31 = .ok (.sipush (-1003), 3) := by decide +kernel
theorem dX5_addAppearance_34 : decode cX5_addAppearance 34 = .ok (.ireturn, 1) := by decide +kernel
theorem dX5_addAppearance_35 : decode cX5_addAppearance 35 = .ok (.aload_n 0, 1) := by decide +kernel
theorem dX5_addAppearance_36 : decode cX5_addAppearance 36 = .ok (.getfield 45, 3) := by decide +kernel
theorem dX5_addAppearance_39 : decode cX5_addAppearance 39 = .ok (.aload_n 0, 1) := by decide +kernel
theorem dX5_addAppearance_40 : decode cX5_addAppearance 40 = .ok (.getfield 23, 3) := by decide +kernel
theorem dX5_addAppearance_43 : decode cX5_addAppearance 43 = .ok (.invokevirtual 96, 3) := by decide +kernel
theorem dX5_addAppearance_46 : decode cX5_addAppearance 46 = .ok (.aload_n 0, 1) := by decide +kernel
theorem dX5_addAppearance_47 : decode cX5_addAppearance 47 = .ok (.getfield 23, 3) := by decide +kernel
theorem dX5_addAppearance_50 : decode cX5_addAppearance 50 = .ok (.iload_n 1, 1) := by decide +kernel
theorem dX5_addAppearance_51 : decode cX5_addAppearance 51 = .ok (.iload_n 2, 1) := by decide +kernel
theorem dX5_addAppearance_52 : decode cX5_addAppearance 52 = .ok (.iload_n 3, 1) := by decide +kernel
theorem dX5_addAppearance_53 : decode cX5_addAppearance 53 = .ok (.iload 4, 2) := by decide +kernel
theorem dX5_addAppearance_55 : decode cX5_addAppearance 55 = .ok (.invokevirtual 99, 3) := by decide +kernel
theorem dX5_addAppearance_58 : decode cX5_addAppearance 58 = .ok (.aload_n 0, 1) := by decide +kernel
theorem dX5_addAppearance_59 : decode cX5_addAppearance 59 = .ok (.getfield 31, 3) := by decide +kernel
theorem dX5_addAppearance_62 : decode cX5_addAppearance 62 = .ok (.invokevirtual 103, 3) := by decide +kernel
theorem dX5_addAppearance_65 : decode cX5_addAppearance 65 = .ok (.aload_n 0, 1) := by decide +kernel
theorem dX5_addAppearance_66 : decode cX5_addAppearance 66 = .ok (.invokevirtual 106, 3) := by decide +kernel
theorem dX5_addAppearance_69 : decode cX5_addAppearance 69 = .ok (.pop, 1) := by decide +kernel
theorem dX5_addAppearance_70 : decode cX5_addAppearance 70 = .ok (.aload_n 0, 1) := by decide +kernel
theorem dX5_addAppearance_71 : decode cX5_addAppearance 71 = .ok (.getfield 23, 3) := by decide +kernel
theorem dX5_addAppearance_74 : decode cX5_addAppearance 74 = .ok (.getfield 93, 3) := by decide +kernel
theorem dX5_addAppearance_77 : decode cX5_addAppearance 77 = .ok (.ireturn, 1) := by decide +kernel
set_option maxRecDepth 20000 in
theorem ggX5_removeAppearance_X1_remember : GoodIn wsX5_removeAppearance wsX1_remember := goodIn_r _ [9, 10, 11, 12, 13, 14, 8, 15, 16, 17, 18, 19, 20, 21, 22, 23, 24, 25, 26, 27, 28, 29, 30, 31, 32, 33, 34, 35, 36, 87, 88, 75, 76, 77, 78, 79, 80, 81, 82, 83, 84, 85, 86] (by decide +kernel) (by decide +kernel)
set_option maxRecDepth 20000 in
theorem gX5_removeAppearance_X1_remember : GoodIn wsX5_removeAppearance (wsV RX5 96 RX1 yX1_remember wsX1_remember) := goodIn_app (goodIn_of _ (by decide +kernel)) ggX5_removeAppearance_X1_remember
set_option maxRecDepth 20000 in
theorem ggX5_removeAppearance_X2_dropAppearance : GoodIn wsX5_removeAppearance wsX2_dropAppearance := goodIn_r _ [40, 23, 33, 34, 35, 36, 75, 76, 77, 78, 79, 80, 81, 82, 83, 84, 85, 86] (by decide +kernel) (by decide +kernel)
set_option maxRecDepth 20000 in
theorem gX5_removeAppearance_X2_dropAppearance : GoodIn wsX5_removeAppearance (wsV RX5 110 RX2 yX2_dropAppearance wsX2_dropAppearance) := goodIn_app (goodIn_of _ (by decide +kernel)) ggX5_removeAppearance_X2_dropAppearance
set_option maxRecDepth 20000 in
theorem ggX5_removeAppearance_X4_measure : GoodIn wsX5_removeAppearance wsX4_measure := goodIn_r _ [45, 46, 47, 48, 49, 50, 51, 44, 52, 53, 54, 55, 56, 57, 58, 59, 60, 61, 62, 63, 64, 65, 66, 67, 68, 89, 90, 75, 76, 77, 78, 79, 80, 81, 82, 83, 84, 85, 86] (by decide +kernel) (by decide +kernel)
set_option maxRecDepth 20000 in
theorem gX5_removeAppearance_X4_measure : GoodIn wsX5_removeAppearance (wsV RX5 103 RX4 yX4_measure wsX4_measure) := goodIn_app (goodIn_of _ (by decide +kernel)) ggX5_removeAppearance_X4_measure
theorem dX5_removeAppearance_0 : decode cX5_removeAppearance 0 = .ok (.iload_n 1, 1) := by decide +kernel
theorem dX5_removeAppearance_1 : decode cX5_removeAppearance 1 = .ok (.ifCond .lt 14, 3) := by decide +kernel
theorem dX5_removeAppearance_4 : decode cX5_removeAppearance 4 = .ok (.iload_n 1, 1) := by decide +kernel
theorem dX5_removeAppearance_5 : decode cX5_removeAppearance 5 = .ok (.aload_n 0, 1) := by decide +kernel
theorem dX5_removeAppearance_6 : decode cX5_removeAppearance 6 = .ok (.getfield 23, 3) := by decide +kernel
theorem dX5_removeAppearance_9 : decode cX5_removeAppearance 9 = .ok (.getfield 93, 3) := by decide +kernel
theorem dX5_removeAppearance_12 : decode cX5_removeAppearance 12 = .ok (.if_icmp .lt 7, 3) := by decide +kernel
theorem dX5_removeAppearance_15 : decode cX5_removeAppearance 15 = .ok (.sipush (-1001), 3) := by decide +kernel
theorem dX5_removeAppearance_18 : decode cX5_removeAppearance 18 = .ok (.ireturn, 1) := by decide +kernel
theorem dX5_removeAppearance_19 : decode cX5_removeAppearance 19 = .ok (.aload_n 0, 1) := by decide +kernel
theorem dX5_removeAppearance_20 : decode cX5_removeAppearance 20 = .ok (.getfield 45, 3) := by decide +kernel
theorem dX5_removeAppearance_23 : decode cX5_removeAppearance 23 = .ok (.aload_n 0, 1) := by decide +kernel
theorem dX5_removeAppearance_24 : decode cX5_removeAppearance 24 = .ok (.getfield 23, 3) := by decide +kernel
theorem dX5_removeAppearance_27 : decode cX5_removeAppearance 27 = .ok (.invokevirtual 96, 3) := by decide +kernel
theorem dX5_removeAppearance_30 : decode cX5_removeAppearance 30 = .ok (.aload_n 0, 1) := by decide +kernel
theorem dX5_removeAppearance_31 : decode cX5_removeAppearance 31 = .ok (.getfield 23, 3) := by decide +kernel
theorem dX5_removeAppearance_34 : decode cX5_removeAppearance 34 = .ok (.iload_n 1, 1) := by decide +kernel
theorem dX5_removeAppearance_35 : decode cX5_removeAppearance 35 = .ok (.invokevirtual 110, 3) := by decide +kernel
theorem dX5_removeAppearance_38 : decode cX5_removeAppearance 38 = .ok (.aload_n 0, 1) := by decide +kernel
theorem dX5_removeAppearance_39 : decode cX5_removeAppearance 39 = .ok (.getfield 31, 3) := by decide +kernel
theorem dX5_removeAppearance_42 : decode cX5_removeAppearance 42 = .ok (.invokevirtual 103, 3) := by decide +kernel
theorem dX5_removeAppearance_45 : decode cX5_removeAppearance 45 = .ok (.aload_n 0, 1) := by decide +kernel
theorem dX5_removeAppearance_46 : decode cX5_removeAppearance 46 = .ok (.getfield 23, 3) := by decide +kernel
theorem dX5_removeAppearance_49 : decode cX5_removeAppearance 49 = .ok (.getfield 93, 3) := by decide +kernel
theorem dX5_removeAppearance_52 : decode cX5_removeAppearance 52 = .ok (.ireturn, 1) := by decide +kernel
set_option maxRecDepth 20000 in
theorem ggX5_setChangeTimes_X2_hasRole : GoodIn wsX5_setChangeTimes wsX2_hasRole := goodIn_r _ [10, 11, 94, 95, 96, 97, 98, 99, 100, 101, 102, 103, 104, 105] (by decide +kernel) (by decide +kernel)
set_option maxRecDepth 20000 in
theorem gX5_setChangeTimes_X2_hasRole : GoodIn wsX5_setChangeTimes (wsV RX5 114 RX2 yX2_hasRole wsX2_hasRole) := goodIn_app (goodIn_of _ (by decide +kernel)) ggX5_setChangeTimes_X2_hasRole
set_option maxRecDepth 20000 in
theorem ggX5_setChangeTimes_X5_isCostumeTime : GoodIn wsX5_setChangeTimes wsX5_isCostumeTime := goodIn_r _ [15] (by decide +kernel) (by decide +kernel)
set_option maxRecDepth 20000 in
theorem gX5_setChangeTimes_X5_isCostumeTime : GoodIn wsX5_setChangeTimes (va_wsS RX5 118 yX5_isCostumeTime wsX5_isCostumeTime) := goodIn_app (goodIn_of _ (by decide +kernel)) ggX5_setChangeTimes_X5_isCostumeTime
set_option maxRecDepth 20000 in
theorem ggX5_setChangeTimes_X1_remember : GoodIn wsX5_setChangeTimes wsX1_remember := goodIn_r _ [20, 21, 22, 23, 24, 25, 19, 26, 27, 28, 29, 9, 30, 31, 11, 32, 33, 34, 35, 36, 37, 38, 39, 40, 41, 42, 43, 44, 45, 106, 107, 94, 95, 96, 97, 98, 99, 100, 101, 102, 103, 104, 105] (by decide +kernel) (by decide +kernel)
set_option maxRecDepth 20000 in
theorem gX5_setChangeTimes_X1_remember : GoodIn wsX5_setChangeTimes (wsV RX5 96 RX1 yX1_remember wsX1_remember) := goodIn_app (goodIn_of _ (by decide +kernel)) ggX5_setChangeTimes_X1_remember
set_option maxRecDepth 20000 in
theorem ggX5_setChangeTimes_X4_measure : GoodIn wsX5_setChangeTimes wsX4_measure := goodIn_r _ [50, 51, 52, 53, 54, 55, 56, 49, 57, 58, 59, 60, 61, 62, 63, 64, 65, 66, 67, 14, 68, 69, 70, 71, 72, 108, 109, 94, 95, 96, 97, 98, 99, 100, 101, 102, 103, 104, 105] (by decide +kernel) (by decide +kernel)
set_option maxRecDepth 20000 in
theorem gX5_setChangeTimes_X4_measure : GoodIn wsX5_setChangeTimes (wsV RX5 103 RX4 yX4_measure wsX4_measure) := goodIn_app (goodIn_of _ (by decide +kernel)) ggX5_setChangeTimes_X4_measure
set_option maxRecDepth 20000 in
theorem ggX5_setChangeTimes_X5_freeRivals : GoodIn wsX5_setChangeTimes wsX5_freeRivals := goodIn_r _ [76, 1, 77, 78, 79, 80, 81, 14, 82, 5, 83, 84, 85, 49, 86, 52, 87, 51, 88, 89, 90, 91, 92, 93, 94, 95, 96, 97, 98, 99, 100, 101, 102, 103, 104, 105, 108, 109] (by decide +kernel) (by decide +kernel)
set_option maxRecDepth 20000 in
theorem gX5_setChangeTimes_X5_freeRivals : GoodIn wsX5_setChangeTimes (wsV RX5 106 RX5 yX5_freeRivals wsX5_freeRivals) := goodIn_app (goodIn_of _ (by decide +kernel)) ggX5_setChangeTimes_X5_freeRivals
theorem dX5_setChangeTimes_0 : decode cX5_setChangeTimes 0 = .ok (.aload_n 0, 1) := by decide +kernel
theorem dX5_setChangeTimes_1 : decode cX5_setChangeTimes 1 = .ok (.getfield 23, 3) := by decide +kernel
theorem dX5_setChangeTimes_4 : decode cX5_setChangeTimes 4 = .ok (.iload_n 1, 1) := by decide +kernel
theorem dX5_setChangeTimes_5 : decode cX5_setChangeTimes 5 = .ok (.invokevirtual 114, 3) := by decide +kernel
theorem dX5_setChangeTimes_8 : decode cX5_setChangeTimes 8 = .ok (.ifCond .eq 17, 3) := by decide +kernel
theorem dX5_setChangeTimes_11 : decode cX5_setChangeTimes 11 = .ok (.iload_n 2, 1) := by decide +kernel
theorem dX5_setChangeTimes_12 : decode cX5_setChangeTimes 12 = .ok (.invokestatic 118, 3) := by decide +kernel
theorem dX5_setChangeTimes_15 : decode cX5_setChangeTimes 15 = .ok (.ifCond .eq 10, 3) := by decide +kernel
theorem dX5_setChangeTimes_18 : decode cX5_setChangeTimes 18 = .ok (.iload_n 3, 1) := by decide +kernel
theorem dX5_setChangeTimes_19 : decode cX5_setChangeTimes 19 = .ok (.invokestatic 118, 3) := by decide +kernel
theorem dX5_setChangeTimes_22 : decode cX5_setChangeTimes 22 = .ok (.ifCond .ne 7, 3) := by decide +kernel
theorem dX5_setChangeTimes_25 : decode cX5_setChangeTimes 25 = .ok (.sipush (-1001), 3) := by decide +kernel
theorem dX5_setChangeTimes_28 : decode cX5_setChangeTimes 28 = .ok (.ireturn, 1) := by decide +kernel
theorem dX5_setChangeTimes_29 : decode cX5_setChangeTimes 29 = .ok (.aload_n 0, 1) := by decide +kernel
theorem dX5_setChangeTimes_30 : decode cX5_setChangeTimes 30 = .ok (.getfield 45, 3) := by decide +kernel
theorem dX5_setChangeTimes_33 : decode cX5_setChangeTimes 33 = .ok (.aload_n 0, 1) := by decide +kernel
theorem dX5_setChangeTimes_34 : decode cX5_setChangeTimes 34 = .ok (.getfield 23, 3) := by decide +kernel
theorem dX5_setChangeTimes_37 : decode cX5_setChangeTimes 37 = .ok (.invokevirtual 96, 3) := by decide +kernel
theorem dX5_setChangeTimes_40 : decode cX5_setChangeTimes 40 = .ok (.aload_n 0, 1) := by decide +kernel
theorem dX5_setChangeTimes_41 : decode cX5_setChangeTimes 41 = .ok (.getfield 23, 3) := by decide +kernel
theorem dX5_setChangeTimes_44 : decode cX5_setChangeTimes 44 = .ok (.getfield 121, 3) := by decide +kernel
theorem dX5_setChangeTimes_47 : decode cX5_setChangeTimes 47 = .ok (.iload_n 1, 1) := by decide +kernel
theorem dX5_setChangeTimes_48 : decode cX5_setChangeTimes 48 = .ok (.iload_n 2, 1) := by decide +kernel
theorem dX5_setChangeTimes_49 : decode cX5_setChangeTimes 49 = .ok (.iastore, 1) := by decide +kernel
theorem dX5_setChangeTimes_50 : decode cX5_setChangeTimes 50 = .ok (.aload_n 0, 1) := by decide +kernel
theorem dX5_setChangeTimes_51 : decode cX5_setChangeTimes 51 = .ok (.getfield 23, 3) := by decide +kernel
theorem dX5_setChangeTimes_54 : decode cX5_setChangeTimes 54 = .ok (.getfield 125, 3) := by decide +kernel
theorem dX5_setChangeTimes_57 : decode cX5_setChangeTimes 57 = .ok (.iload_n 1, 1) := by decide +kernel
theorem dX5_setChangeTimes_58 : decode cX5_setChangeTimes 58 = .ok (.iload_n 3, 1) := by decide +kernel
theorem dX5_setChangeTimes_59 : decode cX5_setChangeTimes 59 = .ok (.iastore, 1) := by decide +kernel
theorem dX5_setChangeTimes_60 : decode cX5_setChangeTimes 60 = .ok (.aload_n 0, 1) := by decide +kernel
theorem dX5_setChangeTimes_61 : decode cX5_setChangeTimes 61 = .ok (.getfield 31, 3) := by decide +kernel
theorem dX5_setChangeTimes_64 : decode cX5_setChangeTimes 64 = .ok (.invokevirtual 103, 3) := by decide +kernel
theorem dX5_setChangeTimes_67 : decode cX5_setChangeTimes 67 = .ok (.aload_n 0, 1) := by decide +kernel
theorem dX5_setChangeTimes_68 : decode cX5_setChangeTimes 68 = .ok (.invokevirtual 106, 3) := by decide +kernel
theorem dX5_setChangeTimes_71 : decode cX5_setChangeTimes 71 = .ok (.ireturn, 1) := by decide +kernel
set_option maxRecDepth 20000 in
theorem ggX5_cast_X2_hasRole : GoodIn wsX5_cast wsX2_hasRole := goodIn_r _ [9, 10, 75, 76, 77, 78, 79, 80, 81, 82, 83, 84, 85, 86] (by decide +kernel) (by decide +kernel)
set_option maxRecDepth 20000 in
theorem gX5_cast_X2_hasRole : GoodIn wsX5_cast (wsV RX5 114 RX2 yX2_hasRole wsX2_hasRole) := goodIn_app (goodIn_of _ (by decide +kernel)) ggX5_cast_X2_hasRole
set_option maxRecDepth 20000 in
theorem ggX5_cast_X5_isActor : GoodIn wsX5_cast wsX5_isActor := goodIn_r _ [14] (by decide +kernel) (by decide +kernel)
set_option maxRecDepth 20000 in
theorem gX5_cast_X5_isActor : GoodIn wsX5_cast (va_wsS RX5 128 yX5_isActor wsX5_isActor) := goodIn_app (goodIn_of _ (by decide +kernel)) ggX5_cast_X5_isActor
set_option maxRecDepth 20000 in
theorem ggX5_cast_X5_hasRivalOf : GoodIn wsX5_cast wsX5_hasRivalOf := goodIn_r _ [18, 1, 4, 19, 20, 21, 22, 23, 24, 25, 26, 27, 69, 70, 71, 72, 73, 74, 75, 76, 77, 78, 79, 80, 81, 82, 83, 84, 85, 86, 87, 88] (by decide +kernel) (by decide +kernel)
set_option maxRecDepth 20000 in
theorem gX5_cast_X5_hasRivalOf : GoodIn wsX5_cast (wsV RX5 131 RX5 yX5_hasRivalOf wsX5_hasRivalOf) := goodIn_app (goodIn_of _ (by decide +kernel)) ggX5_cast_X5_hasRivalOf
set_option maxRecDepth 20000 in
theorem ggX5_cast_X1_remember : GoodIn wsX5_cast wsX1_remember := goodIn_r _ [32, 33, 34, 35, 36, 37, 31, 38, 39, 40, 41, 8, 42, 43, 10, 44, 45, 46, 47, 48, 49, 50, 51, 52, 53, 54, 55, 56, 57, 89, 90, 75, 76, 77, 78, 79, 80, 81, 82, 83, 84, 85, 86] (by decide +kernel) (by decide +kernel)
set_option maxRecDepth 20000 in
theorem gX5_cast_X1_remember : GoodIn wsX5_cast (wsV RX5 96 RX1 yX1_remember wsX1_remember) := goodIn_app (goodIn_of _ (by decide +kernel)) ggX5_cast_X1_remember
set_option maxRecDepth 20000 in
theorem ggX5_cast_X2_rolesWith : GoodIn wsX5_cast wsX2_rolesWith := goodIn_r _ [61, 10, 53, 75, 76, 77, 78, 79, 80, 81, 82, 83, 84, 85, 86] (by decide +kernel) (by decide +kernel)
set_option maxRecDepth 20000 in
theorem gX5_cast_X2_rolesWith : GoodIn wsX5_cast (wsV RX5 138 RX2 yX2_rolesWith wsX2_rolesWith) := goodIn_app (goodIn_of _ (by decide +kernel)) ggX5_cast_X2_rolesWith
set_option maxRecDepth 20000 in
theorem ggX5_cast_J6_bitCount_0f7a4 : GoodIn wsX5_cast wsJ6_bitCount_0f7a4 := goodIn_r _ [65, 66, 67, 68] (by decide +kernel) (by decide +kernel)
set_option maxRecDepth 20000 in
theorem gX5_cast_J6_bitCount_0f7a4 : GoodIn wsX5_cast (va_wsS RX5 142 yJ6_bitCount_0f7a4 wsJ6_bitCount_0f7a4) := goodIn_app (goodIn_of _ (by decide +kernel)) ggX5_cast_J6_bitCount_0f7a4
theorem dX5_cast_0 : decode cX5_cast 0 = .ok (.aload_n 0, 1) := by decide +kernel
theorem dX5_cast_1 : decode cX5_cast 1 = .ok (.getfield 23, 3) := by decide +kernel
theorem dX5_cast_4 : decode cX5_cast 4 = .ok (.iload_n 1, 1) := by decide +kernel
theorem dX5_cast_5 : decode cX5_cast 5 = .ok (.invokevirtual 114, 3) := by decide +kernel
theorem dX5_cast_8 : decode cX5_cast 8 = .ok (.ifCond .eq 10, 3) := by decide +kernel
theorem dX5_cast_11 : decode cX5_cast 11 = .ok (.iload_n 2, 1) := by decide +kernel
theorem dX5_cast_12 : decode cX5_cast 12 = .ok (.invokestatic 128, 3) := by decide +kernel
theorem dX5_cast_15 : decode cX5_cast 15 = .ok (.ifCond .ne 7, 3) := by decide +kernel
theorem dX5_cast_18 : decode cX5_cast 18 = .ok (.sipush (-1001), 3) := by decide +kernel
theorem dX5_cast_21 : decode cX5_cast 21 = .ok (.ireturn, 1) := by decide +kernel
theorem dX5_cast_22 : decode cX5_cast 22 = .ok (.aload_n 0, 1) := by decide +kernel
theorem dX5_cast_23 : decode cX5_cast 23 = .ok (.iload_n 2, 1) := by decide +kernel
theorem dX5_cast_24 : decode cX5_cast 24 = .ok (.iload_n 1, 1) := by decide +kernel
theorem dX5_cast_25 : decode cX5_cast 25 = .ok (.aload_n 0, 1) := by decide +kernel
theorem dX5_cast_26 : decode cX5_cast 26 = .ok (.getfield 23, 3) := by decide +kernel
theorem dX5_cast_29 : decode cX5_cast 29 = .ok (.getfield 86, 3) := by decide +kernel
theorem dX5_cast_32 : decode cX5_cast 32 = .ok (.invokevirtual 131, 3) := by decide +kernel
theorem dX5_cast_35 : decode cX5_cast 35 = .ok (.ifCond .eq 7, 3) := by decide +kernel
theorem dX5_cast_38 : decode cX5_cast 38 = .ok (.sipush (-1002), 3) := by decide +kernel
theorem dX5_cast_41 : decode cX5_cast 41 = .ok (.ireturn, 1) := by decide +kernel
theorem dX5_cast_42 : decode cX5_cast 42 = .ok (.aload_n 0, 1) := by decide +kernel
theorem dX5_cast_43 : decode cX5_cast 43 = .ok (.getfield 45, 3) := by decide +kernel
theorem dX5_cast_46 : decode cX5_cast 46 = .ok (.aload_n 0, 1) := by decide +kernel
theorem dX5_cast_47 : decode cX5_cast 47 = .ok (.getfield 23, 3) := by decide +kernel
theorem dX5_cast_50 : decode cX5_cast 50 = .ok (.invokevirtual 96, 3) := by decide +kernel
theorem dX5_cast_53 : decode cX5_cast 53 = .ok (.aload_n 0, 1) := by decide +kernel
theorem dX5_cast_54 : decode cX5_cast 54 = .ok (.getfield 23, 3) := by decide +kernel
theorem dX5_cast_57 : decode cX5_cast 57 = .ok (.getfield 135, 3) := by decide +kernel
theorem dX5_cast_60 : decode cX5_cast 60 = .ok (.iload_n 1, 1) := by decide +kernel
theorem dX5_cast_61 : decode cX5_cast 61 = .ok (.iload_n 2, 1) := by decide +kernel
theorem dX5_cast_62 : decode cX5_cast 62 = .ok (.iastore, 1) := by decide +kernel
theorem dX5_cast_63 : decode cX5_cast 63 = .ok (.aload_n 0, 1) := by decide +kernel
theorem dX5_cast_64 : decode cX5_cast 64 = .ok (.getfield 23, 3) := by decide +kernel
theorem dX5_cast_67 : decode cX5_cast 67 = .ok (.iload_n 2, 1) := by decide +kernel
theorem dX5_cast_68 : decode cX5_cast 68 = .ok (.invokevirtual 138, 3) := by decide +kernel
theorem dX5_cast_71 : decode cX5_cast 71 = .ok (.invokestatic 142, 3) := by decide +kernel
theorem dX5_cast_74 : decode cX5_cast 74 = .ok (.ireturn, 1) := by decide +kernel
set_option maxRecDepth 20000 in
theorem ggX5_uncast_X2_hasRole : GoodIn wsX5_uncast wsX2_hasRole := goodIn_r _ [8, 9, 46, 47, 48, 49, 50, 51, 52, 53, 54, 55, 56, 57] (by decide +kernel) (by decide +kernel)
set_option maxRecDepth 20000 in
theorem gX5_uncast_X2_hasRole : GoodIn wsX5_uncast (wsV RX5 114 RX2 yX2_hasRole wsX2_hasRole) := goodIn_app (goodIn_of _ (by decide +kernel)) ggX5_uncast_X2_hasRole
set_option maxRecDepth 20000 in
theorem ggX5_uncast_X1_remember : GoodIn wsX5_uncast wsX1_remember := goodIn_r _ [14, 15, 16, 17, 18, 19, 13, 20, 21, 22, 23, 7, 24, 25, 9, 26, 27, 28, 29, 30, 31, 32, 33, 34, 35, 36, 37, 38, 39, 58, 59, 46, 47, 48, 49, 50, 51, 52, 53, 54, 55, 56, 57] (by decide +kernel) (by decide +kernel)
set_option maxRecDepth 20000 in
theorem gX5_uncast_X1_remember : GoodIn wsX5_uncast (wsV RX5 96 RX1 yX1_remember wsX1_remember) := goodIn_app (goodIn_of _ (by decide +kernel)) ggX5_uncast_X1_remember
theorem dX5_uncast_0 : decode cX5_uncast 0 = .ok (.aload_n 0, 1) := by decide +kernel
theorem dX5_uncast_1 : decode cX5_uncast 1 = .ok (.getfield 23, 3) := by decide +kernel
theorem dX5_uncast_4 : decode cX5_uncast 4 = .ok (.iload_n 1, 1) := by decide +kernel
theorem dX5_uncast_5 : decode cX5_uncast 5 = .ok (.invokevirtual 114, 3) := by decide +kernel
theorem dX5_uncast_8 : decode cX5_uncast 8 = .ok (.ifCond .ne 7, 3) := by decide +kernel
theorem dX5_uncast_11 : decode cX5_uncast 11 = .ok (.sipush (-1001), 3) := by decide +kernel
theorem dX5_uncast_14 : decode cX5_uncast 14 = .ok (.ireturn, 1) := by decide +kernel
theorem dX5_uncast_15 : decode cX5_uncast 15 = .ok (.aload_n 0, 1) := by decide +kernel
theorem dX5_uncast_16 : decode cX5_uncast 16 = .ok (.getfield 23, 3) := by decide +kernel
theorem dX5_uncast_19 : decode cX5_uncast 19 = .ok (.getfield 135, 3) := by decide +kernel
theorem dX5_uncast_22 : decode cX5_uncast 22 = .ok (.iload_n 1, 1) := by decide +kernel
theorem dX5_uncast_23 : decode cX5_uncast 23 = .ok (.iaload, 1) := by decide +kernel
theorem dX5_uncast_24 : decode cX5_uncast 24 = .ok (.istore_n 2, 1) := by decide +kernel
theorem dX5_uncast_25 : decode cX5_uncast 25 = .ok (.iload_n 2, 1) := by decide +kernel
theorem dX5_uncast_26 : decode cX5_uncast 26 = .ok (.iconst (-1), 1) := by decide +kernel
theorem dX5_uncast_27 : decode cX5_uncast 27 = .ok (.if_icmp .ne 7, 3) := by decide +kernel
theorem dX5_uncast_30 : decode cX5_uncast 30 = .ok (.sipush (-1002), 3) := by decide +kernel
theorem dX5_uncast_33 : decode cX5_uncast 33 = .ok (.ireturn, 1) := by decide +kernel
theorem dX5_uncast_34 : decode cX5_uncast 34 = .ok (.aload_n 0, 1) := by decide +kernel
theorem dX5_uncast_35 : decode cX5_uncast 35 = .ok (.getfield 45, 3) := by decide +kernel
theorem dX5_uncast_38 : decode cX5_uncast 38 = .ok (.aload_n 0, 1) := by decide +kernel
theorem dX5_uncast_39 : decode cX5_uncast 39 = .ok (.getfield 23, 3) := by decide +kernel
theorem dX5_uncast_42 : decode cX5_uncast 42 = .ok (.invokevirtual 96, 3) := by decide +kernel
theorem dX5_uncast_45 : decode cX5_uncast 45 = .ok (.aload_n 0, 1) := by decide +kernel
theorem dX5_uncast_46 : decode cX5_uncast 46 = .ok (.getfield 23, 3) := by decide +kernel
theorem dX5_uncast_49 : decode cX5_uncast 49 = .ok (.getfield 135, 3) := by decide +kernel
theorem dX5_uncast_52 : decode cX5_uncast 52 = .ok (.iload_n 1, 1) := by decide +kernel
theorem dX5_uncast_53 : decode cX5_uncast 53 = .ok (.iconst (-1), 1) := by decide +kernel
theorem dX5_uncast_54 : decode cX5_uncast 54 = .ok (.iastore, 1) := by decide +kernel
theorem dX5_uncast_55 : decode cX5_uncast 55 = .ok (.iload_n 2, 1) := by decide +kernel
theorem dX5_uncast_56 : decode cX5_uncast 56 = .ok (.ireturn, 1) := by decide +kernel
set_option maxRecDepth 20000 in
theorem ggX5_adoptFirstCast_X1_remember : GoodIn wsX5_adoptFirstCast wsX1_remember := goodIn_r _ [11, 12, 13, 14, 15, 16, 10, 17, 18, 19, 20, 21, 22, 23, 24, 25, 26, 27, 28, 29, 30, 31, 32, 33, 34, 35, 36, 37, 38, 105, 106, 93, 94, 95, 96, 97, 98, 99, 100, 101, 102, 103, 104] (by decide +kernel) (by decide +kernel)
set_option maxRecDepth 20000 in
theorem gX5_adoptFirstCast_X1_remember : GoodIn wsX5_adoptFirstCast (wsV RX5 96 RX1 yX1_remember wsX1_remember) := goodIn_app (goodIn_of _ (by decide +kernel)) ggX5_adoptFirstCast_X1_remember
set_option maxRecDepth 20000 in
theorem ggX5_adoptFirstCast_X0_lookAt : GoodIn wsX5_adoptFirstCast wsX0_lookAt := goodIn_r _ [43, 44, 45, 46, 47, 48, 49, 50, 51, 52, 53, 54, 55, 107, 108, 93, 94, 95, 96, 97, 98, 99, 100, 101, 102, 103, 104, 109, 110, 111] (by decide +kernel) (by decide +kernel)
set_option maxRecDepth 20000 in
theorem gX5_adoptFirstCast_X0_lookAt : GoodIn wsX5_adoptFirstCast (wsV RX5 147 RX0 yX0_lookAt wsX0_lookAt) := goodIn_app (goodIn_of _ (by decide +kernel)) ggX5_adoptFirstCast_X0_lookAt
set_option maxRecDepth 20000 in
theorem ggX5_adoptFirstCast_X0_findFirstCast : GoodIn wsX5_adoptFirstCast wsX0_findFirstCast := goodIn_r _ [59, 46, 60, 61, 62, 42, 63, 64, 65, 66, 67, 68, 69, 70, 71, 72, 73, 74, 75, 76, 77, 78, 79, 80, 81, 82, 47, 109, 110, 111] (by decide +kernel) (by decide +kernel)
set_option maxRecDepth 20000 in
theorem gX5_adoptFirstCast_X0_findFirstCast : GoodIn wsX5_adoptFirstCast (wsV RX5 151 RX0 yX0_findFirstCast wsX0_findFirstCast) := goodIn_app (goodIn_of _ (by decide +kernel)) ggX5_adoptFirstCast_X0_findFirstCast
set_option maxRecDepth 20000 in
theorem ggX5_adoptFirstCast_X0_foundActor : GoodIn wsX5_adoptFirstCast wsX0_foundActor := goodIn_r _ [86, 72, 109, 110, 111] (by decide +kernel) (by decide +kernel)
set_option maxRecDepth 20000 in
theorem gX5_adoptFirstCast_X0_foundActor : GoodIn wsX5_adoptFirstCast (wsV RX5 154 RX0 yX0_foundActor wsX0_foundActor) := goodIn_app (goodIn_of _ (by decide +kernel)) ggX5_adoptFirstCast_X0_foundActor
theorem dX5_adoptFirstCast_0 : decode cX5_adoptFirstCast 0 = .ok (.aload_n 0, 1) := by decide +kernel
theorem dX5_adoptFirstCast_1 : decode cX5_adoptFirstCast 1 = .ok (.getfield 45, 3) := by decide +kernel
theorem dX5_adoptFirstCast_4 : decode cX5_adoptFirstCast 4 = .ok (.aload_n 0, 1) := by decide +kernel
theorem dX5_adoptFirstCast_5 : decode cX5_adoptFirstCast 5 = .ok (.getfield 23, 3) := by decide +kernel
theorem dX5_adoptFirstCast_8 : decode cX5_adoptFirstCast 8 = .ok (.invokevirtual 96, 3) := by decide +kernel
theorem dX5_adoptFirstCast_11 : decode cX5_adoptFirstCast 11 = .ok (.aload_n 0, 1) := by decide +kernel
theorem dX5_adoptFirstCast_12 : decode cX5_adoptFirstCast 12 = .ok (.getfield 38, 3) := by decide +kernel
theorem dX5_adoptFirstCast_15 : decode cX5_adoptFirstCast 15 = .ok (.aload_n 0, 1) := by decide +kernel
theorem dX5_adoptFirstCast_16 : decode cX5_adoptFirstCast 16 = .ok (.getfield 31, 3) := by decide +kernel
theorem dX5_adoptFirstCast_19 : decode cX5_adoptFirstCast 19 = .ok (.iconst 0, 1) := by decide +kernel
theorem dX5_adoptFirstCast_20 : decode cX5_adoptFirstCast 20 = .ok (.invokevirtual 147, 3) := by decide +kernel
theorem dX5_adoptFirstCast_23 : decode cX5_adoptFirstCast 23 = .ok (.aload_n 0, 1) := by decide +kernel
theorem dX5_adoptFirstCast_24 : decode cX5_adoptFirstCast 24 = .ok (.getfield 38, 3) := by decide +kernel
theorem dX5_adoptFirstCast_27 : decode cX5_adoptFirstCast 27 = .ok (.invokevirtual 151, 3) := by decide +kernel
theorem dX5_adoptFirstCast_30 : decode cX5_adoptFirstCast 30 = .ok (.istore_n 1, 1) := by decide +kernel
theorem dX5_adoptFirstCast_31 : decode cX5_adoptFirstCast 31 = .ok (.iconst 0, 1) := by decide +kernel
theorem dX5_adoptFirstCast_32 : decode cX5_adoptFirstCast 32 = .ok (.istore_n 2, 1) := by decide +kernel
theorem dX5_adoptFirstCast_33 : decode cX5_adoptFirstCast 33 = .ok (.iload_n 2, 1) := by decide +kernel
theorem dX5_adoptFirstCast_34 : decode cX5_adoptFirstCast 34 = .ok (.aload_n 0, 1) := by decide +kernel
theorem dX5_adoptFirstCast_35 : decode cX5_adoptFirstCast 35 = .ok (.getfield 23, 3) := by decide +kernel
theorem dX5_adoptFirstCast_38 : decode cX5_adoptFirstCast 38 = .ok (.getfield 86, 3) := by decide +kernel
theorem dX5_adoptFirstCast_41 : decode cX5_adoptFirstCast 41 = .ok (.if_icmp .ge 26, 3) := by decide +kernel
theorem dX5_adoptFirstCast_44 : decode cX5_adoptFirstCast 44 = .ok (.aload_n 0, 1) := by decide +kernel
theorem dX5_adoptFirstCast_45 : decode cX5_adoptFirstCast 45 = .ok (.getfield 23, 3) := by decide +kernel
theorem dX5_adoptFirstCast_48 : decode cX5_adoptFirstCast 48 = .ok (.getfield 135, 3) := by decide +kernel
theorem dX5_adoptFirstCast_51 : decode cX5_adoptFirstCast 51 = .ok (.iload_n 2, 1) := by decide +kernel
theorem dX5_adoptFirstCast_52 : decode cX5_adoptFirstCast 52 = .ok (.aload_n 0, 1) := by decide +kernel
theorem dX5_adoptFirstCast_53 : decode cX5_adoptFirstCast 53 = .ok (.getfield 38, 3) := by decide +kernel
theorem dX5_adoptFirstCast_56 : decode cX5_adoptFirstCast 56 = .ok (.iload_n 2, 1) := by decide +kernel
theorem dX5_adoptFirstCast_57 : decode cX5_adoptFirstCast 57 = .ok (.invokevirtual 154, 3) := by decide +kernel
theorem dX5_adoptFirstCast_60 : decode cX5_adoptFirstCast 60 = .ok (.iastore, 1) := by decide +kernel
theorem dX5_adoptFirstCast_61 : decode cX5_adoptFirstCast 61 = .ok (.iinc 2 1, 3) := by decide +kernel
theorem dX5_adoptFirstCast_64 : decode cX5_adoptFirstCast 64 = .ok (.goto (-31), 3) := by decide +kernel
theorem dX5_adoptFirstCast_67 : decode cX5_adoptFirstCast 67 = .ok (.iload_n 1, 1) := by decide +kernel
theorem dX5_adoptFirstCast_68 : decode cX5_adoptFirstCast 68 = .ok (.ireturn, 1) := by decide +kernel
set_option maxRecDepth 20000 in
theorem ggX5_undo_X1_bringBack : GoodIn wsX5_undo wsX1_bringBack := goodIn_r _ [9, 10, 11, 12, 13, 14, 15, 16, 17, 18, 19, 20, 21, 22, 23, 24, 25, 26, 27, 28, 29, 30, 31, 32, 67, 68, 69, 70, 71, 72, 73, 74, 75, 76, 77, 78, 79, 80] (by decide +kernel) (by decide +kernel)
set_option maxRecDepth 20000 in
theorem gX5_undo_X1_bringBack : GoodIn wsX5_undo (wsV RX5 160 RX1 yX1_bringBack wsX1_bringBack) := goodIn_app (goodIn_of _ (by decide +kernel)) ggX5_undo_X1_bringBack
set_option maxRecDepth 20000 in
theorem ggX5_undo_X4_measure : GoodIn wsX5_undo wsX4_measure := goodIn_r _ [37, 38, 39, 40, 41, 42, 43, 36, 44, 45, 46, 47, 48, 49, 50, 51, 52, 53, 54, 55, 56, 57, 58, 59, 60, 81, 82, 69, 70, 71, 72, 73, 74, 75, 76, 77, 78, 79, 80] (by decide +kernel) (by decide +kernel)
set_option maxRecDepth 20000 in
theorem gX5_undo_X4_measure : GoodIn wsX5_undo (wsV RX5 103 RX4 yX4_measure wsX4_measure) := goodIn_app (goodIn_of _ (by decide +kernel)) ggX5_undo_X4_measure
theorem dX5_undo_0 : decode cX5_undo 0 = .ok (.aload_n 0, 1) := by decide +kernel
theorem dX5_undo_1 : decode cX5_undo 1 = .ok (.getfield 45, 3) := by decide +kernel
theorem dX5_undo_4 : decode cX5_undo 4 = .ok (.getfield 157, 3) := by decide +kernel
theorem dX5_undo_7 : decode cX5_undo 7 = .ok (.ifCond .ne 7, 3) := by decide +kernel
theorem dX5_undo_10 : decode cX5_undo 10 = .ok (.sipush (-1002), 3) := by decide +kernel
theorem dX5_undo_13 : decode cX5_undo 13 = .ok (.ireturn, 1) := by decide +kernel
theorem dX5_undo_14 : decode cX5_undo 14 = .ok (.aload_n 0, 1) := by decide +kernel
theorem dX5_undo_15 : decode cX5_undo 15 = .ok (.getfield 45, 3) := by decide +kernel
theorem dX5_undo_18 : decode cX5_undo 18 = .ok (.aload_n 0, 1) := by decide +kernel
theorem dX5_undo_19 : decode cX5_undo 19 = .ok (.getfield 23, 3) := by decide +kernel
theorem dX5_undo_22 : decode cX5_undo 22 = .ok (.invokevirtual 160, 3) := by decide +kernel
theorem dX5_undo_25 : decode cX5_undo 25 = .ok (.aload_n 0, 1) := by decide +kernel
theorem dX5_undo_26 : decode cX5_undo 26 = .ok (.getfield 31, 3) := by decide +kernel
theorem dX5_undo_29 : decode cX5_undo 29 = .ok (.invokevirtual 103, 3) := by decide +kernel
theorem dX5_undo_32 : decode cX5_undo 32 = .ok (.aload_n 0, 1) := by decide +kernel
theorem dX5_undo_33 : decode cX5_undo 33 = .ok (.getfield 45, 3) := by decide +kernel
theorem dX5_undo_36 : decode cX5_undo 36 = .ok (.getfield 157, 3) := by decide +kernel
theorem dX5_undo_39 : decode cX5_undo 39 = .ok (.ireturn, 1) := by decide +kernel
theorem dX5_roleCount_0 : decode cX5_roleCount 0 = .ok (.aload_n 0, 1) := by decide +kernel
theorem dX5_roleCount_1 : decode cX5_roleCount 1 = .ok (.getfield 23, 3) := by decide +kernel
theorem dX5_roleCount_4 : decode cX5_roleCount 4 = .ok (.getfield 86, 3) := by decide +kernel
theorem dX5_roleCount_7 : decode cX5_roleCount 7 = .ok (.ireturn, 1) := by decide +kernel
theorem dX5_appearanceCount_0 : decode cX5_appearanceCount 0 = .ok (.aload_n 0, 1) := by decide +kernel
theorem dX5_appearanceCount_1 : decode cX5_appearanceCount 1 = .ok (.getfield 23, 3) := by decide +kernel
theorem dX5_appearanceCount_4 : decode cX5_appearanceCount 4 = .ok (.getfield 93, 3) := by decide +kernel
theorem dX5_appearanceCount_7 : decode cX5_appearanceCount 7 = .ok (.ireturn, 1) := by decide +kernel
set_option maxRecDepth 20000 in
theorem ggX5_playLength_X2_startOf : GoodIn wsX5_playLength wsX2_startOf := goodIn_r _ [7, 8, 9, 16, 17, 18, 19, 20, 21, 22, 23, 24, 25, 26, 27] (by decide +kernel) (by decide +kernel)
set_option maxRecDepth 20000 in
theorem gX5_playLength_X2_startOf : GoodIn wsX5_playLength (wsV RX5 163 RX2 yX2_startOf wsX2_startOf) := goodIn_app (goodIn_of _ (by decide +kernel)) ggX5_playLength_X2_startOf
theorem dX5_playLength_0 : decode cX5_playLength 0 = .ok (.aload_n 0, 1) := by decide +kernel
theorem dX5_playLength_1 : decode cX5_playLength 1 = .ok (.getfield 23, 3) := by decide +kernel
theorem dX5_playLength_4 : decode cX5_playLength 4 = .ok (.aload_n 0, 1) := by decide +kernel
theorem dX5_playLength_5 : decode cX5_playLength 5 = .ok (.getfield 23, 3) := by decide +kernel
theorem dX5_playLength_8 : decode cX5_playLength 8 = .ok (.getfield 83, 3) := by decide +kernel
theorem dX5_playLength_11 : decode cX5_playLength 11 = .ok (.invokevirtual 163, 3) := by decide +kernel
theorem dX5_playLength_14 : decode cX5_playLength 14 = .ok (.ireturn, 1) := by decide +kernel
set_option maxRecDepth 20000 in
theorem ggX5_onStage_X2_startOf : GoodIn wsX5_onStage wsX2_startOf := goodIn_r _ [7, 8, 9, 24, 25, 26, 27, 28, 29, 30, 31, 32, 33, 34, 35] (by decide +kernel) (by decide +kernel)
set_option maxRecDepth 20000 in
theorem gX5_onStage_X2_startOf : GoodIn wsX5_onStage (wsV RX5 163 RX2 yX2_startOf wsX2_startOf) := goodIn_app (goodIn_of _ (by decide +kernel)) ggX5_onStage_X2_startOf
set_option maxRecDepth 20000 in
theorem ggX5_onStage_X2_rolesAt : GoodIn wsX5_onStage wsX2_rolesAt := goodIn_r _ [13, 14, 15, 16, 17, 24, 25, 26, 27, 28, 29, 30, 31, 32, 33, 34, 35] (by decide +kernel) (by decide +kernel)
set_option maxRecDepth 20000 in
theorem gX5_onStage_X2_rolesAt : GoodIn wsX5_onStage (wsV RX5 166 RX2 yX2_rolesAt wsX2_rolesAt) := goodIn_app (goodIn_of _ (by decide +kernel)) ggX5_onStage_X2_rolesAt
theorem dX5_onStage_0 : decode cX5_onStage 0 = .ok (.iload_n 1, 1) := by decide +kernel
theorem dX5_onStage_1 : decode cX5_onStage 1 = .ok (.ifCond .lt 21, 3) := by decide +kernel
theorem dX5_onStage_4 : decode cX5_onStage 4 = .ok (.iload_n 1, 1) := by decide +kernel
theorem dX5_onStage_5 : decode cX5_onStage 5 = .ok (.aload_n 0, 1) := by decide +kernel
theorem dX5_onStage_6 : decode cX5_onStage 6 = .ok (.getfield 23, 3) := by decide +kernel
theorem dX5_onStage_9 : decode cX5_onStage 9 = .ok (.aload_n 0, 1) := by decide +kernel
theorem dX5_onStage_10 : decode cX5_onStage 10 = .ok (.getfield 23, 3) := by decide +kernel
theorem dX5_onStage_13 : decode cX5_onStage 13 = .ok (.getfield 83, 3) := by decide +kernel
theorem dX5_onStage_16 : decode cX5_onStage 16 = .ok (.invokevirtual 163, 3) := by decide +kernel
theorem dX5_onStage_19 : decode cX5_onStage 19 = .ok (.if_icmp .lt 7, 3) := by decide +kernel
theorem dX5_onStage_22 : decode cX5_onStage 22 = .ok (.sipush (-1001), 3) := by decide +kernel
theorem dX5_onStage_25 : decode cX5_onStage 25 = .ok (.ireturn, 1) := by decide +kernel
theorem dX5_onStage_26 : decode cX5_onStage 26 = .ok (.aload_n 0, 1) := by decide +kernel
theorem dX5_onStage_27 : decode cX5_onStage 27 = .ok (.getfield 23, 3) := by decide +kernel
theorem dX5_onStage_30 : decode cX5_onStage 30 = .ok (.iload_n 1, 1) := by decide +kernel
theorem dX5_onStage_31 : decode cX5_onStage 31 = .ok (.invokevirtual 166, 3) := by decide +kernel
theorem dX5_onStage_34 : decode cX5_onStage 34 = .ok (.ireturn, 1) := by decide +kernel
set_option maxRecDepth 20000 in
theorem ggX5_peak_X2_rolesAt : GoodIn wsX5_peak wsX2_rolesAt := goodIn_r _ [12, 13, 14, 15, 16, 30, 31, 32, 33, 34, 35, 36, 37, 38, 39, 40, 41] (by decide +kernel) (by decide +kernel)
set_option maxRecDepth 20000 in
theorem gX5_peak_X2_rolesAt : GoodIn wsX5_peak (wsV RX5 166 RX2 yX2_rolesAt wsX2_rolesAt) := goodIn_app (goodIn_of _ (by decide +kernel)) ggX5_peak_X2_rolesAt
set_option maxRecDepth 20000 in
theorem ggX5_peak_J6_bitCount_0f7a4 : GoodIn wsX5_peak wsJ6_bitCount_0f7a4 := goodIn_r _ [20, 21, 22, 23] (by decide +kernel) (by decide +kernel)
set_option maxRecDepth 20000 in
theorem gX5_peak_J6_bitCount_0f7a4 : GoodIn wsX5_peak (va_wsS RX5 142 yJ6_bitCount_0f7a4 wsJ6_bitCount_0f7a4) := goodIn_app (goodIn_of _ (by decide +kernel)) ggX5_peak_J6_bitCount_0f7a4
theorem dX5_peak_0 : decode cX5_peak 0 = .ok (.iconst 0, 1) := by decide +kernel
theorem dX5_peak_1 : decode cX5_peak 1 = .ok (.istore_n 1, 1) := by decide +kernel
theorem dX5_peak_2 : decode cX5_peak 2 = .ok (.iconst 0, 1) := by decide +kernel
theorem dX5_peak_3 : decode cX5_peak 3 = .ok (.istore_n 2, 1) := by decide +kernel
theorem dX5_peak_4 : decode cX5_peak 4 = .ok (.iload_n 2, 1) := by decide +kernel
theorem dX5_peak_5 : decode cX5_peak 5 = .ok (.aload_n 0, 1) := by decide +kernel
theorem dX5_peak_6 : decode cX5_peak 6 = .ok (.getfield 23, 3) := by decide +kernel
theorem dX5_peak_9 : decode cX5_peak 9 = .ok (.getfield 93, 3) := by decide +kernel
theorem dX5_peak_12 : decode cX5_peak 12 = .ok (.if_icmp .ge 33, 3) := by decide +kernel
theorem dX5_peak_15 : decode cX5_peak 15 = .ok (.iload_n 1, 1) := by decide +kernel
theorem dX5_peak_16 : decode cX5_peak 16 = .ok (.aload_n 0, 1) := by decide +kernel
theorem dX5_peak_17 : decode cX5_peak 17 = .ok (.getfield 23, 3) := by decide +kernel
theorem dX5_peak_20 : decode cX5_peak 20 = .ok (.aload_n 0, 1) := by decide +kernel
theorem dX5_peak_21 : decode cX5_peak 21 = .ok (.getfield 23, 3) := by decide +kernel
theorem dX5_peak_24 : decode cX5_peak 24 = .ok (.getfield 169, 3) := by decide +kernel
theorem dX5_peak_27 : decode cX5_peak 27 = .ok (.iload_n 2, 1) := by decide +kernel
theorem dX5_peak_28 : decode cX5_peak 28 = .ok (.iaload, 1) := by decide +kernel
theorem dX5_peak_29 : decode cX5_peak 29 = .ok (.invokevirtual 166, 3) := by decide +kernel
theorem dX5_peak_32 : decode cX5_peak 32 = .ok (.invokestatic 142, 3) := by decide +kernel
theorem dX5_peak_35 : decode cX5_peak 35 = .ok (.invokestatic 172, 3) := by decide +kernel
theorem dX5_peak_38 : decode cX5_peak 38 = .ok (.istore_n 1, 1) := by decide +kernel
theorem dX5_peak_39 : decode cX5_peak 39 = .ok (.iinc 2 1, 3) := by decide +kernel
theorem dX5_peak_42 : decode cX5_peak 42 = .ok (.goto (-38), 3) := by decide +kernel
theorem dX5_peak_45 : decode cX5_peak 45 = .ok (.iload_n 1, 1) := by decide +kernel
theorem dX5_peak_46 : decode cX5_peak 46 = .ok (.ireturn, 1) := by decide +kernel
set_option maxRecDepth 20000 in
theorem ggX5_rolesInScene_X2_hasScene : GoodIn wsX5_rolesInScene wsX2_hasScene := goodIn_r _ [9, 10, 17, 18, 19, 20, 21, 22, 23, 24, 25, 26, 27, 28] (by decide +kernel) (by decide +kernel)
set_option maxRecDepth 20000 in
theorem gX5_rolesInScene_X2_hasScene : GoodIn wsX5_rolesInScene (wsV RX5 178 RX2 yX2_hasScene wsX2_hasScene) := goodIn_app (goodIn_of _ (by decide +kernel)) ggX5_rolesInScene_X2_hasScene
theorem dX5_rolesInScene_0 : decode cX5_rolesInScene 0 = .ok (.aload_n 0, 1) := by decide +kernel
theorem dX5_rolesInScene_1 : decode cX5_rolesInScene 1 = .ok (.getfield 23, 3) := by decide +kernel
theorem dX5_rolesInScene_4 : decode cX5_rolesInScene 4 = .ok (.iload_n 1, 1) := by decide +kernel
theorem dX5_rolesInScene_5 : decode cX5_rolesInScene 5 = .ok (.invokevirtual 178, 3) := by decide +kernel
theorem dX5_rolesInScene_8 : decode cX5_rolesInScene 8 = .ok (.ifCond .ne 7, 3) := by decide +kernel
theorem dX5_rolesInScene_11 : decode cX5_rolesInScene 11 = .ok (.sipush (-1001), 3) := by decide +kernel
theorem dX5_rolesInScene_14 : decode cX5_rolesInScene 14 = .ok (.ireturn, 1) := by decide +kernel
theorem dX5_rolesInScene_15 : decode cX5_rolesInScene 15 = .ok (.iconst 0, 1) := by decide +kernel
theorem dX5_rolesInScene_16 : decode cX5_rolesInScene 16 = .ok (.istore_n 2, 1) := by decide +kernel
theorem dX5_rolesInScene_17 : decode cX5_rolesInScene 17 = .ok (.iconst 0, 1) := by decide +kernel
theorem dX5_rolesInScene_18 : decode cX5_rolesInScene 18 = .ok (.istore_n 3, 1) := by decide +kernel
theorem dX5_rolesInScene_19 : decode cX5_rolesInScene 19 = .ok (.iload_n 3, 1) := by decide +kernel
theorem dX5_rolesInScene_20 : decode cX5_rolesInScene 20 = .ok (.aload_n 0, 1) := by decide +kernel
theorem dX5_rolesInScene_21 : decode cX5_rolesInScene 21 = .ok (.getfield 23, 3) := by decide +kernel
theorem dX5_rolesInScene_24 : decode cX5_rolesInScene 24 = .ok (.getfield 93, 3) := by decide +kernel
theorem dX5_rolesInScene_27 : decode cX5_rolesInScene 27 = .ok (.if_icmp .ge 36, 3) := by decide +kernel
theorem dX5_rolesInScene_30 : decode cX5_rolesInScene 30 = .ok (.aload_n 0, 1) := by decide +kernel
theorem dX5_rolesInScene_31 : decode cX5_rolesInScene 31 = .ok (.getfield 23, 3) := by decide +kernel
theorem dX5_rolesInScene_34 : decode cX5_rolesInScene 34 = .ok (.getfield 181, 3) := by decide +kernel
theorem dX5_rolesInScene_37 : decode cX5_rolesInScene 37 = .ok (.iload_n 3, 1) := by decide +kernel
theorem dX5_rolesInScene_38 : decode cX5_rolesInScene 38 = .ok (.iaload, 1) := by decide +kernel
theorem dX5_rolesInScene_39 : decode cX5_rolesInScene 39 = .ok (.iload_n 1, 1) := by decide +kernel
theorem dX5_rolesInScene_40 : decode cX5_rolesInScene 40 = .ok (.if_icmp .ne 17, 3) := by decide +kernel
theorem dX5_rolesInScene_43 : decode cX5_rolesInScene 43 = .ok (.iload_n 2, 1) := by decide +kernel
theorem dX5_rolesInScene_44 : decode cX5_rolesInScene 44 = .ok (.iconst 1, 1) := by decide +kernel
theorem dX5_rolesInScene_45 : decode cX5_rolesInScene 45 = .ok (.aload_n 0, 1) := by decide +kernel
theorem dX5_rolesInScene_46 : decode cX5_rolesInScene 46 = .ok (.getfield 23, 3) := by decide +kernel
theorem dX5_rolesInScene_49 : decode cX5_rolesInScene 49 = .ok (.getfield 184, 3) := by decide +kernel
theorem dX5_rolesInScene_52 : decode cX5_rolesInScene 52 = .ok (.iload_n 3, 1) := by decide +kernel
theorem dX5_rolesInScene_53 : decode cX5_rolesInScene 53 = .ok (.iaload, 1) := by decide +kernel
theorem dX5_rolesInScene_54 : decode cX5_rolesInScene 54 = .ok (.ishl, 1) := by decide +kernel
theorem dX5_rolesInScene_55 : decode cX5_rolesInScene 55 = .ok (.ior, 1) := by decide +kernel
theorem dX5_rolesInScene_56 : decode cX5_rolesInScene 56 = .ok (.istore_n 2, 1) := by decide +kernel
theorem dX5_rolesInScene_57 : decode cX5_rolesInScene 57 = .ok (.iinc 3 1, 3) := by decide +kernel
theorem dX5_rolesInScene_60 : decode cX5_rolesInScene 60 = .ok (.goto (-41), 3) := by decide +kernel
theorem dX5_rolesInScene_63 : decode cX5_rolesInScene 63 = .ok (.iload_n 2, 1) := by decide +kernel
theorem dX5_rolesInScene_64 : decode cX5_rolesInScene 64 = .ok (.ireturn, 1) := by decide +kernel
set_option maxRecDepth 20000 in
theorem ggX5_conflict_X5_areTwoRoles : GoodIn wsX5_conflict wsX5_areTwoRoles := goodIn_r _ [6, 7, 8, 9, 10, 11, 12, 13, 22, 23, 24, 25, 26, 27, 28, 29, 30, 31, 32, 33, 34, 35, 36, 37, 38, 39] (by decide +kernel) (by decide +kernel)
set_option maxRecDepth 20000 in
theorem gX5_conflict_X5_areTwoRoles : GoodIn wsX5_conflict (wsV RX5 187 RX5 yX5_areTwoRoles wsX5_areTwoRoles) := goodIn_app (goodIn_of _ (by decide +kernel)) ggX5_conflict_X5_areTwoRoles
set_option maxRecDepth 20000 in
theorem ggX5_conflict_X4_reason : GoodIn wsX5_conflict wsX4_reason := goodIn_r _ [18, 19, 20, 21, 40, 41, 28, 29, 30, 31, 32, 33, 34, 35, 36, 37, 38, 39] (by decide +kernel) (by decide +kernel)
set_option maxRecDepth 20000 in
theorem gX5_conflict_X4_reason : GoodIn wsX5_conflict (wsV RX5 191 RX4 yX4_reason wsX4_reason) := goodIn_app (goodIn_of _ (by decide +kernel)) ggX5_conflict_X4_reason
theorem dX5_conflict_0 : decode cX5_conflict 0 = .ok (.aload_n 0, 1) := by decide +kernel
theorem dX5_conflict_1 : decode cX5_conflict 1 = .ok (.iload_n 1, 1) := by decide +kernel
theorem dX5_conflict_2 : decode cX5_conflict 2 = .ok (.iload_n 2, 1) := by decide +kernel
theorem dX5_conflict_3 : decode cX5_conflict 3 = .ok (.invokevirtual 187, 3) := by decide +kernel
theorem dX5_conflict_6 : decode cX5_conflict 6 = .ok (.ifCond .ne 7, 3) := by decide +kernel
theorem dX5_conflict_9 : decode cX5_conflict 9 = .ok (.sipush (-1001), 3) := by decide +kernel
theorem dX5_conflict_12 : decode cX5_conflict 12 = .ok (.ireturn, 1) := by decide +kernel
theorem dX5_conflict_13 : decode cX5_conflict 13 = .ok (.aload_n 0, 1) := by decide +kernel
theorem dX5_conflict_14 : decode cX5_conflict 14 = .ok (.getfield 31, 3) := by decide +kernel
theorem dX5_conflict_17 : decode cX5_conflict 17 = .ok (.iload_n 1, 1) := by decide +kernel
theorem dX5_conflict_18 : decode cX5_conflict 18 = .ok (.iload_n 2, 1) := by decide +kernel
theorem dX5_conflict_19 : decode cX5_conflict 19 = .ok (.iconst 0, 1) := by decide +kernel
theorem dX5_conflict_20 : decode cX5_conflict 20 = .ok (.invokevirtual 191, 3) := by decide +kernel
theorem dX5_conflict_23 : decode cX5_conflict 23 = .ok (.ireturn, 1) := by decide +kernel
set_option maxRecDepth 20000 in
theorem ggX5_conflictCount_X4_reason : GoodIn wsX5_conflictCount wsX4_reason := goodIn_r _ [8, 9, 10, 11, 30, 31, 18, 19, 20, 21, 22, 23, 24, 25, 26, 27, 28, 29] (by decide +kernel) (by decide +kernel)
set_option maxRecDepth 20000 in
theorem gX5_conflictCount_X4_reason : GoodIn wsX5_conflictCount (wsV RX5 191 RX4 yX4_reason wsX4_reason) := goodIn_app (goodIn_of _ (by decide +kernel)) ggX5_conflictCount_X4_reason
theorem dX5_conflictCount_0 : decode cX5_conflictCount 0 = .ok (.iconst 0, 1) := by decide +kernel
theorem dX5_conflictCount_1 : decode cX5_conflictCount 1 = .ok (.istore_n 1, 1) := by decide +kernel
theorem dX5_conflictCount_2 : decode cX5_conflictCount 2 = .ok (.iconst 1, 1) := by decide +kernel
theorem dX5_conflictCount_3 : decode cX5_conflictCount 3 = .ok (.istore_n 2, 1) := by decide +kernel
theorem dX5_conflictCount_4 : decode cX5_conflictCount 4 = .ok (.iload_n 2, 1) := by decide +kernel
theorem dX5_conflictCount_5 : decode cX5_conflictCount 5 = .ok (.aload_n 0, 1) := by decide +kernel
theorem dX5_conflictCount_6 : decode cX5_conflictCount 6 = .ok (.getfield 23, 3) := by decide +kernel
theorem dX5_conflictCount_9 : decode cX5_conflictCount 9 = .ok (.getfield 86, 3) := by decide +kernel
theorem dX5_conflictCount_12 : decode cX5_conflictCount 12 = .ok (.if_icmp .ge 38, 3) := by decide +kernel
theorem dX5_conflictCount_15 : decode cX5_conflictCount 15 = .ok (.iconst 0, 1) := by decide +kernel
theorem dX5_conflictCount_16 : decode cX5_conflictCount 16 = .ok (.istore_n 3, 1) := by decide +kernel
theorem dX5_conflictCount_17 : decode cX5_conflictCount 17 = .ok (.iload_n 3, 1) := by decide +kernel
theorem dX5_conflictCount_18 : decode cX5_conflictCount 18 = .ok (.iload_n 2, 1) := by decide +kernel
theorem dX5_conflictCount_19 : decode cX5_conflictCount 19 = .ok (.if_icmp .ge 25, 3) := by decide +kernel
theorem dX5_conflictCount_22 : decode cX5_conflictCount 22 = .ok (.aload_n 0, 1) := by decide +kernel
theorem dX5_conflictCount_23 : decode cX5_conflictCount 23 = .ok (.getfield 31, 3) := by decide +kernel
theorem dX5_conflictCount_26 : decode cX5_conflictCount 26 = .ok (.iload_n 2, 1) := by decide +kernel
theorem dX5_conflictCount_27 : decode cX5_conflictCount 27 = .ok (.iload_n 3, 1) := by decide +kernel
theorem dX5_conflictCount_28 : decode cX5_conflictCount 28 = .ok (.iconst 0, 1) := by decide +kernel
theorem dX5_conflictCount_29 : decode cX5_conflictCount 29 = .ok (.invokevirtual 191, 3) := by decide +kernel
theorem dX5_conflictCount_32 : decode cX5_conflictCount 32 = .ok (.ifCond .eq 6, 3) := by decide +kernel
theorem dX5_conflictCount_35 : decode cX5_conflictCount 35 = .ok (.iinc 1 1, 3) := by decide +kernel
theorem dX5_conflictCount_38 : decode cX5_conflictCount 38 = .ok (.iinc 3 1, 3) := by decide +kernel
theorem dX5_conflictCount_41 : decode cX5_conflictCount 41 = .ok (.goto (-24), 3) := by decide +kernel
theorem dX5_conflictCount_44 : decode cX5_conflictCount 44 = .ok (.iinc 2 1, 3) := by decide +kernel
theorem dX5_conflictCount_47 : decode cX5_conflictCount 47 = .ok (.goto (-43), 3) := by decide +kernel
theorem dX5_conflictCount_50 : decode cX5_conflictCount 50 = .ok (.iload_n 1, 1) := by decide +kernel
theorem dX5_conflictCount_51 : decode cX5_conflictCount 51 = .ok (.ireturn, 1) := by decide +kernel
set_option maxRecDepth 20000 in
theorem ggX5_slack_X5_areTwoRoles : GoodIn wsX5_slack wsX5_areTwoRoles := goodIn_r _ [7, 8, 9, 10, 11, 12, 13, 14, 15, 16, 17, 18, 19, 20, 23, 24, 25, 26, 27, 28, 29, 30, 31, 32, 33, 34] (by decide +kernel) (by decide +kernel)
set_option maxRecDepth 20000 in
theorem gX5_slack_X5_areTwoRoles : GoodIn wsX5_slack (wsV RX5 187 RX5 yX5_areTwoRoles wsX5_areTwoRoles) := goodIn_app (goodIn_of _ (by decide +kernel)) ggX5_slack_X5_areTwoRoles
theorem dX5_slack_0 : decode cX5_slack 0 = .ok (.aload_n 0, 1) := by decide +kernel
theorem dX5_slack_1 : decode cX5_slack 1 = .ok (.iload_n 1, 1) := by decide +kernel
theorem dX5_slack_2 : decode cX5_slack 2 = .ok (.iload_n 2, 1) := by decide +kernel
theorem dX5_slack_3 : decode cX5_slack 3 = .ok (.invokevirtual 187, 3) := by decide +kernel
theorem dX5_slack_6 : decode cX5_slack 6 = .ok (.ifCond .ne 7, 3) := by decide +kernel
theorem dX5_slack_9 : decode cX5_slack 9 = .ok (.sipush (-1001), 3) := by decide +kernel
theorem dX5_slack_12 : decode cX5_slack 12 = .ok (.ireturn, 1) := by decide +kernel
theorem dX5_slack_13 : decode cX5_slack 13 = .ok (.aload_n 0, 1) := by decide +kernel
theorem dX5_slack_14 : decode cX5_slack 14 = .ok (.getfield 31, 3) := by decide +kernel
theorem dX5_slack_17 : decode cX5_slack 17 = .ok (.getfield 194, 3) := by decide +kernel
theorem dX5_slack_20 : decode cX5_slack 20 = .ok (.iload_n 1, 1) := by decide +kernel
theorem dX5_slack_21 : decode cX5_slack 21 = .ok (.aaload, 1) := by decide +kernel
theorem dX5_slack_22 : decode cX5_slack 22 = .ok (.iload_n 2, 1) := by decide +kernel
theorem dX5_slack_23 : decode cX5_slack 23 = .ok (.iaload, 1) := by decide +kernel
theorem dX5_slack_24 : decode cX5_slack 24 = .ok (.ireturn, 1) := by decide +kernel
set_option maxRecDepth 20000 in
theorem ggX5_actorOf_X2_hasRole : GoodIn wsX5_actorOf wsX2_hasRole := goodIn_r _ [7, 8, 15, 16, 17, 18, 19, 20, 21, 22, 23, 24, 25, 26] (by decide +kernel) (by decide +kernel)
set_option maxRecDepth 20000 in
theorem gX5_actorOf_X2_hasRole : GoodIn wsX5_actorOf (wsV RX5 114 RX2 yX2_hasRole wsX2_hasRole) := goodIn_app (goodIn_of _ (by decide +kernel)) ggX5_actorOf_X2_hasRole
theorem dX5_actorOf_0 : decode cX5_actorOf 0 = .ok (.aload_n 0, 1) := by decide +kernel
theorem dX5_actorOf_1 : decode cX5_actorOf 1 = .ok (.getfield 23, 3) := by decide +kernel
theorem dX5_actorOf_4 : decode cX5_actorOf 4 = .ok (.iload_n 1, 1) := by decide +kernel
theorem dX5_actorOf_5 : decode cX5_actorOf 5 = .ok (.invokevirtual 114, 3) := by decide +kernel
theorem dX5_actorOf_8 : decode cX5_actorOf 8 = .ok (.ifCond .ne 7, 3) := by decide +kernel
theorem dX5_actorOf_11 : decode cX5_actorOf 11 = .ok (.sipush (-1001), 3) := by decide +kernel
theorem dX5_actorOf_14 : decode cX5_actorOf 14 = .ok (.ireturn, 1) := by decide +kernel
theorem dX5_actorOf_15 : decode cX5_actorOf 15 = .ok (.aload_n 0, 1) := by decide +kernel
theorem dX5_actorOf_16 : decode cX5_actorOf 16 = .ok (.getfield 23, 3) := by decide +kernel
theorem dX5_actorOf_19 : decode cX5_actorOf 19 = .ok (.getfield 135, 3) := by decide +kernel
theorem dX5_actorOf_22 : decode cX5_actorOf 22 = .ok (.iload_n 1, 1) := by decide +kernel
theorem dX5_actorOf_23 : decode cX5_actorOf 23 = .ok (.iaload, 1) := by decide +kernel
theorem dX5_actorOf_24 : decode cX5_actorOf 24 = .ok (.istore_n 2, 1) := by decide +kernel
theorem dX5_actorOf_25 : decode cX5_actorOf 25 = .ok (.iload_n 2, 1) := by decide +kernel
theorem dX5_actorOf_26 : decode cX5_actorOf 26 = .ok (.iconst (-1), 1) := by decide +kernel
theorem dX5_actorOf_27 : decode cX5_actorOf 27 = .ok (.if_icmp .ne 9, 3) := by decide +kernel
theorem dX5_actorOf_30 : decode cX5_actorOf 30 = .ok (.sipush (-1004), 3) := by decide +kernel
theorem dX5_actorOf_33 : decode cX5_actorOf 33 = .ok (.goto 4, 3) := by decide +kernel
theorem dX5_actorOf_36 : decode cX5_actorOf 36 = .ok (.iload_n 2, 1) := by decide +kernel
theorem dX5_actorOf_37 : decode cX5_actorOf 37 = .ok (.ireturn, 1) := by decide +kernel
set_option maxRecDepth 20000 in
theorem ggX5_rolesOf_X5_isActor : GoodIn wsX5_rolesOf wsX5_isActor := goodIn_r _ [5] (by decide +kernel) (by decide +kernel)
set_option maxRecDepth 20000 in
theorem gX5_rolesOf_X5_isActor : GoodIn wsX5_rolesOf (va_wsS RX5 128 yX5_isActor wsX5_isActor) := goodIn_app (goodIn_of _ (by decide +kernel)) ggX5_rolesOf_X5_isActor
set_option maxRecDepth 20000 in
theorem ggX5_rolesOf_X2_rolesWith : GoodIn wsX5_rolesOf wsX2_rolesWith := goodIn_r _ [10, 11, 12, 19, 20, 21, 22, 23, 24, 25, 26, 27, 28, 29, 30] (by decide +kernel) (by decide +kernel)
set_option maxRecDepth 20000 in
theorem gX5_rolesOf_X2_rolesWith : GoodIn wsX5_rolesOf (wsV RX5 138 RX2 yX2_rolesWith wsX2_rolesWith) := goodIn_app (goodIn_of _ (by decide +kernel)) ggX5_rolesOf_X2_rolesWith
theorem dX5_rolesOf_0 : decode cX5_rolesOf 0 = .ok (.iload_n 1, 1) := by decide +kernel
theorem dX5_rolesOf_1 : decode cX5_rolesOf 1 = .ok (.invokestatic 128, 3) := by decide +kernel
theorem dX5_rolesOf_4 : decode cX5_rolesOf 4 = .ok (.ifCond .eq 14, 3) := by decide +kernel
theorem dX5_rolesOf_7 : decode cX5_rolesOf 7 = .ok (.aload_n 0, 1) := by decide +kernel
theorem dX5_rolesOf_8 : decode cX5_rolesOf 8 = .ok (.getfield 23, 3) := by decide +kernel
theorem dX5_rolesOf_11 : decode cX5_rolesOf 11 = .ok (.iload_n 1, 1) := by decide +kernel
theorem dX5_rolesOf_12 : decode cX5_rolesOf 12 = .ok (.invokevirtual 138, 3) := by decide +kernel
theorem dX5_rolesOf_15 : decode cX5_rolesOf 15 = .ok (.goto 6, 3) := by decide +kernel
theorem dX5_rolesOf_18 : decode cX5_rolesOf 18 = .ok (.sipush (-1001), 3) := by decide +kernel
theorem dX5_rolesOf_21 : decode cX5_rolesOf 21 = .ok (.ireturn, 1) := by decide +kernel
set_option maxRecDepth 20000 in
theorem ggX5_tightestChange_X5_isActor : GoodIn wsX5_tightestChange wsX5_isActor := goodIn_r _ [9] (by decide +kernel) (by decide +kernel)
set_option maxRecDepth 20000 in
theorem gX5_tightestChange_X5_isActor : GoodIn wsX5_tightestChange (va_wsS RX5 128 yX5_isActor wsX5_isActor) := goodIn_app (goodIn_of _ (by decide +kernel)) ggX5_tightestChange_X5_isActor
set_option maxRecDepth 20000 in
theorem ggX5_tightestChange_X5_lesserSlack : GoodIn wsX5_tightestChange wsX5_lesserSlack := goodIn_r _ [12, 13, 14, 15, 16] (by decide +kernel) (by decide +kernel)
set_option maxRecDepth 20000 in
theorem gX5_tightestChange_X5_lesserSlack : GoodIn wsX5_tightestChange (va_wsS RX5 198 yX5_lesserSlack wsX5_lesserSlack) := goodIn_app (goodIn_of _ (by decide +kernel)) ggX5_tightestChange_X5_lesserSlack
theorem dX5_tightestChange_0 : decode cX5_tightestChange 0 = .ok (.iload_n 1, 1) := by decide +kernel
theorem dX5_tightestChange_1 : decode cX5_tightestChange 1 = .ok (.invokestatic 128, 3) := by decide +kernel
theorem dX5_tightestChange_4 : decode cX5_tightestChange 4 = .ok (.ifCond .ne 7, 3) := by decide +kernel
theorem dX5_tightestChange_7 : decode cX5_tightestChange 7 = .ok (.sipush (-1001), 3) := by decide +kernel
theorem dX5_tightestChange_10 : decode cX5_tightestChange 10 = .ok (.ireturn, 1) := by decide +kernel
theorem dX5_tightestChange_11 : decode cX5_tightestChange 11 = .ok (.sipush (-1004), 3) := by decide +kernel
theorem dX5_tightestChange_14 : decode cX5_tightestChange 14 = .ok (.istore_n 2, 1) := by decide +kernel
theorem dX5_tightestChange_15 : decode cX5_tightestChange 15 = .ok (.iconst 1, 1) := by decide +kernel
theorem dX5_tightestChange_16 : decode cX5_tightestChange 16 = .ok (.istore_n 3, 1) := by decide +kernel
theorem dX5_tightestChange_17 : decode cX5_tightestChange 17 = .ok (.iload_n 3, 1) := by decide +kernel
theorem dX5_tightestChange_18 : decode cX5_tightestChange 18 = .ok (.aload_n 0, 1) := by decide +kernel
theorem dX5_tightestChange_19 : decode cX5_tightestChange 19 = .ok (.getfield 23, 3) := by decide +kernel
theorem dX5_tightestChange_22 : decode cX5_tightestChange 22 = .ok (.getfield 86, 3) := by decide +kernel
theorem dX5_tightestChange_25 : decode cX5_tightestChange 25 = .ok (.if_icmp .ge 68, 3) := by decide +kernel
theorem dX5_tightestChange_28 : decode cX5_tightestChange 28 = .ok (.iconst 0, 1) := by decide +kernel
theorem dX5_tightestChange_29 : decode cX5_tightestChange 29 = .ok (.istore 4, 2) := by decide +kernel
theorem dX5_tightestChange_31 : decode cX5_tightestChange 31 = .ok (.iload 4, 2) := by decide +kernel
theorem dX5_tightestChange_33 : decode cX5_tightestChange 33 = .ok (.iload_n 3, 1) := by decide +kernel
theorem dX5_tightestChange_34 : decode cX5_tightestChange 34 = .ok (.if_icmp .ge 53, 3) := by decide +kernel
theorem dX5_tightestChange_37 : decode cX5_tightestChange 37 = .ok (.aload_n 0, 1) := by decide +kernel
theorem dX5_tightestChange_38 : decode cX5_tightestChange 38 = .ok (.getfield 23, 3) := by decide +kernel
theorem dX5_tightestChange_41 : decode cX5_tightestChange 41 = .ok (.getfield 135, 3) := by decide +kernel
theorem dX5_tightestChange_44 : decode cX5_tightestChange 44 = .ok (.iload_n 3, 1) := by decide +kernel
theorem dX5_tightestChange_45 : decode cX5_tightestChange 45 = .ok (.iaload, 1) := by decide +kernel
theorem dX5_tightestChange_46 : decode cX5_tightestChange 46 = .ok (.iload_n 1, 1) := by decide +kernel
theorem dX5_tightestChange_47 : decode cX5_tightestChange 47 = .ok (.if_icmp .ne 34, 3) := by decide +kernel
theorem dX5_tightestChange_50 : decode cX5_tightestChange 50 = .ok (.aload_n 0, 1) := by decide +kernel
theorem dX5_tightestChange_51 : decode cX5_tightestChange 51 = .ok (.getfield 23, 3) := by decide +kernel
theorem dX5_tightestChange_54 : decode cX5_tightestChange 54 = .ok (.getfield 135, 3) := by decide +kernel
theorem dX5_tightestChange_57 : decode cX5_tightestChange 57 = .ok (.iload 4, 2) := by decide +kernel
theorem dX5_tightestChange_59 : decode cX5_tightestChange 59 = .ok (.iaload, 1) := by decide +kernel
theorem dX5_tightestChange_60 : decode cX5_tightestChange 60 = .ok (.iload_n 1, 1) := by decide +kernel
theorem dX5_tightestChange_61 : decode cX5_tightestChange 61 = .ok (.if_icmp .ne 20, 3) := by decide +kernel
theorem dX5_tightestChange_64 : decode cX5_tightestChange 64 = .ok (.iload_n 2, 1) := by decide +kernel
theorem dX5_tightestChange_65 : decode cX5_tightestChange 65 = .ok (.aload_n 0, 1) := by decide +kernel
theorem dX5_tightestChange_66 : decode cX5_tightestChange 66 = .ok (.getfield 31, 3) := by decide +kernel
theorem dX5_tightestChange_69 : decode cX5_tightestChange 69 = .ok (.getfield 194, 3) := by decide +kernel
theorem dX5_tightestChange_72 : decode cX5_tightestChange 72 = .ok (.iload_n 3, 1) := by decide +kernel
theorem dX5_tightestChange_73 : decode cX5_tightestChange 73 = .ok (.aaload, 1) := by decide +kernel
theorem dX5_tightestChange_74 : decode cX5_tightestChange 74 = .ok (.iload 4, 2) := by decide +kernel
theorem dX5_tightestChange_76 : decode cX5_tightestChange 76 = .ok (.iaload, 1) := by decide +kernel
theorem dX5_tightestChange_77 : decode cX5_tightestChange 77 = .ok (.invokestatic 198, 3) := by decide +kernel
theorem dX5_tightestChange_80 : decode cX5_tightestChange 80 = .ok (.istore_n 2, 1) := by decide +kernel
theorem dX5_tightestChange_81 : decode cX5_tightestChange 81 = .ok (.iinc 4 1, 3) := by decide +kernel
theorem dX5_tightestChange_84 : decode cX5_tightestChange 84 = .ok (.goto (-53), 3) := by decide +kernel
theorem dX5_tightestChange_87 : decode cX5_tightestChange 87 = .ok (.iinc 3 1, 3) := by decide +kernel
theorem dX5_tightestChange_90 : decode cX5_tightestChange 90 = .ok (.goto (-73), 3) := by decide +kernel
theorem dX5_tightestChange_93 : decode cX5_tightestChange 93 = .ok (.iload_n 2, 1) := by decide +kernel
theorem dX5_tightestChange_94 : decode cX5_tightestChange 94 = .ok (.ireturn, 1) := by decide +kernel
set_option maxRecDepth 20000 in
theorem ggX5_cliqueNumber_X0_lookAt : GoodIn wsX5_cliqueNumber wsX0_lookAt := goodIn_r _ [7, 8, 9, 10, 11, 12, 13, 14, 15, 16, 17, 18, 19, 45, 46, 47, 48, 49, 50, 51, 52, 53, 54, 55, 56, 57, 58, 59, 60, 61] (by decide +kernel) (by decide +kernel)
set_option maxRecDepth 20000 in
theorem gX5_cliqueNumber_X0_lookAt : GoodIn wsX5_cliqueNumber (wsV RX5 147 RX0 yX0_lookAt wsX0_lookAt) := goodIn_app (goodIn_of _ (by decide +kernel)) ggX5_cliqueNumber_X0_lookAt
set_option maxRecDepth 20000 in
theorem ggX5_cliqueNumber_X0_largestClique : GoodIn wsX5_cliqueNumber wsX0_largestClique := goodIn_r _ [23, 10, 24, 25, 26, 27, 28, 29, 30, 6, 31, 11, 32, 33, 34, 35, 36, 37, 38, 59, 60, 61] (by decide +kernel) (by decide +kernel)
set_option maxRecDepth 20000 in
theorem gX5_cliqueNumber_X0_largestClique : GoodIn wsX5_cliqueNumber (wsV RX5 201 RX0 yX0_largestClique wsX0_largestClique) := goodIn_app (goodIn_of _ (by decide +kernel)) ggX5_cliqueNumber_X0_largestClique
theorem dX5_cliqueNumber_0 : decode cX5_cliqueNumber 0 = .ok (.aload_n 0, 1) := by decide +kernel
theorem dX5_cliqueNumber_1 : decode cX5_cliqueNumber 1 = .ok (.getfield 38, 3) := by decide +kernel
theorem dX5_cliqueNumber_4 : decode cX5_cliqueNumber 4 = .ok (.aload_n 0, 1) := by decide +kernel
theorem dX5_cliqueNumber_5 : decode cX5_cliqueNumber 5 = .ok (.getfield 31, 3) := by decide +kernel
theorem dX5_cliqueNumber_8 : decode cX5_cliqueNumber 8 = .ok (.iconst 0, 1) := by decide +kernel
theorem dX5_cliqueNumber_9 : decode cX5_cliqueNumber 9 = .ok (.invokevirtual 147, 3) := by decide +kernel
theorem dX5_cliqueNumber_12 : decode cX5_cliqueNumber 12 = .ok (.aload_n 0, 1) := by decide +kernel
theorem dX5_cliqueNumber_13 : decode cX5_cliqueNumber 13 = .ok (.getfield 38, 3) := by decide +kernel
theorem dX5_cliqueNumber_16 : decode cX5_cliqueNumber 16 = .ok (.invokevirtual 201, 3) := by decide +kernel
theorem dX5_cliqueNumber_19 : decode cX5_cliqueNumber 19 = .ok (.ireturn, 1) := by decide +kernel
set_option maxRecDepth 20000 in
theorem ggX5_leastCast_X0_lookAt : GoodIn wsX5_leastCast wsX0_lookAt := goodIn_r _ [7, 8, 9, 10, 11, 12, 13, 14, 15, 16, 17, 18, 19, 53, 54, 55, 56, 57, 58, 59, 60, 61, 62, 63, 64, 65, 66, 67, 68, 69] (by decide +kernel) (by decide +kernel)
set_option maxRecDepth 20000 in
theorem gX5_leastCast_X0_lookAt : GoodIn wsX5_leastCast (wsV RX5 147 RX0 yX0_lookAt wsX0_lookAt) := goodIn_app (goodIn_of _ (by decide +kernel)) ggX5_leastCast_X0_lookAt
set_option maxRecDepth 20000 in
theorem ggX5_leastCast_X0_findFirstCast : GoodIn wsX5_leastCast wsX0_findFirstCast := goodIn_r _ [23, 10, 24, 25, 26, 6, 27, 28, 29, 30, 31, 32, 33, 34, 35, 36, 37, 38, 39, 40, 41, 42, 43, 44, 45, 46, 11, 67, 68, 69] (by decide +kernel) (by decide +kernel)
set_option maxRecDepth 20000 in
theorem gX5_leastCast_X0_findFirstCast : GoodIn wsX5_leastCast (wsV RX5 151 RX0 yX0_findFirstCast wsX0_findFirstCast) := goodIn_app (goodIn_of _ (by decide +kernel)) ggX5_leastCast_X0_findFirstCast
theorem dX5_leastCast_0 : decode cX5_leastCast 0 = .ok (.aload_n 0, 1) := by decide +kernel
theorem dX5_leastCast_1 : decode cX5_leastCast 1 = .ok (.getfield 38, 3) := by decide +kernel
theorem dX5_leastCast_4 : decode cX5_leastCast 4 = .ok (.aload_n 0, 1) := by decide +kernel
theorem dX5_leastCast_5 : decode cX5_leastCast 5 = .ok (.getfield 31, 3) := by decide +kernel
theorem dX5_leastCast_8 : decode cX5_leastCast 8 = .ok (.iconst 0, 1) := by decide +kernel
theorem dX5_leastCast_9 : decode cX5_leastCast 9 = .ok (.invokevirtual 147, 3) := by decide +kernel
theorem dX5_leastCast_12 : decode cX5_leastCast 12 = .ok (.aload_n 0, 1) := by decide +kernel
theorem dX5_leastCast_13 : decode cX5_leastCast 13 = .ok (.getfield 38, 3) := by decide +kernel
theorem dX5_leastCast_16 : decode cX5_leastCast 16 = .ok (.invokevirtual 151, 3) := by decide +kernel
theorem dX5_leastCast_19 : decode cX5_leastCast 19 = .ok (.ireturn, 1) := by decide +kernel
set_option maxRecDepth 20000 in
theorem ggX5_firstCastActor_X2_hasRole : GoodIn wsX5_firstCastActor wsX2_hasRole := goodIn_r _ [8, 9, 64, 65, 66, 67, 68, 69, 70, 71, 72, 73, 74, 75] (by decide +kernel) (by decide +kernel)
set_option maxRecDepth 20000 in
theorem gX5_firstCastActor_X2_hasRole : GoodIn wsX5_firstCastActor (wsV RX5 114 RX2 yX2_hasRole wsX2_hasRole) := goodIn_app (goodIn_of _ (by decide +kernel)) ggX5_firstCastActor_X2_hasRole
set_option maxRecDepth 20000 in
theorem ggX5_firstCastActor_X0_lookAt : GoodIn wsX5_firstCastActor wsX0_lookAt := goodIn_r _ [14, 15, 16, 17, 18, 19, 20, 21, 22, 23, 24, 25, 26, 76, 77, 64, 65, 66, 67, 68, 69, 70, 71, 72, 73, 74, 75, 78, 79, 80] (by decide +kernel) (by decide +kernel)
set_option maxRecDepth 20000 in
theorem gX5_firstCastActor_X0_lookAt : GoodIn wsX5_firstCastActor (wsV RX5 147 RX0 yX0_lookAt wsX0_lookAt) := goodIn_app (goodIn_of _ (by decide +kernel)) ggX5_firstCastActor_X0_lookAt
set_option maxRecDepth 20000 in
theorem ggX5_firstCastActor_X0_findFirstCast : GoodIn wsX5_firstCastActor wsX0_findFirstCast := goodIn_r _ [30, 17, 31, 32, 33, 13, 34, 35, 36, 37, 38, 39, 40, 41, 42, 43, 44, 45, 46, 47, 48, 49, 50, 51, 52, 53, 18, 78, 79, 80] (by decide +kernel) (by decide +kernel)
set_option maxRecDepth 20000 in
theorem gX5_firstCastActor_X0_findFirstCast : GoodIn wsX5_firstCastActor (wsV RX5 151 RX0 yX0_findFirstCast wsX0_findFirstCast) := goodIn_app (goodIn_of _ (by decide +kernel)) ggX5_firstCastActor_X0_findFirstCast
set_option maxRecDepth 20000 in
theorem ggX5_firstCastActor_X0_foundActor : GoodIn wsX5_firstCastActor wsX0_foundActor := goodIn_r _ [57, 43, 78, 79, 80] (by decide +kernel) (by decide +kernel)
set_option maxRecDepth 20000 in
theorem gX5_firstCastActor_X0_foundActor : GoodIn wsX5_firstCastActor (wsV RX5 154 RX0 yX0_foundActor wsX0_foundActor) := goodIn_app (goodIn_of _ (by decide +kernel)) ggX5_firstCastActor_X0_foundActor
theorem dX5_firstCastActor_0 : decode cX5_firstCastActor 0 = .ok (.aload_n 0, 1) := by decide +kernel
theorem dX5_firstCastActor_1 : decode cX5_firstCastActor 1 = .ok (.getfield 23, 3) := by decide +kernel
theorem dX5_firstCastActor_4 : decode cX5_firstCastActor 4 = .ok (.iload_n 1, 1) := by decide +kernel
theorem dX5_firstCastActor_5 : decode cX5_firstCastActor 5 = .ok (.invokevirtual 114, 3) := by decide +kernel
theorem dX5_firstCastActor_8 : decode cX5_firstCastActor 8 = .ok (.ifCond .ne 7, 3) := by decide +kernel
theorem dX5_firstCastActor_11 : decode cX5_firstCastActor 11 = .ok (.sipush (-1001), 3) := by decide +kernel
theorem dX5_firstCastActor_14 : decode cX5_firstCastActor 14 = .ok (.ireturn, 1) := by decide +kernel
theorem dX5_firstCastActor_15 : decode cX5_firstCastActor 15 = .ok (.aload_n 0, 1) := by decide +kernel
theorem dX5_firstCastActor_16 : decode cX5_firstCastActor 16 = .ok (.getfield 38, 3) := by decide +kernel
theorem dX5_firstCastActor_19 : decode cX5_firstCastActor 19 = .ok (.aload_n 0, 1) := by decide +kernel
theorem dX5_firstCastActor_20 : decode cX5_firstCastActor 20 = .ok (.getfield 31, 3) := by decide +kernel
theorem dX5_firstCastActor_23 : decode cX5_firstCastActor 23 = .ok (.iconst 0, 1) := by decide +kernel
theorem dX5_firstCastActor_24 : decode cX5_firstCastActor 24 = .ok (.invokevirtual 147, 3) := by decide +kernel
theorem dX5_firstCastActor_27 : decode cX5_firstCastActor 27 = .ok (.aload_n 0, 1) := by decide +kernel
theorem dX5_firstCastActor_28 : decode cX5_firstCastActor 28 = .ok (.getfield 38, 3) := by decide +kernel
theorem dX5_firstCastActor_31 : decode cX5_firstCastActor 31 = .ok (.invokevirtual 151, 3) := by decide +kernel
theorem dX5_firstCastActor_34 : decode cX5_firstCastActor 34 = .ok (.pop, 1) := by decide +kernel
theorem dX5_firstCastActor_35 : decode cX5_firstCastActor 35 = .ok (.aload_n 0, 1) := by decide +kernel
theorem dX5_firstCastActor_36 : decode cX5_firstCastActor 36 = .ok (.getfield 38, 3) := by decide +kernel
theorem dX5_firstCastActor_39 : decode cX5_firstCastActor 39 = .ok (.iload_n 1, 1) := by decide +kernel
theorem dX5_firstCastActor_40 : decode cX5_firstCastActor 40 = .ok (.invokevirtual 154, 3) := by decide +kernel
theorem dX5_firstCastActor_43 : decode cX5_firstCastActor 43 = .ok (.ireturn, 1) := by decide +kernel
set_option maxRecDepth 20000 in
theorem ggX5_greedyCast_X0_lookAt : GoodIn wsX5_greedyCast wsX0_lookAt := goodIn_r _ [7, 8, 9, 10, 11, 12, 13, 14, 15, 16, 17, 18, 19, 43, 44, 45, 46, 47, 48, 49, 50, 51, 52, 53, 54, 55, 56, 57, 58, 59] (by decide +kernel) (by decide +kernel)
set_option maxRecDepth 20000 in
theorem gX5_greedyCast_X0_lookAt : GoodIn wsX5_greedyCast (wsV RX5 147 RX0 yX0_lookAt wsX0_lookAt) := goodIn_app (goodIn_of _ (by decide +kernel)) ggX5_greedyCast_X0_lookAt
set_option maxRecDepth 20000 in
theorem ggX5_greedyCast_X0_greedySize : GoodIn wsX5_greedyCast wsX0_greedySize := goodIn_r _ [23, 10, 24, 25, 26, 27, 28, 29, 30, 31, 6, 32, 33, 34, 35, 36, 11, 57, 58, 59] (by decide +kernel) (by decide +kernel)
set_option maxRecDepth 20000 in
theorem gX5_greedyCast_X0_greedySize : GoodIn wsX5_greedyCast (wsV RX5 204 RX0 yX0_greedySize wsX0_greedySize) := goodIn_app (goodIn_of _ (by decide +kernel)) ggX5_greedyCast_X0_greedySize
theorem dX5_greedyCast_0 : decode cX5_greedyCast 0 = .ok (.aload_n 0, 1) := by decide +kernel
theorem dX5_greedyCast_1 : decode cX5_greedyCast 1 = .ok (.getfield 38, 3) := by decide +kernel
theorem dX5_greedyCast_4 : decode cX5_greedyCast 4 = .ok (.aload_n 0, 1) := by decide +kernel
theorem dX5_greedyCast_5 : decode cX5_greedyCast 5 = .ok (.getfield 31, 3) := by decide +kernel
theorem dX5_greedyCast_8 : decode cX5_greedyCast 8 = .ok (.iconst 0, 1) := by decide +kernel
theorem dX5_greedyCast_9 : decode cX5_greedyCast 9 = .ok (.invokevirtual 147, 3) := by decide +kernel
theorem dX5_greedyCast_12 : decode cX5_greedyCast 12 = .ok (.aload_n 0, 1) := by decide +kernel
theorem dX5_greedyCast_13 : decode cX5_greedyCast 13 = .ok (.getfield 38, 3) := by decide +kernel
theorem dX5_greedyCast_16 : decode cX5_greedyCast 16 = .ok (.invokevirtual 204, 3) := by decide +kernel
theorem dX5_greedyCast_19 : decode cX5_greedyCast 19 = .ok (.ireturn, 1) := by decide +kernel
set_option maxRecDepth 20000 in
theorem ggX5_leastCastIfFaster_X0_lookAt : GoodIn wsX5_leastCastIfFaster wsX0_lookAt := goodIn_r _ [7, 8, 9, 10, 11, 12, 13, 14, 15, 16, 17, 18, 19, 53, 54, 55, 56, 57, 58, 59, 60, 61, 62, 63, 64, 65, 66, 67, 68, 69] (by decide +kernel) (by decide +kernel)
set_option maxRecDepth 20000 in
theorem gX5_leastCastIfFaster_X0_lookAt : GoodIn wsX5_leastCastIfFaster (wsV RX5 147 RX0 yX0_lookAt wsX0_lookAt) := goodIn_app (goodIn_of _ (by decide +kernel)) ggX5_leastCastIfFaster_X0_lookAt
set_option maxRecDepth 20000 in
theorem ggX5_leastCastIfFaster_X0_findFirstCast : GoodIn wsX5_leastCastIfFaster wsX0_findFirstCast := goodIn_r _ [23, 10, 24, 25, 26, 6, 27, 28, 29, 30, 31, 32, 33, 34, 35, 36, 37, 38, 39, 40, 41, 42, 43, 44, 45, 46, 11, 67, 68, 69] (by decide +kernel) (by decide +kernel)
set_option maxRecDepth 20000 in
theorem gX5_leastCastIfFaster_X0_findFirstCast : GoodIn wsX5_leastCastIfFaster (wsV RX5 151 RX0 yX0_findFirstCast wsX0_findFirstCast) := goodIn_app (goodIn_of _ (by decide +kernel)) ggX5_leastCastIfFaster_X0_findFirstCast
theorem dX5_leastCastIfFaster_0 : decode cX5_leastCastIfFaster 0 = .ok (.iload_n 1, 1) := by decide +kernel
theorem dX5_leastCastIfFaster_1 : decode cX5_leastCastIfFaster 1 = .ok (.ifCond .lt 9, 3) := by decide +kernel
theorem dX5_leastCastIfFaster_4 : decode cX5_leastCastIfFaster 4 = .ok (.iload_n 1, 1) := by decide +kernel
theorem dX5_leastCastIfFaster_5 : decode cX5_leastCastIfFaster 5 = .ok (.bipush 120, 2) := by decide +kernel
theorem dX5_leastCastIfFaster_7 : decode cX5_leastCastIfFaster 7 = .ok (.if_icmp .le 7, 3) := by decide +kernel
theorem dX5_leastCastIfFaster_10 : decode cX5_leastCastIfFaster 10 = .ok (.sipush (-1001), 3) := by decide +kernel
theorem dX5_leastCastIfFaster_13 : decode cX5_leastCastIfFaster 13 = .ok (.ireturn, 1) := by decide +kernel
theorem dX5_leastCastIfFaster_14 : decode cX5_leastCastIfFaster 14 = .ok (.aload_n 0, 1) := by decide +kernel
theorem dX5_leastCastIfFaster_15 : decode cX5_leastCastIfFaster 15 = .ok (.getfield 38, 3) := by decide +kernel
theorem dX5_leastCastIfFaster_18 : decode cX5_leastCastIfFaster 18 = .ok (.aload_n 0, 1) := by decide +kernel
theorem dX5_leastCastIfFaster_19 : decode cX5_leastCastIfFaster 19 = .ok (.getfield 31, 3) := by decide +kernel
theorem dX5_leastCastIfFaster_22 : decode cX5_leastCastIfFaster 22 = .ok (.iload_n 1, 1) := by decide +kernel
theorem dX5_leastCastIfFaster_23 : decode cX5_leastCastIfFaster 23 = .ok (.invokevirtual 147, 3) := by decide +kernel
theorem dX5_leastCastIfFaster_26 : decode cX5_leastCastIfFaster 26 = .ok (.aload_n 0, 1) := by decide +kernel
theorem dX5_leastCastIfFaster_27 : decode cX5_leastCastIfFaster 27 = .ok (.getfield 38, 3) := by decide +kernel
theorem dX5_leastCastIfFaster_30 : decode cX5_leastCastIfFaster 30 = .ok (.invokevirtual 151, 3) := by decide +kernel
theorem dX5_leastCastIfFaster_33 : decode cX5_leastCastIfFaster 33 = .ok (.ireturn, 1) := by decide +kernel
set_option maxRecDepth 20000 in
theorem ggX5_speedUpFor_X5_sizeIsEnough : GoodIn wsX5_speedUpFor wsX5_sizeIsEnough := goodIn_r _ [5, 6, 7, 8, 9, 10, 11, 12, 13, 14, 15, 16, 17, 18, 19, 20, 21, 22, 23, 24, 25, 26, 27, 28, 29, 30, 31, 32, 33, 34, 35, 36, 37, 38, 39, 40, 41, 42, 43, 44, 45, 46, 47, 48, 49, 50, 51, 52, 53, 54, 55, 56, 57, 58, 59, 60, 61, 62, 63, 64, 65, 66, 67, 68, 69, 70] (by decide +kernel) (by decide +kernel)
set_option maxRecDepth 20000 in
theorem gX5_speedUpFor_X5_sizeIsEnough : GoodIn wsX5_speedUpFor (wsV RX5 207 RX5 yX5_sizeIsEnough wsX5_sizeIsEnough) := goodIn_app (goodIn_of _ (by decide +kernel)) ggX5_speedUpFor_X5_sizeIsEnough
theorem dX5_speedUpFor_0 : decode cX5_speedUpFor 0 = .ok (.iload_n 1, 1) := by decide +kernel
theorem dX5_speedUpFor_1 : decode cX5_speedUpFor 1 = .ok (.iconst 1, 1) := by decide +kernel
theorem dX5_speedUpFor_2 : decode cX5_speedUpFor 2 = .ok (.if_icmp .lt 9, 3) := by decide +kernel
theorem dX5_speedUpFor_5 : decode cX5_speedUpFor 5 = .ok (.iload_n 1, 1) := by decide +kernel
theorem dX5_speedUpFor_6 : decode cX5_speedUpFor 6 = .ok (.bipush 8, 2) := by decide +kernel
theorem dX5_speedUpFor_8 : decode cX5_speedUpFor 8 = .ok (.if_icmp .le 7, 3) := by decide +kernel
theorem dX5_speedUpFor_11 : decode cX5_speedUpFor 11 = .ok (.sipush (-1001), 3) := by decide +kernel
theorem dX5_speedUpFor_14 : decode cX5_speedUpFor 14 = .ok (.ireturn, 1) := by decide +kernel
theorem dX5_speedUpFor_15 : decode cX5_speedUpFor 15 = .ok (.aload_n 0, 1) := by decide +kernel
theorem dX5_speedUpFor_16 : decode cX5_speedUpFor 16 = .ok (.iload_n 1, 1) := by decide +kernel
theorem dX5_speedUpFor_17 : decode cX5_speedUpFor 17 = .ok (.bipush 120, 2) := by decide +kernel
theorem dX5_speedUpFor_19 : decode cX5_speedUpFor 19 = .ok (.invokevirtual 207, 3) := by decide +kernel
theorem dX5_speedUpFor_22 : decode cX5_speedUpFor 22 = .ok (.ifCond .ne 7, 3) := by decide +kernel
theorem dX5_speedUpFor_25 : decode cX5_speedUpFor 25 = .ok (.sipush (-1004), 3) := by decide +kernel
theorem dX5_speedUpFor_28 : decode cX5_speedUpFor 28 = .ok (.ireturn, 1) := by decide +kernel
theorem dX5_speedUpFor_29 : decode cX5_speedUpFor 29 = .ok (.iconst 0, 1) := by decide +kernel
theorem dX5_speedUpFor_30 : decode cX5_speedUpFor 30 = .ok (.istore_n 2, 1) := by decide +kernel
theorem dX5_speedUpFor_31 : decode cX5_speedUpFor 31 = .ok (.bipush 120, 2) := by decide +kernel
theorem dX5_speedUpFor_33 : decode cX5_speedUpFor 33 = .ok (.istore_n 3, 1) := by decide +kernel
theorem dX5_speedUpFor_34 : decode cX5_speedUpFor 34 = .ok (.iconst 0, 1) := by decide +kernel
theorem dX5_speedUpFor_35 : decode cX5_speedUpFor 35 = .ok (.istore 4, 2) := by decide +kernel
theorem dX5_speedUpFor_37 : decode cX5_speedUpFor 37 = .ok (.iload 4, 2) := by decide +kernel
theorem dX5_speedUpFor_39 : decode cX5_speedUpFor 39 = .ok (.bipush 7, 2) := by decide +kernel
theorem dX5_speedUpFor_41 : decode cX5_speedUpFor 41 = .ok (.if_icmp .ge 42, 3) := by decide +kernel
theorem dX5_speedUpFor_44 : decode cX5_speedUpFor 44 = .ok (.iload_n 2, 1) := by decide +kernel
theorem dX5_speedUpFor_45 : decode cX5_speedUpFor 45 = .ok (.iload_n 3, 1) := by decide +kernel
theorem dX5_speedUpFor_46 : decode cX5_speedUpFor 46 = .ok (.if_icmp .ge 37, 3) := by decide +kernel
theorem dX5_speedUpFor_49 : decode cX5_speedUpFor 49 = .ok (.iload_n 2, 1) := by decide +kernel
theorem dX5_speedUpFor_50 : decode cX5_speedUpFor 50 = .ok (.iload_n 3, 1) := by decide +kernel
theorem dX5_speedUpFor_51 : decode cX5_speedUpFor 51 = .ok (.iadd, 1) := by decide +kernel
theorem dX5_speedUpFor_52 : decode cX5_speedUpFor 52 = .ok (.iconst 2, 1) := by decide +kernel
theorem dX5_speedUpFor_53 : decode cX5_speedUpFor 53 = .ok (.idiv, 1) := by decide +kernel
theorem dX5_speedUpFor_54 : decode cX5_speedUpFor 54 = .ok (.istore 5, 2) := by decide +kernel
theorem dX5_speedUpFor_56 : decode cX5_speedUpFor 56 = .ok (.aload_n 0, 1) := by decide +kernel
theorem dX5_speedUpFor_57 : decode cX5_speedUpFor 57 = .ok (.iload_n 1, 1) := by decide +kernel
theorem dX5_speedUpFor_58 : decode cX5_speedUpFor 58 = .ok (.iload 5, 2) := by decide +kernel
theorem dX5_speedUpFor_60 : decode cX5_speedUpFor 60 = .ok (.invokevirtual 207, 3) := by decide +kernel
theorem dX5_speedUpFor_63 : decode cX5_speedUpFor 63 = .ok (.ifCond .eq 9, 3) := by decide +kernel
theorem dX5_speedUpFor_66 : decode cX5_speedUpFor 66 = .ok (.iload 5, 2) := by decide +kernel
theorem dX5_speedUpFor_68 : decode cX5_speedUpFor 68 = .ok (.istore_n 3, 1) := by decide +kernel
theorem dX5_speedUpFor_69 : decode cX5_speedUpFor 69 = .ok (.goto 8, 3) := by decide +kernel
theorem dX5_speedUpFor_72 : decode cX5_speedUpFor 72 = .ok (.iload 5, 2) := by decide +kernel
theorem dX5_speedUpFor_74 : decode cX5_speedUpFor 74 = .ok (.iconst 1, 1) := by decide +kernel
theorem dX5_speedUpFor_75 : decode cX5_speedUpFor 75 = .ok (.iadd, 1) := by decide +kernel
theorem dX5_speedUpFor_76 : decode cX5_speedUpFor 76 = .ok (.istore_n 2, 1) := by decide +kernel
theorem dX5_speedUpFor_77 : decode cX5_speedUpFor 77 = .ok (.iinc 4 1, 3) := by decide +kernel
theorem dX5_speedUpFor_80 : decode cX5_speedUpFor 80 = .ok (.goto (-43), 3) := by decide +kernel
theorem dX5_speedUpFor_83 : decode cX5_speedUpFor 83 = .ok (.iload_n 2, 1) := by decide +kernel
theorem dX5_speedUpFor_84 : decode cX5_speedUpFor 84 = .ok (.ireturn, 1) := by decide +kernel
set_option maxRecDepth 20000 in
theorem ggX5_startStatedPlay_X2_copyFrom : GoodIn wsX5_startStatedPlay wsX2_copyFrom := goodIn_r _ [10, 11, 12, 13, 14, 15, 16, 17, 18, 19, 20, 21, 22, 23, 24, 25, 26, 63, 64, 65, 66, 67, 68, 69, 70, 71, 72, 73, 74] (by decide +kernel) (by decide +kernel)
set_option maxRecDepth 20000 in
theorem gX5_startStatedPlay_X2_copyFrom : GoodIn wsX5_startStatedPlay (wsV RX5 210 RX2 yX2_copyFrom wsX2_copyFrom) := goodIn_app (goodIn_of _ (by decide +kernel)) ggX5_startStatedPlay_X2_copyFrom
set_option maxRecDepth 20000 in
theorem ggX5_startStatedPlay_X4_measure : GoodIn wsX5_startStatedPlay wsX4_measure := goodIn_r _ [31, 32, 33, 34, 35, 36, 37, 30, 38, 39, 40, 41, 42, 43, 44, 45, 46, 47, 48, 49, 50, 51, 52, 53, 54, 75, 76, 63, 64, 65, 66, 67, 68, 69, 70, 71, 72, 73, 74] (by decide +kernel) (by decide +kernel)
set_option maxRecDepth 20000 in
theorem gX5_startStatedPlay_X4_measure : GoodIn wsX5_startStatedPlay (wsV RX5 103 RX4 yX4_measure wsX4_measure) := goodIn_app (goodIn_of _ (by decide +kernel)) ggX5_startStatedPlay_X4_measure
theorem dX5_startStatedPlay_0 : decode cX5_startStatedPlay 0 = .ok (.aload_n 0, 1) := by decide +kernel
theorem dX5_startStatedPlay_1 : decode cX5_startStatedPlay 1 = .ok (.getfield 23, 3) := by decide +kernel
theorem dX5_startStatedPlay_4 : decode cX5_startStatedPlay 4 = .ok (.aload_n 0, 1) := by decide +kernel
theorem dX5_startStatedPlay_5 : decode cX5_startStatedPlay 5 = .ok (.getfield 19, 3) := by decide +kernel
theorem dX5_startStatedPlay_8 : decode cX5_startStatedPlay 8 = .ok (.invokevirtual 210, 3) := by decide +kernel
theorem dX5_startStatedPlay_11 : decode cX5_startStatedPlay 11 = .ok (.aload_n 0, 1) := by decide +kernel
theorem dX5_startStatedPlay_12 : decode cX5_startStatedPlay 12 = .ok (.getfield 45, 3) := by decide +kernel
theorem dX5_startStatedPlay_15 : decode cX5_startStatedPlay 15 = .ok (.iconst 0, 1) := by decide +kernel
theorem dX5_startStatedPlay_16 : decode cX5_startStatedPlay 16 = .ok (.putfield 157, 3) := by decide +kernel
theorem dX5_startStatedPlay_19 : decode cX5_startStatedPlay 19 = .ok (.aload_n 0, 1) := by decide +kernel
theorem dX5_startStatedPlay_20 : decode cX5_startStatedPlay 20 = .ok (.getfield 31, 3) := by decide +kernel
theorem dX5_startStatedPlay_23 : decode cX5_startStatedPlay 23 = .ok (.invokevirtual 103, 3) := by decide +kernel
theorem dX5_startStatedPlay_26 : decode cX5_startStatedPlay 26 = .ok (.return_, 1) := by decide +kernel
set_option maxRecDepth 20000 in
theorem ggX5_areTwoRoles_X2_hasRole : GoodIn wsX5_areTwoRoles wsX2_hasRole := goodIn_r _ [6, 7, 14, 15, 16, 17, 18, 19, 20, 21, 22, 23, 24, 25] (by decide +kernel) (by decide +kernel)
set_option maxRecDepth 20000 in
theorem gX5_areTwoRoles_X2_hasRole : GoodIn wsX5_areTwoRoles (wsV RX5 114 RX2 yX2_hasRole wsX2_hasRole) := goodIn_app (goodIn_of _ (by decide +kernel)) ggX5_areTwoRoles_X2_hasRole
theorem dX5_areTwoRoles_0 : decode cX5_areTwoRoles 0 = .ok (.aload_n 0, 1) := by decide +kernel
theorem dX5_areTwoRoles_1 : decode cX5_areTwoRoles 1 = .ok (.getfield 23, 3) := by decide +kernel
theorem dX5_areTwoRoles_4 : decode cX5_areTwoRoles 4 = .ok (.iload_n 1, 1) := by decide +kernel
theorem dX5_areTwoRoles_5 : decode cX5_areTwoRoles 5 = .ok (.invokevirtual 114, 3) := by decide +kernel
theorem dX5_areTwoRoles_8 : decode cX5_areTwoRoles 8 = .ok (.ifCond .eq 23, 3) := by decide +kernel
theorem dX5_areTwoRoles_11 : decode cX5_areTwoRoles 11 = .ok (.aload_n 0, 1) := by decide +kernel
theorem dX5_areTwoRoles_12 : decode cX5_areTwoRoles 12 = .ok (.getfield 23, 3) := by decide +kernel
theorem dX5_areTwoRoles_15 : decode cX5_areTwoRoles 15 = .ok (.iload_n 2, 1) := by decide +kernel
theorem dX5_areTwoRoles_16 : decode cX5_areTwoRoles 16 = .ok (.invokevirtual 114, 3) := by decide +kernel
theorem dX5_areTwoRoles_19 : decode cX5_areTwoRoles 19 = .ok (.ifCond .eq 12, 3) := by decide +kernel
theorem dX5_areTwoRoles_22 : decode cX5_areTwoRoles 22 = .ok (.iload_n 1, 1) := by decide +kernel
theorem dX5_areTwoRoles_23 : decode cX5_areTwoRoles 23 = .ok (.iload_n 2, 1) := by decide +kernel
theorem dX5_areTwoRoles_24 : decode cX5_areTwoRoles 24 = .ok (.if_icmp .eq 7, 3) := by decide +kernel
theorem dX5_areTwoRoles_27 : decode cX5_areTwoRoles 27 = .ok (.iconst 1, 1) := by decide +kernel
theorem dX5_areTwoRoles_28 : decode cX5_areTwoRoles 28 = .ok (.goto 4, 3) := by decide +kernel
theorem dX5_areTwoRoles_31 : decode cX5_areTwoRoles 31 = .ok (.iconst 0, 1) := by decide +kernel
theorem dX5_areTwoRoles_32 : decode cX5_areTwoRoles 32 = .ok (.ireturn, 1) := by decide +kernel
set_option maxRecDepth 20000 in
theorem ggX5_hasRivalOf_X4_reason : GoodIn wsX5_hasRivalOf wsX4_reason := goodIn_r _ [8, 9, 10, 11, 30, 31, 18, 19, 20, 21, 22, 23, 24, 25, 26, 27, 28, 29] (by decide +kernel) (by decide +kernel)
set_option maxRecDepth 20000 in
theorem gX5_hasRivalOf_X4_reason : GoodIn wsX5_hasRivalOf (wsV RX5 191 RX4 yX4_reason wsX4_reason) := goodIn_app (goodIn_of _ (by decide +kernel)) ggX5_hasRivalOf_X4_reason
theorem dX5_hasRivalOf_0 : decode cX5_hasRivalOf 0 = .ok (.iconst 0, 1) := by decide +kernel
theorem dX5_hasRivalOf_1 : decode cX5_hasRivalOf 1 = .ok (.istore 4, 2) := by decide +kernel
theorem dX5_hasRivalOf_3 : decode cX5_hasRivalOf 3 = .ok (.iload 4, 2) := by decide +kernel
theorem dX5_hasRivalOf_5 : decode cX5_hasRivalOf 5 = .ok (.iload_n 3, 1) := by decide +kernel
theorem dX5_hasRivalOf_6 : decode cX5_hasRivalOf 6 = .ok (.if_icmp .ge 45, 3) := by decide +kernel
theorem dX5_hasRivalOf_9 : decode cX5_hasRivalOf 9 = .ok (.iload 4, 2) := by decide +kernel
theorem dX5_hasRivalOf_11 : decode cX5_hasRivalOf 11 = .ok (.iload_n 2, 1) := by decide +kernel
theorem dX5_hasRivalOf_12 : decode cX5_hasRivalOf 12 = .ok (.if_icmp .eq 33, 3) := by decide +kernel
theorem dX5_hasRivalOf_15 : decode cX5_hasRivalOf 15 = .ok (.aload_n 0, 1) := by decide +kernel
theorem dX5_hasRivalOf_16 : decode cX5_hasRivalOf 16 = .ok (.getfield 23, 3) := by decide +kernel
theorem dX5_hasRivalOf_19 : decode cX5_hasRivalOf 19 = .ok (.getfield 135, 3) := by decide +kernel
theorem dX5_hasRivalOf_22 : decode cX5_hasRivalOf 22 = .ok (.iload 4, 2) := by decide +kernel
theorem dX5_hasRivalOf_24 : decode cX5_hasRivalOf 24 = .ok (.iaload, 1) := by decide +kernel
theorem dX5_hasRivalOf_25 : decode cX5_hasRivalOf 25 = .ok (.iload_n 1, 1) := by decide +kernel
theorem dX5_hasRivalOf_26 : decode cX5_hasRivalOf 26 = .ok (.if_icmp .ne 19, 3) := by decide +kernel
theorem dX5_hasRivalOf_29 : decode cX5_hasRivalOf 29 = .ok (.aload_n 0, 1) := by decide +kernel
theorem dX5_hasRivalOf_30 : decode cX5_hasRivalOf 30 = .ok (.getfield 31, 3) := by decide +kernel
theorem dX5_hasRivalOf_33 : decode cX5_hasRivalOf 33 = .ok (.iload_n 2, 1) := by decide +kernel
theorem dX5_hasRivalOf_34 : decode cX5_hasRivalOf 34 = .ok (.iload 4, 2) := by decide +kernel
theorem dX5_hasRivalOf_36 : decode cX5_hasRivalOf 36 = .ok (.iconst 0, 1) := by decide +kernel
theorem dX5_hasRivalOf_37 : decode cX5_hasRivalOf 37 = .ok (.invokevirtual 191, 3) := by decide +kernel
theorem dX5_hasRivalOf_40 : decode cX5_hasRivalOf 40 = .ok (.ifCond .eq 5, 3) := by decide +kernel
theorem dX5_hasRivalOf_43 : decode cX5_hasRivalOf 43 = .ok (.iconst 1, 1) := by decide +kernel
theorem dX5_hasRivalOf_44 : decode cX5_hasRivalOf 44 = .ok (.ireturn, 1) := by decide +kernel
theorem dX5_hasRivalOf_45 : decode cX5_hasRivalOf 45 = .ok (.iinc 4 1, 3) := by decide +kernel
theorem dX5_hasRivalOf_48 : decode cX5_hasRivalOf 48 = .ok (.goto (-45), 3) := by decide +kernel
theorem dX5_hasRivalOf_51 : decode cX5_hasRivalOf 51 = .ok (.iconst 0, 1) := by decide +kernel
theorem dX5_hasRivalOf_52 : decode cX5_hasRivalOf 52 = .ok (.ireturn, 1) := by decide +kernel
set_option maxRecDepth 20000 in
theorem ggX5_freeRivals_X5_hasRivalOf : GoodIn wsX5_freeRivals wsX5_hasRivalOf := goodIn_r _ [8, 1, 3, 9, 10, 11, 12, 13, 14, 15, 16, 17, 18, 19, 20, 21, 22, 23, 24, 25, 26, 27, 28, 29, 30, 31, 32, 33, 34, 35, 36, 37] (by decide +kernel) (by decide +kernel)
set_option maxRecDepth 20000 in
theorem gX5_freeRivals_X5_hasRivalOf : GoodIn wsX5_freeRivals (wsV RX5 131 RX5 yX5_hasRivalOf wsX5_hasRivalOf) := goodIn_app (goodIn_of _ (by decide +kernel)) ggX5_freeRivals_X5_hasRivalOf
theorem dX5_freeRivals_0 : decode cX5_freeRivals 0 = .ok (.iconst 0, 1) := by decide +kernel
theorem dX5_freeRivals_1 : decode cX5_freeRivals 1 = .ok (.istore_n 1, 1) := by decide +kernel
theorem dX5_freeRivals_2 : decode cX5_freeRivals 2 = .ok (.iconst 1, 1) := by decide +kernel
theorem dX5_freeRivals_3 : decode cX5_freeRivals 3 = .ok (.istore_n 2, 1) := by decide +kernel
theorem dX5_freeRivals_4 : decode cX5_freeRivals 4 = .ok (.iload_n 2, 1) := by decide +kernel
theorem dX5_freeRivals_5 : decode cX5_freeRivals 5 = .ok (.aload_n 0, 1) := by decide +kernel
theorem dX5_freeRivals_6 : decode cX5_freeRivals 6 = .ok (.getfield 23, 3) := by decide +kernel
theorem dX5_freeRivals_9 : decode cX5_freeRivals 9 = .ok (.getfield 86, 3) := by decide +kernel
theorem dX5_freeRivals_12 : decode cX5_freeRivals 12 = .ok (.if_icmp .ge 47, 3) := by decide +kernel
theorem dX5_freeRivals_15 : decode cX5_freeRivals 15 = .ok (.aload_n 0, 1) := by decide +kernel
theorem dX5_freeRivals_16 : decode cX5_freeRivals 16 = .ok (.getfield 23, 3) := by decide +kernel
theorem dX5_freeRivals_19 : decode cX5_freeRivals 19 = .ok (.getfield 135, 3) := by decide +kernel
theorem dX5_freeRivals_22 : decode cX5_freeRivals 22 = .ok (.iload_n 2, 1) := by decide +kernel
theorem dX5_freeRivals_23 : decode cX5_freeRivals 23 = .ok (.iaload, 1) := by decide +kernel
theorem dX5_freeRivals_24 : decode cX5_freeRivals 24 = .ok (.istore_n 3, 1) := by decide +kernel
theorem dX5_freeRivals_25 : decode cX5_freeRivals 25 = .ok (.iload_n 3, 1) := by decide +kernel
theorem dX5_freeRivals_26 : decode cX5_freeRivals 26 = .ok (.iconst (-1), 1) := by decide +kernel
theorem dX5_freeRivals_27 : decode cX5_freeRivals 27 = .ok (.if_icmp .eq 26, 3) := by decide +kernel
theorem dX5_freeRivals_30 : decode cX5_freeRivals 30 = .ok (.aload_n 0, 1) := by decide +kernel
theorem dX5_freeRivals_31 : decode cX5_freeRivals 31 = .ok (.iload_n 3, 1) := by decide +kernel
theorem dX5_freeRivals_32 : decode cX5_freeRivals 32 = .ok (.iload_n 2, 1) := by decide +kernel
theorem dX5_freeRivals_33 : decode cX5_freeRivals 33 = .ok (.iload_n 2, 1) := by decide +kernel
theorem dX5_freeRivals_34 : decode cX5_freeRivals 34 = .ok (.invokevirtual 131, 3) := by decide +kernel
theorem dX5_freeRivals_37 : decode cX5_freeRivals 37 = .ok (.ifCond .eq 16, 3) := by decide +kernel
theorem dX5_freeRivals_40 : decode cX5_freeRivals 40 = .ok (.aload_n 0, 1) := by decide +kernel
theorem dX5_freeRivals_41 : decode cX5_freeRivals 41 = .ok (.getfield 23, 3) := by decide +kernel
theorem dX5_freeRivals_44 : decode cX5_freeRivals 44 = .ok (.getfield 135, 3) := by decide +kernel
theorem dX5_freeRivals_47 : decode cX5_freeRivals 47 = .ok (.iload_n 2, 1) := by decide +kernel
theorem dX5_freeRivals_48 : decode cX5_freeRivals 48 = .ok (.iconst (-1), 1) := by decide +kernel
theorem dX5_freeRivals_49 : decode cX5_freeRivals 49 = .ok (.iastore, 1) := by decide +kernel
theorem dX5_freeRivals_50 : decode cX5_freeRivals 50 = .ok (.iinc 1 1, 3) := by decide +kernel
theorem dX5_freeRivals_53 : decode cX5_freeRivals 53 = .ok (.iinc 2 1, 3) := by decide +kernel
theorem dX5_freeRivals_56 : decode cX5_freeRivals 56 = .ok (.goto (-52), 3) := by decide +kernel
theorem dX5_freeRivals_59 : decode cX5_freeRivals 59 = .ok (.iload_n 1, 1) := by decide +kernel
theorem dX5_freeRivals_60 : decode cX5_freeRivals 60 = .ok (.ireturn, 1) := by decide +kernel
set_option maxRecDepth 20000 in
theorem ggX5_sizeIsEnough_X0_lookAt : GoodIn wsX5_sizeIsEnough wsX0_lookAt := goodIn_r _ [7, 8, 9, 10, 11, 12, 13, 14, 15, 16, 17, 18, 19, 49, 50, 51, 52, 53, 54, 55, 56, 57, 58, 59, 60, 61, 62, 63, 64, 65] (by decide +kernel) (by decide +kernel)
set_option maxRecDepth 20000 in
theorem gX5_sizeIsEnough_X0_lookAt : GoodIn wsX5_sizeIsEnough (wsV RX5 147 RX0 yX0_lookAt wsX0_lookAt) := goodIn_app (goodIn_of _ (by decide +kernel)) ggX5_sizeIsEnough_X0_lookAt
set_option maxRecDepth 20000 in
theorem ggX5_sizeIsEnough_X0_findCast : GoodIn wsX5_sizeIsEnough wsX0_findCast := goodIn_r _ [23, 24, 25, 26, 27, 28, 29, 30, 6, 31, 32, 33, 34, 35, 10, 36, 37, 38, 39, 40, 41, 42, 11, 63, 64, 65] (by decide +kernel) (by decide +kernel)
set_option maxRecDepth 20000 in
theorem gX5_sizeIsEnough_X0_findCast : GoodIn wsX5_sizeIsEnough (wsV RX5 213 RX0 yX0_findCast wsX0_findCast) := goodIn_app (goodIn_of _ (by decide +kernel)) ggX5_sizeIsEnough_X0_findCast
theorem dX5_sizeIsEnough_0 : decode cX5_sizeIsEnough 0 = .ok (.aload_n 0, 1) := by decide +kernel
theorem dX5_sizeIsEnough_1 : decode cX5_sizeIsEnough 1 = .ok (.getfield 38, 3) := by decide +kernel
theorem dX5_sizeIsEnough_4 : decode cX5_sizeIsEnough 4 = .ok (.aload_n 0, 1) := by decide +kernel
theorem dX5_sizeIsEnough_5 : decode cX5_sizeIsEnough 5 = .ok (.getfield 31, 3) := by decide +kernel
theorem dX5_sizeIsEnough_8 : decode cX5_sizeIsEnough 8 = .ok (.iload_n 2, 1) := by decide +kernel
theorem dX5_sizeIsEnough_9 : decode cX5_sizeIsEnough 9 = .ok (.invokevirtual 147, 3) := by decide +kernel
theorem dX5_sizeIsEnough_12 : decode cX5_sizeIsEnough 12 = .ok (.aload_n 0, 1) := by decide +kernel
theorem dX5_sizeIsEnough_13 : decode cX5_sizeIsEnough 13 = .ok (.getfield 38, 3) := by decide +kernel
theorem dX5_sizeIsEnough_16 : decode cX5_sizeIsEnough 16 = .ok (.iload_n 1, 1) := by decide +kernel
theorem dX5_sizeIsEnough_17 : decode cX5_sizeIsEnough 17 = .ok (.invokevirtual 213, 3) := by decide +kernel
theorem dX5_sizeIsEnough_20 : decode cX5_sizeIsEnough 20 = .ok (.ireturn, 1) := by decide +kernel
theorem dX5_isActor_0 : decode cX5_isActor 0 = .ok (.iload_n 0, 1) := by decide +kernel
theorem dX5_isActor_1 : decode cX5_isActor 1 = .ok (.ifCond .lt 13, 3) := by decide +kernel
theorem dX5_isActor_4 : decode cX5_isActor 4 = .ok (.iload_n 0, 1) := by decide +kernel
theorem dX5_isActor_5 : decode cX5_isActor 5 = .ok (.bipush 8, 2) := by decide +kernel
theorem dX5_isActor_7 : decode cX5_isActor 7 = .ok (.if_icmp .ge 7, 3) := by decide +kernel
theorem dX5_isActor_10 : decode cX5_isActor 10 = .ok (.iconst 1, 1) := by decide +kernel
theorem dX5_isActor_11 : decode cX5_isActor 11 = .ok (.goto 4, 3) := by decide +kernel
theorem dX5_isActor_14 : decode cX5_isActor 14 = .ok (.iconst 0, 1) := by decide +kernel
theorem dX5_isActor_15 : decode cX5_isActor 15 = .ok (.ireturn, 1) := by decide +kernel
theorem dX5_isCostumeTime_0 : decode cX5_isCostumeTime 0 = .ok (.iload_n 0, 1) := by decide +kernel
theorem dX5_isCostumeTime_1 : decode cX5_isCostumeTime 1 = .ok (.ifCond .lt 13, 3) := by decide +kernel
theorem dX5_isCostumeTime_4 : decode cX5_isCostumeTime 4 = .ok (.iload_n 0, 1) := by decide +kernel
theorem dX5_isCostumeTime_5 : decode cX5_isCostumeTime 5 = .ok (.bipush 60, 2) := by decide +kernel
theorem dX5_isCostumeTime_7 : decode cX5_isCostumeTime 7 = .ok (.if_icmp .gt 7, 3) := by decide +kernel
theorem dX5_isCostumeTime_10 : decode cX5_isCostumeTime 10 = .ok (.iconst 1, 1) := by decide +kernel
theorem dX5_isCostumeTime_11 : decode cX5_isCostumeTime 11 = .ok (.goto 4, 3) := by decide +kernel
theorem dX5_isCostumeTime_14 : decode cX5_isCostumeTime 14 = .ok (.iconst 0, 1) := by decide +kernel
theorem dX5_isCostumeTime_15 : decode cX5_isCostumeTime 15 = .ok (.ireturn, 1) := by decide +kernel
theorem dX5_lesserSlack_0 : decode cX5_lesserSlack 0 = .ok (.iload_n 0, 1) := by decide +kernel
theorem dX5_lesserSlack_1 : decode cX5_lesserSlack 1 = .ok (.sipush (-1004), 3) := by decide +kernel
theorem dX5_lesserSlack_4 : decode cX5_lesserSlack 4 = .ok (.if_icmp .ne 5, 3) := by decide +kernel
theorem dX5_lesserSlack_7 : decode cX5_lesserSlack 7 = .ok (.iload_n 1, 1) := by decide +kernel
theorem dX5_lesserSlack_8 : decode cX5_lesserSlack 8 = .ok (.ireturn, 1) := by decide +kernel
theorem dX5_lesserSlack_9 : decode cX5_lesserSlack 9 = .ok (.iload_n 1, 1) := by decide +kernel
theorem dX5_lesserSlack_10 : decode cX5_lesserSlack 10 = .ok (.sipush (-1004), 3) := by decide +kernel
theorem dX5_lesserSlack_13 : decode cX5_lesserSlack 13 = .ok (.if_icmp .ne 7, 3) := by decide +kernel
theorem dX5_lesserSlack_16 : decode cX5_lesserSlack 16 = .ok (.iload_n 0, 1) := by decide +kernel
theorem dX5_lesserSlack_17 : decode cX5_lesserSlack 17 = .ok (.goto 8, 3) := by decide +kernel
theorem dX5_lesserSlack_20 : decode cX5_lesserSlack 20 = .ok (.iload_n 0, 1) := by decide +kernel
theorem dX5_lesserSlack_21 : decode cX5_lesserSlack 21 = .ok (.iload_n 1, 1) := by decide +kernel
theorem dX5_lesserSlack_22 : decode cX5_lesserSlack 22 = .ok (.invokestatic 216, 3) := by decide +kernel
theorem dX5_lesserSlack_25 : decode cX5_lesserSlack 25 = .ok (.ireturn, 1) := by decide +kernel
set_option maxRecDepth 20000 in
theorem ggX6_init_X6_empty : GoodIn wsX6_init wsX6_empty := goodIn_r _ [14] (by decide +kernel) (by decide +kernel)
set_option maxRecDepth 20000 in
theorem gX6_init_X6_empty : GoodIn wsX6_init (va_wsS RX6 28 yX6_empty wsX6_empty) := goodIn_app (goodIn_of _ (by decide +kernel)) ggX6_init_X6_empty
set_option maxRecDepth 20000 in
theorem ggX6_init_X6_role : GoodIn wsX6_init wsX6_role := goodIn_r _ [17] (by decide +kernel) (by decide +kernel)
set_option maxRecDepth 20000 in
theorem gX6_init_X6_role : GoodIn wsX6_init (va_wsS RX6 32 yX6_role wsX6_role) := goodIn_app (goodIn_of _ (by decide +kernel)) ggX6_init_X6_role
set_option maxRecDepth 20000 in
theorem ggX6_init_X6_appear : GoodIn wsX6_init wsX6_appear := goodIn_r _ [20] (by decide +kernel) (by decide +kernel)
set_option maxRecDepth 20000 in
theorem gX6_init_X6_appear : GoodIn wsX6_init (va_wsS RX6 36 yX6_appear wsX6_appear) := goodIn_app (goodIn_of _ (by decide +kernel)) ggX6_init_X6_appear
theorem dX6_init_0 : decode cX6_init 0 = .ok (.aload_n 0, 1) := by decide +kernel
theorem dX6_init_1 : decode cX6_init 1 = .ok (.invokespecial 1, 3) := by decide +kernel
theorem dX6_init_4 : decode cX6_init 4 = .ok (.aload_n 0, 1) := by decide +kernel
theorem dX6_init_5 : decode cX6_init 5 = .ok (.bipush 125, 2) := by decide +kernel
theorem dX6_init_7 : decode cX6_init 7 = .ok (.newarray .int, 2) := by decide +kernel
theorem dX6_init_9 : decode cX6_init 9 = .ok (.putfield 7, 3) := by decide +kernel
theorem dX6_init_12 : decode cX6_init 12 = .ok (.aload_n 0, 1) := by decide +kernel
theorem dX6_init_13 : decode cX6_init 13 = .ok (.bipush 125, 2) := by decide +kernel
theorem dX6_init_15 : decode cX6_init 15 = .ok (.newarray .int, 2) := by decide +kernel
theorem dX6_init_17 : decode cX6_init 17 = .ok (.putfield 13, 3) := by decide +kernel
theorem dX6_init_20 : decode cX6_init 20 = .ok (.aload_n 0, 1) := by decide +kernel
theorem dX6_init_21 : decode cX6_init 21 = .ok (.sipush 625, 3) := by decide +kernel
theorem dX6_init_24 : decode cX6_init 24 = .ok (.newarray .int, 2) := by decide +kernel
theorem dX6_init_26 : decode cX6_init 26 = .ok (.putfield 16, 3) := by decide +kernel
theorem dX6_init_29 : decode cX6_init 29 = .ok (.aload_n 0, 1) := by decide +kernel
theorem dX6_init_30 : decode cX6_init 30 = .ok (.sipush 400, 3) := by decide +kernel
theorem dX6_init_33 : decode cX6_init 33 = .ok (.newarray .int, 2) := by decide +kernel
theorem dX6_init_35 : decode cX6_init 35 = .ok (.putfield 19, 3) := by decide +kernel
theorem dX6_init_38 : decode cX6_init 38 = .ok (.aload_n 0, 1) := by decide +kernel
theorem dX6_init_39 : decode cX6_init 39 = .ok (.bipush 8, 2) := by decide +kernel
theorem dX6_init_41 : decode cX6_init 41 = .ok (.newarray .int, 2) := by decide +kernel
theorem dX6_init_43 : decode cX6_init 43 = .ok (.putfield 22, 3) := by decide +kernel
theorem dX6_init_46 : decode cX6_init 46 = .ok (.aload_n 0, 1) := by decide +kernel
theorem dX6_init_47 : decode cX6_init 47 = .ok (.bipush 8, 2) := by decide +kernel
theorem dX6_init_49 : decode cX6_init 49 = .ok (.newarray .int, 2) := by decide +kernel
theorem dX6_init_51 : decode cX6_init 51 = .ok (.putfield 25, 3) := by decide +kernel
theorem dX6_init_54 : decode cX6_init 54 = .ok (.aload_n 0, 1) := by decide +kernel
theorem dX6_init_55 : decode cX6_init 55 = .ok (.getfield 7, 3) := by decide +kernel
theorem dX6_init_58 : decode cX6_init 58 = .ok (.invokestatic 28, 3) := by decide +kernel
theorem dX6_init_61 : decode cX6_init 61 = .ok (.aload_n 0, 1) := by decide +kernel
theorem dX6_init_62 : decode cX6_init 62 = .ok (.getfield 7, 3) := by decide +kernel
theorem dX6_init_65 : decode cX6_init 65 = .ok (.iconst 0, 1) := by decide +kernel
theorem dX6_init_66 : decode cX6_init 66 = .ok (.iconst 3, 1) := by decide +kernel
theorem dX6_init_67 : decode cX6_init 67 = .ok (.iastore, 1) := by decide +kernel
theorem dX6_init_68 : decode cX6_init 68 = .ok (.aload_n 0, 1) := by decide +kernel
theorem dX6_init_69 : decode cX6_init 69 = .ok (.getfield 7, 3) := by decide +kernel
theorem dX6_init_72 : decode cX6_init 72 = .ok (.iconst 1, 1) := by decide +kernel
theorem dX6_init_73 : decode cX6_init 73 = .ok (.bipush 30, 2) := by decide +kernel
theorem dX6_init_75 : decode cX6_init 75 = .ok (.iastore, 1) := by decide +kernel
theorem dX6_init_76 : decode cX6_init 76 = .ok (.aload_n 0, 1) := by decide +kernel
theorem dX6_init_77 : decode cX6_init 77 = .ok (.getfield 7, 3) := by decide +kernel
theorem dX6_init_80 : decode cX6_init 80 = .ok (.iconst 2, 1) := by decide +kernel
theorem dX6_init_81 : decode cX6_init 81 = .ok (.bipush 20, 2) := by decide +kernel
theorem dX6_init_83 : decode cX6_init 83 = .ok (.iastore, 1) := by decide +kernel
theorem dX6_init_84 : decode cX6_init 84 = .ok (.aload_n 0, 1) := by decide +kernel
theorem dX6_init_85 : decode cX6_init 85 = .ok (.getfield 7, 3) := by decide +kernel
theorem dX6_init_88 : decode cX6_init 88 = .ok (.iconst 3, 1) := by decide +kernel
theorem dX6_init_89 : decode cX6_init 89 = .ok (.bipush 40, 2) := by decide +kernel
theorem dX6_init_91 : decode cX6_init 91 = .ok (.iastore, 1) := by decide +kernel
theorem dX6_init_92 : decode cX6_init 92 = .ok (.aload_n 0, 1) := by decide +kernel
theorem dX6_init_93 : decode cX6_init 93 = .ok (.getfield 7, 3) := by decide +kernel
theorem dX6_init_96 : decode cX6_init 96 = .ok (.iconst 0, 1) := by decide +kernel
theorem dX6_init_97 : decode cX6_init 97 = .ok (.iconst 4, 1) := by decide +kernel
theorem dX6_init_98 : decode cX6_init 98 = .ok (.iconst 3, 1) := by decide +kernel
theorem dX6_init_99 : decode cX6_init 99 = .ok (.invokestatic 32, 3) := by decide +kernel
theorem dX6_init_102 : decode cX6_init 102 = .ok (.aload_n 0, 1) := by decide +kernel
theorem dX6_init_103 : decode cX6_init 103 = .ok (.getfield 7, 3) := by decide +kernel
theorem dX6_init_106 : decode cX6_init 106 = .ok (.iconst 0, 1) := by decide +kernel
theorem dX6_init_107 : decode cX6_init 107 = .ok (.iconst 2, 1) := by decide +kernel
theorem dX6_init_108 : decode cX6_init 108 = .ok (.bipush 6, 2) := by decide +kernel
theorem dX6_init_110 : decode cX6_init 110 = .ok (.invokestatic 32, 3) := by decide +kernel
theorem dX6_init_113 : decode cX6_init 113 = .ok (.aload_n 0, 1) := by decide +kernel
theorem dX6_init_114 : decode cX6_init 114 = .ok (.getfield 7, 3) := by decide +kernel
theorem dX6_init_117 : decode cX6_init 117 = .ok (.iconst 1, 1) := by decide +kernel
theorem dX6_init_118 : decode cX6_init 118 = .ok (.iconst 5, 1) := by decide +kernel
theorem dX6_init_119 : decode cX6_init 119 = .ok (.iconst 5, 1) := by decide +kernel
theorem dX6_init_120 : decode cX6_init 120 = .ok (.invokestatic 32, 3) := by decide +kernel
theorem dX6_init_123 : decode cX6_init 123 = .ok (.aload_n 0, 1) := by decide +kernel
theorem dX6_init_124 : decode cX6_init 124 = .ok (.getfield 7, 3) := by decide +kernel
theorem dX6_init_127 : decode cX6_init 127 = .ok (.iconst 0, 1) := by decide +kernel
theorem dX6_init_128 : decode cX6_init 128 = .ok (.iconst 0, 1) := by decide +kernel
theorem dX6_init_129 : decode cX6_init 129 = .ok (.iconst 2, 1) := by decide +kernel
theorem dX6_init_130 : decode cX6_init 130 = .ok (.invokestatic 32, 3) := by decide +kernel
theorem dX6_init_133 : decode cX6_init 133 = .ok (.aload_n 0, 1) := by decide +kernel
theorem dX6_init_134 : decode cX6_init 134 = .ok (.getfield 7, 3) := by decide +kernel
theorem dX6_init_137 : decode cX6_init 137 = .ok (.iconst 1, 1) := by decide +kernel
theorem dX6_init_138 : decode cX6_init 138 = .ok (.iconst 3, 1) := by decide +kernel
theorem dX6_init_139 : decode cX6_init 139 = .ok (.iconst 1, 1) := by decide +kernel
theorem dX6_init_140 : decode cX6_init 140 = .ok (.invokestatic 32, 3) := by decide +kernel
theorem dX6_init_143 : decode cX6_init 143 = .ok (.aload_n 0, 1) := by decide +kernel
theorem dX6_init_144 : decode cX6_init 144 = .ok (.getfield 7, 3) := by decide +kernel
theorem dX6_init_147 : decode cX6_init 147 = .ok (.iconst 0, 1) := by decide +kernel
theorem dX6_init_148 : decode cX6_init 148 = .ok (.iconst 0, 1) := by decide +kernel
theorem dX6_init_149 : decode cX6_init 149 = .ok (.iconst 0, 1) := by decide +kernel
theorem dX6_init_150 : decode cX6_init 150 = .ok (.bipush 12, 2) := by decide +kernel
theorem dX6_init_152 : decode cX6_init 152 = .ok (.invokestatic 36, 3) := by decide +kernel
theorem dX6_init_155 : decode cX6_init 155 = .ok (.aload_n 0, 1) := by decide +kernel
theorem dX6_init_156 : decode cX6_init 156 = .ok (.getfield 7, 3) := by decide +kernel
theorem dX6_init_159 : decode cX6_init 159 = .ok (.iconst 1, 1) := by decide +kernel
theorem dX6_init_160 : decode cX6_init 160 = .ok (.iconst 0, 1) := by decide +kernel
theorem dX6_init_161 : decode cX6_init 161 = .ok (.bipush 18, 2) := by decide +kernel
theorem dX6_init_163 : decode cX6_init 163 = .ok (.bipush 30, 2) := by decide +kernel
theorem dX6_init_165 : decode cX6_init 165 = .ok (.invokestatic 36, 3) := by decide +kernel
theorem dX6_init_168 : decode cX6_init 168 = .ok (.aload_n 0, 1) := by decide +kernel
theorem dX6_init_169 : decode cX6_init 169 = .ok (.getfield 7, 3) := by decide +kernel
theorem dX6_init_172 : decode cX6_init 172 = .ok (.iconst 2, 1) := by decide +kernel
theorem dX6_init_173 : decode cX6_init 173 = .ok (.iconst 0, 1) := by decide +kernel
theorem dX6_init_174 : decode cX6_init 174 = .ok (.iconst 5, 1) := by decide +kernel
theorem dX6_init_175 : decode cX6_init 175 = .ok (.bipush 25, 2) := by decide +kernel
theorem dX6_init_177 : decode cX6_init 177 = .ok (.invokestatic 36, 3) := by decide +kernel
theorem dX6_init_180 : decode cX6_init 180 = .ok (.aload_n 0, 1) := by decide +kernel
theorem dX6_init_181 : decode cX6_init 181 = .ok (.getfield 7, 3) := by decide +kernel
theorem dX6_init_184 : decode cX6_init 184 = .ok (.iconst 3, 1) := by decide +kernel
theorem dX6_init_185 : decode cX6_init 185 = .ok (.iconst 1, 1) := by decide +kernel
theorem dX6_init_186 : decode cX6_init 186 = .ok (.iconst 0, 1) := by decide +kernel
theorem dX6_init_187 : decode cX6_init 187 = .ok (.bipush 9, 2) := by decide +kernel
theorem dX6_init_189 : decode cX6_init 189 = .ok (.invokestatic 36, 3) := by decide +kernel
theorem dX6_init_192 : decode cX6_init 192 = .ok (.aload_n 0, 1) := by decide +kernel
theorem dX6_init_193 : decode cX6_init 193 = .ok (.getfield 7, 3) := by decide +kernel
theorem dX6_init_196 : decode cX6_init 196 = .ok (.iconst 0, 1) := by decide +kernel
theorem dX6_init_197 : decode cX6_init 197 = .ok (.iconst 1, 1) := by decide +kernel
theorem dX6_init_198 : decode cX6_init 198 = .ok (.bipush 10, 2) := by decide +kernel
theorem dX6_init_200 : decode cX6_init 200 = .ok (.bipush 20, 2) := by decide +kernel
theorem dX6_init_202 : decode cX6_init 202 = .ok (.invokestatic 36, 3) := by decide +kernel
theorem dX6_init_205 : decode cX6_init 205 = .ok (.aload_n 0, 1) := by decide +kernel
theorem dX6_init_206 : decode cX6_init 206 = .ok (.getfield 7, 3) := by decide +kernel
theorem dX6_init_209 : decode cX6_init 209 = .ok (.iconst 4, 1) := by decide +kernel
theorem dX6_init_210 : decode cX6_init 210 = .ok (.iconst 1, 1) := by decide +kernel
end
section
theorem dX6_init_211 : decode cX6_init 211 = .ok (.iconst 3, 1) := by decide +kernel
theorem dX6_init_212 : decode cX6_init 212 = .ok (.bipush 20, 2) := by decide +kernel
theorem dX6_init_214 : decode cX6_init 214 = .ok (.invokestatic 36, 3) := by decide +kernel
theorem dX6_init_217 : decode cX6_init 217 = .ok (.aload_n 0, 1) := by decide +kernel
theorem dX6_init_218 : decode cX6_init 218 = .ok (.getfield 7, 3) := by decide +kernel
theorem dX6_init_221 : decode cX6_init 221 = .ok (.iconst 1, 1) := by decide +kernel
theorem dX6_init_222 : decode cX6_init 222 = .ok (.iconst 2, 1) := by decide +kernel
theorem dX6_init_223 : decode cX6_init 223 = .ok (.iconst 2, 1) := by decide +kernel
theorem dX6_init_224 : decode cX6_init 224 = .ok (.bipush 15, 2) := by decide +kernel
theorem dX6_init_226 : decode cX6_init 226 = .ok (.invokestatic 36, 3) := by decide +kernel
theorem dX6_init_229 : decode cX6_init 229 = .ok (.aload_n 0, 1) := by decide +kernel
theorem dX6_init_230 : decode cX6_init 230 = .ok (.getfield 7, 3) := by decide +kernel
theorem dX6_init_233 : decode cX6_init 233 = .ok (.iconst 3, 1) := by decide +kernel
theorem dX6_init_234 : decode cX6_init 234 = .ok (.iconst 2, 1) := by decide +kernel
theorem dX6_init_235 : decode cX6_init 235 = .ok (.bipush 20, 2) := by decide +kernel
theorem dX6_init_237 : decode cX6_init 237 = .ok (.bipush 40, 2) := by decide +kernel
theorem dX6_init_239 : decode cX6_init 239 = .ok (.invokestatic 36, 3) := by decide +kernel
theorem dX6_init_242 : decode cX6_init 242 = .ok (.aload_n 0, 1) := by decide +kernel
theorem dX6_init_243 : decode cX6_init 243 = .ok (.getfield 7, 3) := by decide +kernel
theorem dX6_init_246 : decode cX6_init 246 = .ok (.iconst 2, 1) := by decide +kernel
theorem dX6_init_247 : decode cX6_init 247 = .ok (.iconst 2, 1) := by decide +kernel
theorem dX6_init_248 : decode cX6_init 248 = .ok (.bipush 30, 2) := by decide +kernel
theorem dX6_init_250 : decode cX6_init 250 = .ok (.bipush 40, 2) := by decide +kernel
theorem dX6_init_252 : decode cX6_init 252 = .ok (.invokestatic 36, 3) := by decide +kernel
theorem dX6_init_255 : decode cX6_init 255 = .ok (.return_, 1) := by decide +kernel
theorem dX6_in_0 : decode cX6_in 0 = .ok (.lload_n 0, 1) := by decide +kernel
theorem dX6_in_1 : decode cX6_in 1 = .ok (.lload_n 2, 1) := by decide +kernel
theorem dX6_in_2 : decode cX6_in 2 = .ok (.lcmp, 1) := by decide +kernel
theorem dX6_in_3 : decode cX6_in 3 = .ok (.ifCond .lt 14, 3) := by decide +kernel
theorem dX6_in_6 : decode cX6_in 6 = .ok (.lload_n 0, 1) := by decide +kernel
theorem dX6_in_7 : decode cX6_in 7 = .ok (.lload 4, 2) := by decide +kernel
theorem dX6_in_9 : decode cX6_in 9 = .ok (.lcmp, 1) := by decide +kernel
theorem dX6_in_10 : decode cX6_in 10 = .ok (.ifCond .gt 7, 3) := by decide +kernel
theorem dX6_in_13 : decode cX6_in 13 = .ok (.iconst 1, 1) := by decide +kernel
theorem dX6_in_14 : decode cX6_in 14 = .ok (.goto 4, 3) := by decide +kernel
theorem dX6_in_17 : decode cX6_in 17 = .ok (.iconst 0, 1) := by decide +kernel
theorem dX6_in_18 : decode cX6_in 18 = .ok (.ireturn, 1) := by decide +kernel
theorem dX6_empty_0 : decode cX6_empty 0 = .ok (.iconst 0, 1) := by decide +kernel
theorem dX6_empty_1 : decode cX6_empty 1 = .ok (.istore_n 1, 1) := by decide +kernel
theorem dX6_empty_2 : decode cX6_empty 2 = .ok (.iload_n 1, 1) := by decide +kernel
theorem dX6_empty_3 : decode cX6_empty 3 = .ok (.bipush 125, 2) := by decide +kernel
theorem dX6_empty_5 : decode cX6_empty 5 = .ok (.if_icmp .ge 13, 3) := by decide +kernel
theorem dX6_empty_8 : decode cX6_empty 8 = .ok (.aload_n 0, 1) := by decide +kernel
theorem dX6_empty_9 : decode cX6_empty 9 = .ok (.iload_n 1, 1) := by decide +kernel
theorem dX6_empty_10 : decode cX6_empty 10 = .ok (.iconst 0, 1) := by decide +kernel
theorem dX6_empty_11 : decode cX6_empty 11 = .ok (.iastore, 1) := by decide +kernel
theorem dX6_empty_12 : decode cX6_empty 12 = .ok (.iinc 1 1, 3) := by decide +kernel
theorem dX6_empty_15 : decode cX6_empty 15 = .ok (.goto (-13), 3) := by decide +kernel
theorem dX6_empty_18 : decode cX6_empty 18 = .ok (.iconst 0, 1) := by decide +kernel
theorem dX6_empty_19 : decode cX6_empty 19 = .ok (.istore_n 1, 1) := by decide +kernel
theorem dX6_empty_20 : decode cX6_empty 20 = .ok (.iload_n 1, 1) := by decide +kernel
theorem dX6_empty_21 : decode cX6_empty 21 = .ok (.bipush 8, 2) := by decide +kernel
theorem dX6_empty_23 : decode cX6_empty 23 = .ok (.if_icmp .ge 16, 3) := by decide +kernel
theorem dX6_empty_26 : decode cX6_empty 26 = .ok (.aload_n 0, 1) := by decide +kernel
theorem dX6_empty_27 : decode cX6_empty 27 = .ok (.bipush 36, 2) := by decide +kernel
theorem dX6_empty_29 : decode cX6_empty 29 = .ok (.iload_n 1, 1) := by decide +kernel
theorem dX6_empty_30 : decode cX6_empty 30 = .ok (.iadd, 1) := by decide +kernel
theorem dX6_empty_31 : decode cX6_empty 31 = .ok (.iconst (-1), 1) := by decide +kernel
theorem dX6_empty_32 : decode cX6_empty 32 = .ok (.iastore, 1) := by decide +kernel
theorem dX6_empty_33 : decode cX6_empty 33 = .ok (.iinc 1 1, 3) := by decide +kernel
theorem dX6_empty_36 : decode cX6_empty 36 = .ok (.goto (-16), 3) := by decide +kernel
theorem dX6_empty_39 : decode cX6_empty 39 = .ok (.return_, 1) := by decide +kernel
theorem dX6_role_0 : decode cX6_role 0 = .ok (.aload_n 0, 1) := by decide +kernel
theorem dX6_role_1 : decode cX6_role 1 = .ok (.bipush 12, 2) := by decide +kernel
theorem dX6_role_3 : decode cX6_role 3 = .ok (.aload_n 0, 1) := by decide +kernel
theorem dX6_role_4 : decode cX6_role 4 = .ok (.bipush 11, 2) := by decide +kernel
theorem dX6_role_6 : decode cX6_role 6 = .ok (.iaload, 1) := by decide +kernel
theorem dX6_role_7 : decode cX6_role 7 = .ok (.iadd, 1) := by decide +kernel
theorem dX6_role_8 : decode cX6_role 8 = .ok (.iload_n 1, 1) := by decide +kernel
theorem dX6_role_9 : decode cX6_role 9 = .ok (.iastore, 1) := by decide +kernel
theorem dX6_role_10 : decode cX6_role 10 = .ok (.aload_n 0, 1) := by decide +kernel
theorem dX6_role_11 : decode cX6_role 11 = .ok (.bipush 20, 2) := by decide +kernel
theorem dX6_role_13 : decode cX6_role 13 = .ok (.aload_n 0, 1) := by decide +kernel
theorem dX6_role_14 : decode cX6_role 14 = .ok (.bipush 11, 2) := by decide +kernel
theorem dX6_role_16 : decode cX6_role 16 = .ok (.iaload, 1) := by decide +kernel
theorem dX6_role_17 : decode cX6_role 17 = .ok (.iadd, 1) := by decide +kernel
theorem dX6_role_18 : decode cX6_role 18 = .ok (.iload_n 2, 1) := by decide +kernel
theorem dX6_role_19 : decode cX6_role 19 = .ok (.iastore, 1) := by decide +kernel
theorem dX6_role_20 : decode cX6_role 20 = .ok (.aload_n 0, 1) := by decide +kernel
theorem dX6_role_21 : decode cX6_role 21 = .ok (.bipush 28, 2) := by decide +kernel
theorem dX6_role_23 : decode cX6_role 23 = .ok (.aload_n 0, 1) := by decide +kernel
theorem dX6_role_24 : decode cX6_role 24 = .ok (.bipush 11, 2) := by decide +kernel
theorem dX6_role_26 : decode cX6_role 26 = .ok (.iaload, 1) := by decide +kernel
theorem dX6_role_27 : decode cX6_role 27 = .ok (.iadd, 1) := by decide +kernel
theorem dX6_role_28 : decode cX6_role 28 = .ok (.iload_n 3, 1) := by decide +kernel
theorem dX6_role_29 : decode cX6_role 29 = .ok (.iastore, 1) := by decide +kernel
theorem dX6_role_30 : decode cX6_role 30 = .ok (.aload_n 0, 1) := by decide +kernel
theorem dX6_role_31 : decode cX6_role 31 = .ok (.bipush 11, 2) := by decide +kernel
theorem dX6_role_33 : decode cX6_role 33 = .ok (.dup2, 1) := by decide +kernel
theorem dX6_role_34 : decode cX6_role 34 = .ok (.iaload, 1) := by decide +kernel
theorem dX6_role_35 : decode cX6_role 35 = .ok (.iconst 1, 1) := by decide +kernel
theorem dX6_role_36 : decode cX6_role 36 = .ok (.iadd, 1) := by decide +kernel
theorem dX6_role_37 : decode cX6_role 37 = .ok (.iastore, 1) := by decide +kernel
theorem dX6_role_38 : decode cX6_role 38 = .ok (.return_, 1) := by decide +kernel
theorem dX6_appear_0 : decode cX6_appear 0 = .ok (.bipush 45, 2) := by decide +kernel
theorem dX6_appear_2 : decode cX6_appear 2 = .ok (.iconst 4, 1) := by decide +kernel
theorem dX6_appear_3 : decode cX6_appear 3 = .ok (.aload_n 0, 1) := by decide +kernel
theorem dX6_appear_4 : decode cX6_appear 4 = .ok (.bipush 44, 2) := by decide +kernel
theorem dX6_appear_6 : decode cX6_appear 6 = .ok (.iaload, 1) := by decide +kernel
theorem dX6_appear_7 : decode cX6_appear 7 = .ok (.imul, 1) := by decide +kernel
theorem dX6_appear_8 : decode cX6_appear 8 = .ok (.iadd, 1) := by decide +kernel
theorem dX6_appear_9 : decode cX6_appear 9 = .ok (.istore 5, 2) := by decide +kernel
theorem dX6_appear_11 : decode cX6_appear 11 = .ok (.aload_n 0, 1) := by decide +kernel
theorem dX6_appear_12 : decode cX6_appear 12 = .ok (.iload 5, 2) := by decide +kernel
theorem dX6_appear_14 : decode cX6_appear 14 = .ok (.iload_n 1, 1) := by decide +kernel
theorem dX6_appear_15 : decode cX6_appear 15 = .ok (.iastore, 1) := by decide +kernel
theorem dX6_appear_16 : decode cX6_appear 16 = .ok (.aload_n 0, 1) := by decide +kernel
theorem dX6_appear_17 : decode cX6_appear 17 = .ok (.iload 5, 2) := by decide +kernel
theorem dX6_appear_19 : decode cX6_appear 19 = .ok (.iconst 1, 1) := by decide +kernel
theorem dX6_appear_20 : decode cX6_appear 20 = .ok (.iadd, 1) := by decide +kernel
theorem dX6_appear_21 : decode cX6_appear 21 = .ok (.iload_n 2, 1) := by decide +kernel
theorem dX6_appear_22 : decode cX6_appear 22 = .ok (.iastore, 1) := by decide +kernel
theorem dX6_appear_23 : decode cX6_appear 23 = .ok (.aload_n 0, 1) := by decide +kernel
theorem dX6_appear_24 : decode cX6_appear 24 = .ok (.iload 5, 2) := by decide +kernel
theorem dX6_appear_26 : decode cX6_appear 26 = .ok (.iconst 2, 1) := by decide +kernel
theorem dX6_appear_27 : decode cX6_appear 27 = .ok (.iadd, 1) := by decide +kernel
theorem dX6_appear_28 : decode cX6_appear 28 = .ok (.iload_n 3, 1) := by decide +kernel
theorem dX6_appear_29 : decode cX6_appear 29 = .ok (.iastore, 1) := by decide +kernel
theorem dX6_appear_30 : decode cX6_appear 30 = .ok (.aload_n 0, 1) := by decide +kernel
theorem dX6_appear_31 : decode cX6_appear 31 = .ok (.iload 5, 2) := by decide +kernel
theorem dX6_appear_33 : decode cX6_appear 33 = .ok (.iconst 3, 1) := by decide +kernel
theorem dX6_appear_34 : decode cX6_appear 34 = .ok (.iadd, 1) := by decide +kernel
theorem dX6_appear_35 : decode cX6_appear 35 = .ok (.iload 4, 2) := by decide +kernel
theorem dX6_appear_37 : decode cX6_appear 37 = .ok (.iastore, 1) := by decide +kernel
theorem dX6_appear_38 : decode cX6_appear 38 = .ok (.aload_n 0, 1) := by decide +kernel
theorem dX6_appear_39 : decode cX6_appear 39 = .ok (.bipush 44, 2) := by decide +kernel
theorem dX6_appear_41 : decode cX6_appear 41 = .ok (.dup2, 1) := by decide +kernel
theorem dX6_appear_42 : decode cX6_appear 42 = .ok (.iaload, 1) := by decide +kernel
theorem dX6_appear_43 : decode cX6_appear 43 = .ok (.iconst 1, 1) := by decide +kernel
theorem dX6_appear_44 : decode cX6_appear 44 = .ok (.iadd, 1) := by decide +kernel
theorem dX6_appear_45 : decode cX6_appear 45 = .ok (.iastore, 1) := by decide +kernel
theorem dX6_appear_46 : decode cX6_appear 46 = .ok (.return_, 1) := by decide +kernel
set_option maxRecDepth 20000 in
theorem ggX6_append_X6_in : GoodIn wsX6_append wsX6_in := goodIn_r _ [8] (by decide +kernel) (by decide +kernel)
set_option maxRecDepth 20000 in
theorem gX6_append_X6_in : GoodIn wsX6_append (va_wsS RX6 44 yX6_in wsX6_in) := goodIn_app (goodIn_of _ (by decide +kernel)) ggX6_append_X6_in
theorem dX6_append_0 : decode cX6_append 0 = .ok (.iload_n 1, 1) := by decide +kernel
theorem dX6_append_1 : decode cX6_append 1 = .ok (.i2l, 1) := by decide +kernel
theorem dX6_append_2 : decode cX6_append 2 = .ok (.ldc2_w 40, 3) := by decide +kernel
theorem dX6_append_5 : decode cX6_append 5 = .ok (.ldc2_w 42, 3) := by decide +kernel
theorem dX6_append_8 : decode cX6_append 8 = .ok (.invokestatic 44, 3) := by decide +kernel
theorem dX6_append_11 : decode cX6_append 11 = .ok (.ifCond .ne 7, 3) := by decide +kernel
theorem dX6_append_14 : decode cX6_append 14 = .ok (.sipush (-1001), 3) := by decide +kernel
theorem dX6_append_17 : decode cX6_append 17 = .ok (.ireturn, 1) := by decide +kernel
theorem dX6_append_18 : decode cX6_append 18 = .ok (.aload_n 0, 1) := by decide +kernel
theorem dX6_append_19 : decode cX6_append 19 = .ok (.getfield 48, 3) := by decide +kernel
theorem dX6_append_22 : decode cX6_append 22 = .ok (.sipush 400, 3) := by decide +kernel
theorem dX6_append_25 : decode cX6_append 25 = .ok (.if_icmp .ne 7, 3) := by decide +kernel
theorem dX6_append_28 : decode cX6_append 28 = .ok (.sipush (-1003), 3) := by decide +kernel
theorem dX6_append_31 : decode cX6_append 31 = .ok (.ireturn, 1) := by decide +kernel
theorem dX6_append_32 : decode cX6_append 32 = .ok (.aload_n 0, 1) := by decide +kernel
theorem dX6_append_33 : decode cX6_append 33 = .ok (.getfield 19, 3) := by decide +kernel
theorem dX6_append_36 : decode cX6_append 36 = .ok (.aload_n 0, 1) := by decide +kernel
theorem dX6_append_37 : decode cX6_append 37 = .ok (.getfield 48, 3) := by decide +kernel
theorem dX6_append_40 : decode cX6_append 40 = .ok (.iload_n 1, 1) := by decide +kernel
theorem dX6_append_41 : decode cX6_append 41 = .ok (.iastore, 1) := by decide +kernel
theorem dX6_append_42 : decode cX6_append 42 = .ok (.aload_n 0, 1) := by decide +kernel
theorem dX6_append_43 : decode cX6_append 43 = .ok (.dup, 1) := by decide +kernel
theorem dX6_append_44 : decode cX6_append 44 = .ok (.getfield 48, 3) := by decide +kernel
theorem dX6_append_47 : decode cX6_append 47 = .ok (.iconst 1, 1) := by decide +kernel
theorem dX6_append_48 : decode cX6_append 48 = .ok (.iadd, 1) := by decide +kernel
theorem dX6_append_49 : decode cX6_append 49 = .ok (.putfield 48, 3) := by decide +kernel
theorem dX6_append_52 : decode cX6_append 52 = .ok (.aload_n 0, 1) := by decide +kernel
theorem dX6_append_53 : decode cX6_append 53 = .ok (.getfield 48, 3) := by decide +kernel
theorem dX6_append_56 : decode cX6_append 56 = .ok (.ireturn, 1) := by decide +kernel
theorem dX6_clearText_0 : decode cX6_clearText 0 = .ok (.aload_n 0, 1) := by decide +kernel
theorem dX6_clearText_1 : decode cX6_clearText 1 = .ok (.getfield 48, 3) := by decide +kernel
theorem dX6_clearText_4 : decode cX6_clearText 4 = .ok (.istore_n 1, 1) := by decide +kernel
theorem dX6_clearText_5 : decode cX6_clearText 5 = .ok (.aload_n 0, 1) := by decide +kernel
theorem dX6_clearText_6 : decode cX6_clearText 6 = .ok (.iconst 0, 1) := by decide +kernel
theorem dX6_clearText_7 : decode cX6_clearText 7 = .ok (.putfield 48, 3) := by decide +kernel
theorem dX6_clearText_10 : decode cX6_clearText 10 = .ok (.iload_n 1, 1) := by decide +kernel
theorem dX6_clearText_11 : decode cX6_clearText 11 = .ok (.ireturn, 1) := by decide +kernel
theorem dX6_here_0 : decode cX6_here 0 = .ok (.aload_n 0, 1) := by decide +kernel
theorem dX6_here_1 : decode cX6_here 1 = .ok (.getfield 52, 3) := by decide +kernel
theorem dX6_here_4 : decode cX6_here 4 = .ok (.aload_n 0, 1) := by decide +kernel
theorem dX6_here_5 : decode cX6_here 5 = .ok (.getfield 48, 3) := by decide +kernel
theorem dX6_here_8 : decode cX6_here 8 = .ok (.if_icmp .ge 15, 3) := by decide +kernel
theorem dX6_here_11 : decode cX6_here 11 = .ok (.aload_n 0, 1) := by decide +kernel
theorem dX6_here_12 : decode cX6_here 12 = .ok (.getfield 19, 3) := by decide +kernel
theorem dX6_here_15 : decode cX6_here 15 = .ok (.aload_n 0, 1) := by decide +kernel
theorem dX6_here_16 : decode cX6_here 16 = .ok (.getfield 52, 3) := by decide +kernel
theorem dX6_here_19 : decode cX6_here 19 = .ok (.iaload, 1) := by decide +kernel
theorem dX6_here_20 : decode cX6_here 20 = .ok (.goto 4, 3) := by decide +kernel
theorem dX6_here_23 : decode cX6_here 23 = .ok (.iconst 0, 1) := by decide +kernel
theorem dX6_here_24 : decode cX6_here 24 = .ok (.ireturn, 1) := by decide +kernel
set_option maxRecDepth 20000 in
theorem ggX6_word_X6_in : GoodIn wsX6_word wsX6_in := goodIn_r _ [9] (by decide +kernel) (by decide +kernel)
set_option maxRecDepth 20000 in
theorem gX6_word_X6_in : GoodIn wsX6_word (va_wsS RX6 44 yX6_in wsX6_in) := goodIn_app (goodIn_of _ (by decide +kernel)) ggX6_word_X6_in
theorem dX6_word_0 : decode cX6_word 0 = .ok (.iconst 0, 1) := by decide +kernel
theorem dX6_word_1 : decode cX6_word 1 = .ok (.istore_n 1, 1) := by decide +kernel
theorem dX6_word_2 : decode cX6_word 2 = .ok (.iconst 0, 1) := by decide +kernel
theorem dX6_word_3 : decode cX6_word 3 = .ok (.istore_n 2, 1) := by decide +kernel
theorem dX6_word_4 : decode cX6_word 4 = .ok (.iconst 1, 1) := by decide +kernel
theorem dX6_word_5 : decode cX6_word 5 = .ok (.istore_n 3, 1) := by decide +kernel
theorem dX6_word_6 : decode cX6_word 6 = .ok (.aload_n 0, 1) := by decide +kernel
theorem dX6_word_7 : decode cX6_word 7 = .ok (.getfield 52, 3) := by decide +kernel
theorem dX6_word_10 : decode cX6_word 10 = .ok (.aload_n 0, 1) := by decide +kernel
theorem dX6_word_11 : decode cX6_word 11 = .ok (.getfield 48, 3) := by decide +kernel
theorem dX6_word_14 : decode cX6_word 14 = .ok (.if_icmp .ge 112, 3) := by decide +kernel
theorem dX6_word_17 : decode cX6_word 17 = .ok (.aload_n 0, 1) := by decide +kernel
theorem dX6_word_18 : decode cX6_word 18 = .ok (.getfield 19, 3) := by decide +kernel
theorem dX6_word_21 : decode cX6_word 21 = .ok (.aload_n 0, 1) := by decide +kernel
theorem dX6_word_22 : decode cX6_word 22 = .ok (.getfield 52, 3) := by decide +kernel
theorem dX6_word_25 : decode cX6_word 25 = .ok (.iaload, 1) := by decide +kernel
theorem dX6_word_26 : decode cX6_word 26 = .ok (.bipush 32, 2) := by decide +kernel
theorem dX6_word_28 : decode cX6_word 28 = .ok (.if_icmp .eq 98, 3) := by decide +kernel
theorem dX6_word_31 : decode cX6_word 31 = .ok (.aload_n 0, 1) := by decide +kernel
theorem dX6_word_32 : decode cX6_word 32 = .ok (.getfield 19, 3) := by decide +kernel
theorem dX6_word_35 : decode cX6_word 35 = .ok (.aload_n 0, 1) := by decide +kernel
theorem dX6_word_36 : decode cX6_word 36 = .ok (.getfield 52, 3) := by decide +kernel
theorem dX6_word_39 : decode cX6_word 39 = .ok (.iaload, 1) := by decide +kernel
theorem dX6_word_40 : decode cX6_word 40 = .ok (.bipush 59, 2) := by decide +kernel
theorem dX6_word_42 : decode cX6_word 42 = .ok (.if_icmp .eq 84, 3) := by decide +kernel
theorem dX6_word_45 : decode cX6_word 45 = .ok (.iload_n 3, 1) := by decide +kernel
theorem dX6_word_46 : decode cX6_word 46 = .ok (.ifCond .eq 34, 3) := by decide +kernel
theorem dX6_word_49 : decode cX6_word 49 = .ok (.aload_n 0, 1) := by decide +kernel
theorem dX6_word_50 : decode cX6_word 50 = .ok (.getfield 19, 3) := by decide +kernel
theorem dX6_word_53 : decode cX6_word 53 = .ok (.aload_n 0, 1) := by decide +kernel
theorem dX6_word_54 : decode cX6_word 54 = .ok (.getfield 52, 3) := by decide +kernel
theorem dX6_word_57 : decode cX6_word 57 = .ok (.iaload, 1) := by decide +kernel
theorem dX6_word_58 : decode cX6_word 58 = .ok (.i2l, 1) := by decide +kernel
theorem dX6_word_59 : decode cX6_word 59 = .ok (.ldc2_w 55, 3) := by decide +kernel
theorem dX6_word_62 : decode cX6_word 62 = .ok (.ldc2_w 57, 3) := by decide +kernel
theorem dX6_word_65 : decode cX6_word 65 = .ok (.invokestatic 44, 3) := by decide +kernel
theorem dX6_word_68 : decode cX6_word 68 = .ok (.ifCond .eq 12, 3) := by decide +kernel
theorem dX6_word_71 : decode cX6_word 71 = .ok (.iload_n 2, 1) := by decide +kernel
theorem dX6_word_72 : decode cX6_word 72 = .ok (.iconst 5, 1) := by decide +kernel
theorem dX6_word_73 : decode cX6_word 73 = .ok (.if_icmp .ge 7, 3) := by decide +kernel
theorem dX6_word_76 : decode cX6_word 76 = .ok (.iconst 1, 1) := by decide +kernel
theorem dX6_word_77 : decode cX6_word 77 = .ok (.goto 4, 3) := by decide +kernel
theorem dX6_word_80 : decode cX6_word 80 = .ok (.iconst 0, 1) := by decide +kernel
theorem dX6_word_81 : decode cX6_word 81 = .ok (.istore_n 3, 1) := by decide +kernel
theorem dX6_word_82 : decode cX6_word 82 = .ok (.iload_n 3, 1) := by decide +kernel
theorem dX6_word_83 : decode cX6_word 83 = .ok (.ifCond .eq 25, 3) := by decide +kernel
theorem dX6_word_86 : decode cX6_word 86 = .ok (.bipush 32, 2) := by decide +kernel
theorem dX6_word_88 : decode cX6_word 88 = .ok (.iload_n 1, 1) := by decide +kernel
theorem dX6_word_89 : decode cX6_word 89 = .ok (.imul, 1) := by decide +kernel
theorem dX6_word_90 : decode cX6_word 90 = .ok (.aload_n 0, 1) := by decide +kernel
theorem dX6_word_91 : decode cX6_word 91 = .ok (.getfield 19, 3) := by decide +kernel
theorem dX6_word_94 : decode cX6_word 94 = .ok (.aload_n 0, 1) := by decide +kernel
theorem dX6_word_95 : decode cX6_word 95 = .ok (.getfield 52, 3) := by decide +kernel
theorem dX6_word_98 : decode cX6_word 98 = .ok (.iaload, 1) := by decide +kernel
theorem dX6_word_99 : decode cX6_word 99 = .ok (.iadd, 1) := by decide +kernel
theorem dX6_word_100 : decode cX6_word 100 = .ok (.bipush 97, 2) := by decide +kernel
theorem dX6_word_102 : decode cX6_word 102 = .ok (.isub, 1) := by decide +kernel
theorem dX6_word_103 : decode cX6_word 103 = .ok (.iconst 1, 1) := by decide +kernel
theorem dX6_word_104 : decode cX6_word 104 = .ok (.iadd, 1) := by decide +kernel
theorem dX6_word_105 : decode cX6_word 105 = .ok (.goto 4, 3) := by decide +kernel
theorem dX6_word_108 : decode cX6_word 108 = .ok (.iload_n 1, 1) := by decide +kernel
theorem dX6_word_109 : decode cX6_word 109 = .ok (.istore_n 1, 1) := by decide +kernel
theorem dX6_word_110 : decode cX6_word 110 = .ok (.iinc 2 1, 3) := by decide +kernel
theorem dX6_word_113 : decode cX6_word 113 = .ok (.aload_n 0, 1) := by decide +kernel
theorem dX6_word_114 : decode cX6_word 114 = .ok (.dup, 1) := by decide +kernel
theorem dX6_word_115 : decode cX6_word 115 = .ok (.getfield 52, 3) := by decide +kernel
theorem dX6_word_118 : decode cX6_word 118 = .ok (.iconst 1, 1) := by decide +kernel
theorem dX6_word_119 : decode cX6_word 119 = .ok (.iadd, 1) := by decide +kernel
theorem dX6_word_120 : decode cX6_word 120 = .ok (.putfield 52, 3) := by decide +kernel
theorem dX6_word_123 : decode cX6_word 123 = .ok (.goto (-117), 3) := by decide +kernel
theorem dX6_word_126 : decode cX6_word 126 = .ok (.iload_n 3, 1) := by decide +kernel
theorem dX6_word_127 : decode cX6_word 127 = .ok (.ifCond .eq 11, 3) := by decide +kernel
theorem dX6_word_130 : decode cX6_word 130 = .ok (.iload_n 2, 1) := by decide +kernel
theorem dX6_word_131 : decode cX6_word 131 = .ok (.ifCond .le 7, 3) := by decide +kernel
theorem dX6_word_134 : decode cX6_word 134 = .ok (.iload_n 1, 1) := by decide +kernel
theorem dX6_word_135 : decode cX6_word 135 = .ok (.goto 4, 3) := by decide +kernel
theorem dX6_word_138 : decode cX6_word 138 = .ok (.iconst (-1), 1) := by decide +kernel
theorem dX6_word_139 : decode cX6_word 139 = .ok (.ireturn, 1) := by decide +kernel
theorem dX6_named_0 : decode cX6_named 0 = .ok (.iload_n 0, 1) := by decide +kernel
theorem dX6_named_1 : decode cX6_named 1 = .ok (.bipush 96, 2) := by decide +kernel
theorem dX6_named_3 : decode cX6_named 3 = .ok (.isub, 1) := by decide +kernel
theorem dX6_named_4 : decode cX6_named 4 = .ok (.bipush 32, 2) := by decide +kernel
theorem dX6_named_6 : decode cX6_named 6 = .ok (.imul, 1) := by decide +kernel
theorem dX6_named_7 : decode cX6_named 7 = .ok (.iload_n 1, 1) := by decide +kernel
theorem dX6_named_8 : decode cX6_named 8 = .ok (.iadd, 1) := by decide +kernel
theorem dX6_named_9 : decode cX6_named 9 = .ok (.bipush 96, 2) := by decide +kernel
theorem dX6_named_11 : decode cX6_named 11 = .ok (.isub, 1) := by decide +kernel
theorem dX6_named_12 : decode cX6_named 12 = .ok (.bipush 32, 2) := by decide +kernel
theorem dX6_named_14 : decode cX6_named 14 = .ok (.imul, 1) := by decide +kernel
theorem dX6_named_15 : decode cX6_named 15 = .ok (.iload_n 2, 1) := by decide +kernel
theorem dX6_named_16 : decode cX6_named 16 = .ok (.iadd, 1) := by decide +kernel
theorem dX6_named_17 : decode cX6_named 17 = .ok (.bipush 96, 2) := by decide +kernel
theorem dX6_named_19 : decode cX6_named 19 = .ok (.isub, 1) := by decide +kernel
theorem dX6_named_20 : decode cX6_named 20 = .ok (.istore 5, 2) := by decide +kernel
theorem dX6_named_22 : decode cX6_named 22 = .ok (.iload_n 3, 1) := by decide +kernel
theorem dX6_named_23 : decode cX6_named 23 = .ok (.ifCond .ne 8, 3) := by decide +kernel
theorem dX6_named_26 : decode cX6_named 26 = .ok (.iload 5, 2) := by decide +kernel
theorem dX6_named_28 : decode cX6_named 28 = .ok (.goto 13, 3) := by decide +kernel
theorem dX6_named_31 : decode cX6_named 31 = .ok (.bipush 32, 2) := by decide +kernel
theorem dX6_named_33 : decode cX6_named 33 = .ok (.iload 5, 2) := by decide +kernel
theorem dX6_named_35 : decode cX6_named 35 = .ok (.imul, 1) := by decide +kernel
theorem dX6_named_36 : decode cX6_named 36 = .ok (.iload_n 3, 1) := by decide +kernel
theorem dX6_named_37 : decode cX6_named 37 = .ok (.iadd, 1) := by decide +kernel
theorem dX6_named_38 : decode cX6_named 38 = .ok (.bipush 96, 2) := by decide +kernel
theorem dX6_named_40 : decode cX6_named 40 = .ok (.isub, 1) := by decide +kernel
theorem dX6_named_41 : decode cX6_named 41 = .ok (.istore 5, 2) := by decide +kernel
theorem dX6_named_43 : decode cX6_named 43 = .ok (.iload 4, 2) := by decide +kernel
theorem dX6_named_45 : decode cX6_named 45 = .ok (.ifCond .ne 8, 3) := by decide +kernel
theorem dX6_named_48 : decode cX6_named 48 = .ok (.iload 5, 2) := by decide +kernel
theorem dX6_named_50 : decode cX6_named 50 = .ok (.goto 14, 3) := by decide +kernel
theorem dX6_named_53 : decode cX6_named 53 = .ok (.bipush 32, 2) := by decide +kernel
theorem dX6_named_55 : decode cX6_named 55 = .ok (.iload 5, 2) := by decide +kernel
theorem dX6_named_57 : decode cX6_named 57 = .ok (.imul, 1) := by decide +kernel
theorem dX6_named_58 : decode cX6_named 58 = .ok (.iload 4, 2) := by decide +kernel
theorem dX6_named_60 : decode cX6_named 60 = .ok (.iadd, 1) := by decide +kernel
theorem dX6_named_61 : decode cX6_named 61 = .ok (.bipush 96, 2) := by decide +kernel
theorem dX6_named_63 : decode cX6_named 63 = .ok (.isub, 1) := by decide +kernel
theorem dX6_named_64 : decode cX6_named 64 = .ok (.ireturn, 1) := by decide +kernel
set_option maxRecDepth 20000 in
theorem ggX6_wants_X6_here : GoodIn wsX6_wants wsX6_here := goodIn_r _ [7, 2, 8, 9, 10, 11, 12, 13, 14, 15, 16, 17, 18, 19] (by decide +kernel) (by decide +kernel)
set_option maxRecDepth 20000 in
theorem gX6_wants_X6_here : GoodIn wsX6_wants (wsV RX6 62 RX6 yX6_here wsX6_here) := goodIn_app (goodIn_of _ (by decide +kernel)) ggX6_wants_X6_here
theorem dX6_wants_0 : decode cX6_wants 0 = .ok (.aload_n 0, 1) := by decide +kernel
theorem dX6_wants_1 : decode cX6_wants 1 = .ok (.getfield 59, 3) := by decide +kernel
theorem dX6_wants_4 : decode cX6_wants 4 = .ok (.ifCond .ne 30, 3) := by decide +kernel
theorem dX6_wants_7 : decode cX6_wants 7 = .ok (.aload_n 0, 1) := by decide +kernel
theorem dX6_wants_8 : decode cX6_wants 8 = .ok (.aload_n 0, 1) := by decide +kernel
theorem dX6_wants_9 : decode cX6_wants 9 = .ok (.invokevirtual 62, 3) := by decide +kernel
theorem dX6_wants_12 : decode cX6_wants 12 = .ok (.iload_n 1, 1) := by decide +kernel
theorem dX6_wants_13 : decode cX6_wants 13 = .ok (.if_icmp .ne 7, 3) := by decide +kernel
theorem dX6_wants_16 : decode cX6_wants 16 = .ok (.iconst 0, 1) := by decide +kernel
theorem dX6_wants_17 : decode cX6_wants 17 = .ok (.goto 4, 3) := by decide +kernel
theorem dX6_wants_20 : decode cX6_wants 20 = .ok (.iconst 2, 1) := by decide +kernel
theorem dX6_wants_21 : decode cX6_wants 21 = .ok (.putfield 59, 3) := by decide +kernel
theorem dX6_wants_24 : decode cX6_wants 24 = .ok (.aload_n 0, 1) := by decide +kernel
theorem dX6_wants_25 : decode cX6_wants 25 = .ok (.dup, 1) := by decide +kernel
theorem dX6_wants_26 : decode cX6_wants 26 = .ok (.getfield 52, 3) := by decide +kernel
theorem dX6_wants_29 : decode cX6_wants 29 = .ok (.iconst 1, 1) := by decide +kernel
theorem dX6_wants_30 : decode cX6_wants 30 = .ok (.iadd, 1) := by decide +kernel
theorem dX6_wants_31 : decode cX6_wants 31 = .ok (.putfield 52, 3) := by decide +kernel
theorem dX6_wants_34 : decode cX6_wants 34 = .ok (.return_, 1) := by decide +kernel
set_option maxRecDepth 20000 in
theorem ggX6_number_X6_wants : GoodIn wsX6_number wsX6_wants := goodIn_r _ [12, 1, 2, 13, 14, 15, 11, 16, 3, 4, 20, 21, 22, 23, 24, 25, 26, 27, 28, 29] (by decide +kernel) (by decide +kernel)
set_option maxRecDepth 20000 in
theorem gX6_number_X6_wants : GoodIn wsX6_number (wsV RX6 66 RX6 yX6_wants wsX6_wants) := goodIn_app (goodIn_of _ (by decide +kernel)) ggX6_number_X6_wants
set_option maxRecDepth 20000 in
theorem ggX6_number_X6_in : GoodIn wsX6_number wsX6_in := goodIn_r _ [19] (by decide +kernel) (by decide +kernel)
set_option maxRecDepth 20000 in
theorem gX6_number_X6_in : GoodIn wsX6_number (va_wsS RX6 44 yX6_in wsX6_in) := goodIn_app (goodIn_of _ (by decide +kernel)) ggX6_number_X6_in
theorem dX6_number_0 : decode cX6_number 0 = .ok (.aload_n 0, 1) := by decide +kernel
theorem dX6_number_1 : decode cX6_number 1 = .ok (.bipush 32, 2) := by decide +kernel
theorem dX6_number_3 : decode cX6_number 3 = .ok (.invokevirtual 66, 3) := by decide +kernel
theorem dX6_number_6 : decode cX6_number 6 = .ok (.iconst 0, 1) := by decide +kernel
theorem dX6_number_7 : decode cX6_number 7 = .ok (.istore_n 1, 1) := by decide +kernel
theorem dX6_number_8 : decode cX6_number 8 = .ok (.iconst 0, 1) := by decide +kernel
theorem dX6_number_9 : decode cX6_number 9 = .ok (.istore_n 2, 1) := by decide +kernel
theorem dX6_number_10 : decode cX6_number 10 = .ok (.aload_n 0, 1) := by decide +kernel
theorem dX6_number_11 : decode cX6_number 11 = .ok (.getfield 59, 3) := by decide +kernel
theorem dX6_number_14 : decode cX6_number 14 = .ok (.ifCond .ne 113, 3) := by decide +kernel
theorem dX6_number_17 : decode cX6_number 17 = .ok (.aload_n 0, 1) := by decide +kernel
theorem dX6_number_18 : decode cX6_number 18 = .ok (.getfield 52, 3) := by decide +kernel
theorem dX6_number_21 : decode cX6_number 21 = .ok (.aload_n 0, 1) := by decide +kernel
theorem dX6_number_22 : decode cX6_number 22 = .ok (.getfield 48, 3) := by decide +kernel
theorem dX6_number_25 : decode cX6_number 25 = .ok (.if_icmp .ge 102, 3) := by decide +kernel
theorem dX6_number_28 : decode cX6_number 28 = .ok (.aload_n 0, 1) := by decide +kernel
theorem dX6_number_29 : decode cX6_number 29 = .ok (.getfield 19, 3) := by decide +kernel
theorem dX6_number_32 : decode cX6_number 32 = .ok (.aload_n 0, 1) := by decide +kernel
theorem dX6_number_33 : decode cX6_number 33 = .ok (.getfield 52, 3) := by decide +kernel
theorem dX6_number_36 : decode cX6_number 36 = .ok (.iaload, 1) := by decide +kernel
theorem dX6_number_37 : decode cX6_number 37 = .ok (.bipush 32, 2) := by decide +kernel
theorem dX6_number_39 : decode cX6_number 39 = .ok (.if_icmp .eq 88, 3) := by decide +kernel
theorem dX6_number_42 : decode cX6_number 42 = .ok (.aload_n 0, 1) := by decide +kernel
theorem dX6_number_43 : decode cX6_number 43 = .ok (.getfield 19, 3) := by decide +kernel
theorem dX6_number_46 : decode cX6_number 46 = .ok (.aload_n 0, 1) := by decide +kernel
theorem dX6_number_47 : decode cX6_number 47 = .ok (.getfield 52, 3) := by decide +kernel
theorem dX6_number_50 : decode cX6_number 50 = .ok (.iaload, 1) := by decide +kernel
theorem dX6_number_51 : decode cX6_number 51 = .ok (.bipush 59, 2) := by decide +kernel
theorem dX6_number_53 : decode cX6_number 53 = .ok (.if_icmp .eq 74, 3) := by decide +kernel
theorem dX6_number_56 : decode cX6_number 56 = .ok (.aload_n 0, 1) := by decide +kernel
theorem dX6_number_57 : decode cX6_number 57 = .ok (.getfield 19, 3) := by decide +kernel
theorem dX6_number_60 : decode cX6_number 60 = .ok (.aload_n 0, 1) := by decide +kernel
theorem dX6_number_61 : decode cX6_number 61 = .ok (.getfield 52, 3) := by decide +kernel
theorem dX6_number_64 : decode cX6_number 64 = .ok (.iaload, 1) := by decide +kernel
theorem dX6_number_65 : decode cX6_number 65 = .ok (.i2l, 1) := by decide +kernel
theorem dX6_number_66 : decode cX6_number 66 = .ok (.ldc2_w 70, 3) := by decide +kernel
theorem dX6_number_69 : decode cX6_number 69 = .ok (.ldc2_w 72, 3) := by decide +kernel
theorem dX6_number_72 : decode cX6_number 72 = .ok (.invokestatic 44, 3) := by decide +kernel
theorem dX6_number_75 : decode cX6_number 75 = .ok (.ifCond .eq 9, 3) := by decide +kernel
theorem dX6_number_78 : decode cX6_number 78 = .ok (.iload_n 2, 1) := by decide +kernel
theorem dX6_number_79 : decode cX6_number 79 = .ok (.iconst 1, 1) := by decide +kernel
theorem dX6_number_80 : decode cX6_number 80 = .ok (.iadd, 1) := by decide +kernel
theorem dX6_number_81 : decode cX6_number 81 = .ok (.goto 5, 3) := by decide +kernel
theorem dX6_number_84 : decode cX6_number 84 = .ok (.bipush 9, 2) := by decide +kernel
theorem dX6_number_86 : decode cX6_number 86 = .ok (.istore_n 2, 1) := by decide +kernel
theorem dX6_number_87 : decode cX6_number 87 = .ok (.iload_n 2, 1) := by decide +kernel
theorem dX6_number_88 : decode cX6_number 88 = .ok (.iconst 4, 1) := by decide +kernel
theorem dX6_number_89 : decode cX6_number 89 = .ok (.if_icmp .ge 23, 3) := by decide +kernel
theorem dX6_number_92 : decode cX6_number 92 = .ok (.bipush 10, 2) := by decide +kernel
theorem dX6_number_94 : decode cX6_number 94 = .ok (.iload_n 1, 1) := by decide +kernel
theorem dX6_number_95 : decode cX6_number 95 = .ok (.imul, 1) := by decide +kernel
theorem dX6_number_96 : decode cX6_number 96 = .ok (.aload_n 0, 1) := by decide +kernel
theorem dX6_number_97 : decode cX6_number 97 = .ok (.getfield 19, 3) := by decide +kernel
theorem dX6_number_100 : decode cX6_number 100 = .ok (.aload_n 0, 1) := by decide +kernel
theorem dX6_number_101 : decode cX6_number 101 = .ok (.getfield 52, 3) := by decide +kernel
theorem dX6_number_104 : decode cX6_number 104 = .ok (.iaload, 1) := by decide +kernel
theorem dX6_number_105 : decode cX6_number 105 = .ok (.iadd, 1) := by decide +kernel
theorem dX6_number_106 : decode cX6_number 106 = .ok (.bipush 48, 2) := by decide +kernel
theorem dX6_number_108 : decode cX6_number 108 = .ok (.isub, 1) := by decide +kernel
theorem dX6_number_109 : decode cX6_number 109 = .ok (.goto 4, 3) := by decide +kernel
theorem dX6_number_112 : decode cX6_number 112 = .ok (.iload_n 1, 1) := by decide +kernel
theorem dX6_number_113 : decode cX6_number 113 = .ok (.istore_n 1, 1) := by decide +kernel
theorem dX6_number_114 : decode cX6_number 114 = .ok (.aload_n 0, 1) := by decide +kernel
theorem dX6_number_115 : decode cX6_number 115 = .ok (.dup, 1) := by decide +kernel
theorem dX6_number_116 : decode cX6_number 116 = .ok (.getfield 52, 3) := by decide +kernel
theorem dX6_number_119 : decode cX6_number 119 = .ok (.iconst 1, 1) := by decide +kernel
theorem dX6_number_120 : decode cX6_number 120 = .ok (.iadd, 1) := by decide +kernel
theorem dX6_number_121 : decode cX6_number 121 = .ok (.putfield 52, 3) := by decide +kernel
theorem dX6_number_124 : decode cX6_number 124 = .ok (.goto (-114), 3) := by decide +kernel
theorem dX6_number_127 : decode cX6_number 127 = .ok (.aload_n 0, 1) := by decide +kernel
theorem dX6_number_128 : decode cX6_number 128 = .ok (.getfield 59, 3) := by decide +kernel
theorem dX6_number_131 : decode cX6_number 131 = .ok (.ifCond .ne 20, 3) := by decide +kernel
theorem dX6_number_134 : decode cX6_number 134 = .ok (.iload_n 2, 1) := by decide +kernel
theorem dX6_number_135 : decode cX6_number 135 = .ok (.i2l, 1) := by decide +kernel
theorem dX6_number_136 : decode cX6_number 136 = .ok (.lconst 1, 1) := by decide +kernel
theorem dX6_number_137 : decode cX6_number 137 = .ok (.ldc2_w 74, 3) := by decide +kernel
theorem dX6_number_140 : decode cX6_number 140 = .ok (.invokestatic 44, 3) := by decide +kernel
theorem dX6_number_143 : decode cX6_number 143 = .ok (.ifCond .ne 8, 3) := by decide +kernel
theorem dX6_number_146 : decode cX6_number 146 = .ok (.aload_n 0, 1) := by decide +kernel
theorem dX6_number_147 : decode cX6_number 147 = .ok (.iconst 2, 1) := by decide +kernel
theorem dX6_number_148 : decode cX6_number 148 = .ok (.putfield 59, 3) := by decide +kernel
theorem dX6_number_151 : decode cX6_number 151 = .ok (.iload_n 1, 1) := by decide +kernel
theorem dX6_number_152 : decode cX6_number 152 = .ok (.ireturn, 1) := by decide +kernel
set_option maxRecDepth 20000 in
theorem ggX6_voice_X6_wants : GoodIn wsX6_voice wsX6_wants := goodIn_r _ [6, 1, 7, 8, 9, 10, 5, 11, 12, 13, 26, 27, 28, 29, 30, 31, 32, 33, 34, 35] (by decide +kernel) (by decide +kernel)
set_option maxRecDepth 20000 in
theorem gX6_voice_X6_wants : GoodIn wsX6_voice (wsV RX6 66 RX6 yX6_wants wsX6_wants) := goodIn_app (goodIn_of _ (by decide +kernel)) ggX6_voice_X6_wants
set_option maxRecDepth 20000 in
theorem ggX6_voice_X6_word : GoodIn wsX6_voice wsX6_word := goodIn_r _ [17, 7, 12, 13, 18, 19, 20, 21, 5, 22, 26, 27, 28, 29, 30, 31, 32, 33, 34, 35] (by decide +kernel) (by decide +kernel)
set_option maxRecDepth 20000 in
theorem gX6_voice_X6_word : GoodIn wsX6_voice (wsV RX6 76 RX6 yX6_word wsX6_word) := goodIn_app (goodIn_of _ (by decide +kernel)) ggX6_voice_X6_word
set_option maxRecDepth 20000 in
theorem ggX6_voice_X6_named : GoodIn wsX6_voice wsX6_named := goodIn_r _ [25] (by decide +kernel) (by decide +kernel)
set_option maxRecDepth 20000 in
theorem gX6_voice_X6_named : GoodIn wsX6_voice (va_wsS RX6 79 yX6_named wsX6_named) := goodIn_app (goodIn_of _ (by decide +kernel)) ggX6_voice_X6_named
theorem dX6_voice_0 : decode cX6_voice 0 = .ok (.aload_n 0, 1) := by decide +kernel
theorem dX6_voice_1 : decode cX6_voice 1 = .ok (.bipush 32, 2) := by decide +kernel
theorem dX6_voice_3 : decode cX6_voice 3 = .ok (.invokevirtual 66, 3) := by decide +kernel
theorem dX6_voice_6 : decode cX6_voice 6 = .ok (.aload_n 0, 1) := by decide +kernel
theorem dX6_voice_7 : decode cX6_voice 7 = .ok (.getfield 59, 3) := by decide +kernel
theorem dX6_voice_10 : decode cX6_voice 10 = .ok (.ifCond .eq 5, 3) := by decide +kernel
theorem dX6_voice_13 : decode cX6_voice 13 = .ok (.iconst 0, 1) := by decide +kernel
theorem dX6_voice_14 : decode cX6_voice 14 = .ok (.ireturn, 1) := by decide +kernel
theorem dX6_voice_15 : decode cX6_voice 15 = .ok (.aload_n 0, 1) := by decide +kernel
theorem dX6_voice_16 : decode cX6_voice 16 = .ok (.invokevirtual 76, 3) := by decide +kernel
theorem dX6_voice_19 : decode cX6_voice 19 = .ok (.istore_n 1, 1) := by decide +kernel
theorem dX6_voice_20 : decode cX6_voice 20 = .ok (.iload_n 1, 1) := by decide +kernel
theorem dX6_voice_21 : decode cX6_voice 21 = .ok (.bipush 108, 2) := by decide +kernel
theorem dX6_voice_23 : decode cX6_voice 23 = .ok (.bipush 111, 2) := by decide +kernel
theorem dX6_voice_25 : decode cX6_voice 25 = .ok (.bipush 119, 2) := by decide +kernel
theorem dX6_voice_27 : decode cX6_voice 27 = .ok (.iconst 0, 1) := by decide +kernel
theorem dX6_voice_28 : decode cX6_voice 28 = .ok (.iconst 0, 1) := by decide +kernel
theorem dX6_voice_29 : decode cX6_voice 29 = .ok (.invokestatic 79, 3) := by decide +kernel
theorem dX6_voice_32 : decode cX6_voice 32 = .ok (.if_icmp .ne 7, 3) := by decide +kernel
theorem dX6_voice_35 : decode cX6_voice 35 = .ok (.iconst 0, 1) := by decide +kernel
theorem dX6_voice_36 : decode cX6_voice 36 = .ok (.goto 45, 3) := by decide +kernel
theorem dX6_voice_39 : decode cX6_voice 39 = .ok (.iload_n 1, 1) := by decide +kernel
theorem dX6_voice_40 : decode cX6_voice 40 = .ok (.bipush 104, 2) := by decide +kernel
theorem dX6_voice_42 : decode cX6_voice 42 = .ok (.bipush 105, 2) := by decide +kernel
theorem dX6_voice_44 : decode cX6_voice 44 = .ok (.bipush 103, 2) := by decide +kernel
theorem dX6_voice_46 : decode cX6_voice 46 = .ok (.bipush 104, 2) := by decide +kernel
theorem dX6_voice_48 : decode cX6_voice 48 = .ok (.iconst 0, 1) := by decide +kernel
theorem dX6_voice_49 : decode cX6_voice 49 = .ok (.invokestatic 79, 3) := by decide +kernel
theorem dX6_voice_52 : decode cX6_voice 52 = .ok (.if_icmp .ne 7, 3) := by decide +kernel
theorem dX6_voice_55 : decode cX6_voice 55 = .ok (.iconst 1, 1) := by decide +kernel
theorem dX6_voice_56 : decode cX6_voice 56 = .ok (.goto 25, 3) := by decide +kernel
theorem dX6_voice_59 : decode cX6_voice 59 = .ok (.iload_n 1, 1) := by decide +kernel
theorem dX6_voice_60 : decode cX6_voice 60 = .ok (.bipush 99, 2) := by decide +kernel
theorem dX6_voice_62 : decode cX6_voice 62 = .ok (.bipush 104, 2) := by decide +kernel
theorem dX6_voice_64 : decode cX6_voice 64 = .ok (.bipush 105, 2) := by decide +kernel
theorem dX6_voice_66 : decode cX6_voice 66 = .ok (.bipush 108, 2) := by decide +kernel
theorem dX6_voice_68 : decode cX6_voice 68 = .ok (.bipush 100, 2) := by decide +kernel
theorem dX6_voice_70 : decode cX6_voice 70 = .ok (.invokestatic 79, 3) := by decide +kernel
theorem dX6_voice_73 : decode cX6_voice 73 = .ok (.if_icmp .ne 7, 3) := by decide +kernel
theorem dX6_voice_76 : decode cX6_voice 76 = .ok (.iconst 2, 1) := by decide +kernel
theorem dX6_voice_77 : decode cX6_voice 77 = .ok (.goto 4, 3) := by decide +kernel
theorem dX6_voice_80 : decode cX6_voice 80 = .ok (.iconst (-1), 1) := by decide +kernel
theorem dX6_voice_81 : decode cX6_voice 81 = .ok (.istore_n 2, 1) := by decide +kernel
theorem dX6_voice_82 : decode cX6_voice 82 = .ok (.aload_n 0, 1) := by decide +kernel
theorem dX6_voice_83 : decode cX6_voice 83 = .ok (.iload_n 2, 1) := by decide +kernel
theorem dX6_voice_84 : decode cX6_voice 84 = .ok (.iconst (-1), 1) := by decide +kernel
theorem dX6_voice_85 : decode cX6_voice 85 = .ok (.if_icmp .ne 7, 3) := by decide +kernel
theorem dX6_voice_88 : decode cX6_voice 88 = .ok (.iconst 1, 1) := by decide +kernel
theorem dX6_voice_89 : decode cX6_voice 89 = .ok (.goto 4, 3) := by decide +kernel
theorem dX6_voice_92 : decode cX6_voice 92 = .ok (.iconst 0, 1) := by decide +kernel
theorem dX6_voice_93 : decode cX6_voice 93 = .ok (.putfield 59, 3) := by decide +kernel
theorem dX6_voice_96 : decode cX6_voice 96 = .ok (.iload_n 2, 1) := by decide +kernel
theorem dX6_voice_97 : decode cX6_voice 97 = .ok (.ireturn, 1) := by decide +kernel
theorem dX6_checked_0 : decode cX6_checked 0 = .ok (.aload_n 0, 1) := by decide +kernel
theorem dX6_checked_1 : decode cX6_checked 1 = .ok (.getfield 59, 3) := by decide +kernel
theorem dX6_checked_4 : decode cX6_checked 4 = .ok (.ifCond .ne 24, 3) := by decide +kernel
theorem dX6_checked_7 : decode cX6_checked 7 = .ok (.aload_n 0, 1) := by decide +kernel
theorem dX6_checked_8 : decode cX6_checked 8 = .ok (.iload_n 1, 1) := by decide +kernel
theorem dX6_checked_9 : decode cX6_checked 9 = .ok (.ifCond .ne 7, 3) := by decide +kernel
theorem dX6_checked_12 : decode cX6_checked 12 = .ok (.iconst 3, 1) := by decide +kernel
theorem dX6_checked_13 : decode cX6_checked 13 = .ok (.goto 12, 3) := by decide +kernel
theorem dX6_checked_16 : decode cX6_checked 16 = .ok (.iload_n 2, 1) := by decide +kernel
theorem dX6_checked_17 : decode cX6_checked 17 = .ok (.ifCond .ne 7, 3) := by decide +kernel
theorem dX6_checked_20 : decode cX6_checked 20 = .ok (.iconst 4, 1) := by decide +kernel
theorem dX6_checked_21 : decode cX6_checked 21 = .ok (.goto 4, 3) := by decide +kernel
theorem dX6_checked_24 : decode cX6_checked 24 = .ok (.iconst 0, 1) := by decide +kernel
theorem dX6_checked_25 : decode cX6_checked 25 = .ok (.putfield 59, 3) := by decide +kernel
theorem dX6_checked_28 : decode cX6_checked 28 = .ok (.return_, 1) := by decide +kernel
set_option maxRecDepth 20000 in
theorem ggX6_statement_X6_word : GoodIn wsX6_statement wsX6_word := goodIn_r _ [8, 9, 10, 11, 12, 13, 14, 15, 7, 16, 49, 50, 51, 52, 53, 54, 55, 56, 57, 58] (by decide +kernel) (by decide +kernel)
set_option maxRecDepth 20000 in
theorem gX6_statement_X6_word : GoodIn wsX6_statement (wsV RX6 76 RX6 yX6_word wsX6_word) := goodIn_app (goodIn_of _ (by decide +kernel)) ggX6_statement_X6_word
set_option maxRecDepth 20000 in
theorem ggX6_statement_X6_named : GoodIn wsX6_statement wsX6_named := goodIn_r _ [19] (by decide +kernel) (by decide +kernel)
set_option maxRecDepth 20000 in
theorem gX6_statement_X6_named : GoodIn wsX6_statement (va_wsS RX6 79 yX6_named wsX6_named) := goodIn_app (goodIn_of _ (by decide +kernel)) ggX6_statement_X6_named
set_option maxRecDepth 20000 in
theorem ggX6_statement_X6_number : GoodIn wsX6_statement wsX6_number := goodIn_r _ [23, 3, 9, 10, 11, 24, 25, 26, 27, 28, 29, 7, 30, 31, 32, 33, 34, 14, 15, 16, 49, 50, 51, 52, 53, 54, 55, 56, 57, 58] (by decide +kernel) (by decide +kernel)
set_option maxRecDepth 20000 in
theorem gX6_statement_X6_number : GoodIn wsX6_statement (wsV RX6 83 RX6 yX6_number wsX6_number) := goodIn_app (goodIn_of _ (by decide +kernel)) ggX6_statement_X6_number
set_option maxRecDepth 20000 in
theorem ggX6_statement_X6_wants : GoodIn wsX6_statement wsX6_wants := goodIn_r _ [30, 3, 9, 31, 32, 33, 7, 34, 10, 11, 49, 50, 51, 52, 53, 54, 55, 56, 57, 58] (by decide +kernel) (by decide +kernel)
set_option maxRecDepth 20000 in
theorem gX6_statement_X6_wants : GoodIn wsX6_statement (wsV RX6 66 RX6 yX6_wants wsX6_wants) := goodIn_app (goodIn_of _ (by decide +kernel)) ggX6_statement_X6_wants
set_option maxRecDepth 20000 in
theorem ggX6_statement_X6_in : GoodIn wsX6_statement wsX6_in := goodIn_r _ [16] (by decide +kernel) (by decide +kernel)
set_option maxRecDepth 20000 in
theorem gX6_statement_X6_in : GoodIn wsX6_statement (va_wsS RX6 44 yX6_in wsX6_in) := goodIn_app (goodIn_of _ (by decide +kernel)) ggX6_statement_X6_in
set_option maxRecDepth 20000 in
theorem ggX6_statement_X6_checked : GoodIn wsX6_statement wsX6_checked := goodIn_r _ [38, 3, 49, 50, 51, 52, 53, 54, 55, 56, 57, 58] (by decide +kernel) (by decide +kernel)
set_option maxRecDepth 20000 in
theorem gX6_statement_X6_checked : GoodIn wsX6_statement (wsV RX6 88 RX6 yX6_checked wsX6_checked) := goodIn_app (goodIn_of _ (by decide +kernel)) ggX6_statement_X6_checked
set_option maxRecDepth 20000 in
theorem ggX6_statement_X6_voice : GoodIn wsX6_statement wsX6_voice := goodIn_r _ [42, 3, 27, 28, 29, 7, 30, 9, 31, 32, 33, 34, 10, 11, 4, 5, 6, 8, 12, 13, 14, 15, 16, 17, 18, 19, 49, 50, 51, 52, 53, 54, 55, 56, 57, 58] (by decide +kernel) (by decide +kernel)
set_option maxRecDepth 20000 in
theorem gX6_statement_X6_voice : GoodIn wsX6_statement (wsV RX6 92 RX6 yX6_voice wsX6_voice) := goodIn_app (goodIn_of _ (by decide +kernel)) ggX6_statement_X6_voice
set_option maxRecDepth 20000 in
theorem ggX6_statement_X6_role : GoodIn wsX6_statement wsX6_role := goodIn_r _ [45] (by decide +kernel) (by decide +kernel)
set_option maxRecDepth 20000 in
theorem gX6_statement_X6_role : GoodIn wsX6_statement (va_wsS RX6 32 yX6_role wsX6_role) := goodIn_app (goodIn_of _ (by decide +kernel)) ggX6_statement_X6_role
set_option maxRecDepth 20000 in
theorem ggX6_statement_X6_appear : GoodIn wsX6_statement wsX6_appear := goodIn_r _ [48] (by decide +kernel) (by decide +kernel)
set_option maxRecDepth 20000 in
theorem gX6_statement_X6_appear : GoodIn wsX6_statement (va_wsS RX6 36 yX6_appear wsX6_appear) := goodIn_app (goodIn_of _ (by decide +kernel)) ggX6_statement_X6_appear
theorem dX6_statement_0 : decode cX6_statement 0 = .ok (.aload_n 0, 1) := by decide +kernel
theorem dX6_statement_1 : decode cX6_statement 1 = .ok (.invokevirtual 76, 3) := by decide +kernel
theorem dX6_statement_4 : decode cX6_statement 4 = .ok (.istore_n 1, 1) := by decide +kernel
theorem dX6_statement_5 : decode cX6_statement 5 = .ok (.iload_n 1, 1) := by decide +kernel
theorem dX6_statement_6 : decode cX6_statement 6 = .ok (.bipush 115, 2) := by decide +kernel
theorem dX6_statement_8 : decode cX6_statement 8 = .ok (.bipush 99, 2) := by decide +kernel
theorem dX6_statement_10 : decode cX6_statement 10 = .ok (.bipush 101, 2) := by decide +kernel
theorem dX6_statement_12 : decode cX6_statement 12 = .ok (.bipush 110, 2) := by decide +kernel
theorem dX6_statement_14 : decode cX6_statement 14 = .ok (.bipush 101, 2) := by decide +kernel
theorem dX6_statement_16 : decode cX6_statement 16 = .ok (.invokestatic 79, 3) := by decide +kernel
theorem dX6_statement_19 : decode cX6_statement 19 = .ok (.if_icmp .ne 77, 3) := by decide +kernel
theorem dX6_statement_22 : decode cX6_statement 22 = .ok (.aload_n 0, 1) := by decide +kernel
theorem dX6_statement_23 : decode cX6_statement 23 = .ok (.invokevirtual 83, 3) := by decide +kernel
theorem dX6_statement_26 : decode cX6_statement 26 = .ok (.istore_n 2, 1) := by decide +kernel
theorem dX6_statement_27 : decode cX6_statement 27 = .ok (.aload_n 0, 1) := by decide +kernel
theorem dX6_statement_28 : decode cX6_statement 28 = .ok (.bipush 59, 2) := by decide +kernel
theorem dX6_statement_30 : decode cX6_statement 30 = .ok (.invokevirtual 66, 3) := by decide +kernel
theorem dX6_statement_33 : decode cX6_statement 33 = .ok (.aload_n 0, 1) := by decide +kernel
theorem dX6_statement_34 : decode cX6_statement 34 = .ok (.iload_n 2, 1) := by decide +kernel
theorem dX6_statement_35 : decode cX6_statement 35 = .ok (.i2l, 1) := by decide +kernel
theorem dX6_statement_36 : decode cX6_statement 36 = .ok (.lconst 1, 1) := by decide +kernel
theorem dX6_statement_37 : decode cX6_statement 37 = .ok (.ldc2_w 86, 3) := by decide +kernel
theorem dX6_statement_40 : decode cX6_statement 40 = .ok (.invokestatic 44, 3) := by decide +kernel
theorem dX6_statement_43 : decode cX6_statement 43 = .ok (.aload_n 0, 1) := by decide +kernel
theorem dX6_statement_44 : decode cX6_statement 44 = .ok (.getfield 13, 3) := by decide +kernel
theorem dX6_statement_47 : decode cX6_statement 47 = .ok (.iconst 0, 1) := by decide +kernel
theorem dX6_statement_48 : decode cX6_statement 48 = .ok (.iaload, 1) := by decide +kernel
theorem dX6_statement_49 : decode cX6_statement 49 = .ok (.bipush 10, 2) := by decide +kernel
theorem dX6_statement_51 : decode cX6_statement 51 = .ok (.if_icmp .ge 7, 3) := by decide +kernel
theorem dX6_statement_54 : decode cX6_statement 54 = .ok (.iconst 1, 1) := by decide +kernel
theorem dX6_statement_55 : decode cX6_statement 55 = .ok (.goto 4, 3) := by decide +kernel
theorem dX6_statement_58 : decode cX6_statement 58 = .ok (.iconst 0, 1) := by decide +kernel
theorem dX6_statement_59 : decode cX6_statement 59 = .ok (.invokevirtual 88, 3) := by decide +kernel
theorem dX6_statement_62 : decode cX6_statement 62 = .ok (.aload_n 0, 1) := by decide +kernel
theorem dX6_statement_63 : decode cX6_statement 63 = .ok (.getfield 59, 3) := by decide +kernel
theorem dX6_statement_66 : decode cX6_statement 66 = .ok (.ifCond .ne 27, 3) := by decide +kernel
theorem dX6_statement_69 : decode cX6_statement 69 = .ok (.aload_n 0, 1) := by decide +kernel
theorem dX6_statement_70 : decode cX6_statement 70 = .ok (.getfield 13, 3) := by decide +kernel
theorem dX6_statement_73 : decode cX6_statement 73 = .ok (.iconst 1, 1) := by decide +kernel
theorem dX6_statement_74 : decode cX6_statement 74 = .ok (.aload_n 0, 1) := by decide +kernel
theorem dX6_statement_75 : decode cX6_statement 75 = .ok (.getfield 13, 3) := by decide +kernel
theorem dX6_statement_78 : decode cX6_statement 78 = .ok (.iconst 0, 1) := by decide +kernel
theorem dX6_statement_79 : decode cX6_statement 79 = .ok (.iaload, 1) := by decide +kernel
theorem dX6_statement_80 : decode cX6_statement 80 = .ok (.iadd, 1) := by decide +kernel
theorem dX6_statement_81 : decode cX6_statement 81 = .ok (.iload_n 2, 1) := by decide +kernel
theorem dX6_statement_82 : decode cX6_statement 82 = .ok (.iastore, 1) := by decide +kernel
theorem dX6_statement_83 : decode cX6_statement 83 = .ok (.aload_n 0, 1) := by decide +kernel
theorem dX6_statement_84 : decode cX6_statement 84 = .ok (.getfield 13, 3) := by decide +kernel
theorem dX6_statement_87 : decode cX6_statement 87 = .ok (.iconst 0, 1) := by decide +kernel
theorem dX6_statement_88 : decode cX6_statement 88 = .ok (.dup2, 1) := by decide +kernel
theorem dX6_statement_89 : decode cX6_statement 89 = .ok (.iaload, 1) := by decide +kernel
theorem dX6_statement_90 : decode cX6_statement 90 = .ok (.iconst 1, 1) := by decide +kernel
theorem dX6_statement_91 : decode cX6_statement 91 = .ok (.iadd, 1) := by decide +kernel
theorem dX6_statement_92 : decode cX6_statement 92 = .ok (.iastore, 1) := by decide +kernel
theorem dX6_statement_93 : decode cX6_statement 93 = .ok (.goto 251, 3) := by decide +kernel
theorem dX6_statement_96 : decode cX6_statement 96 = .ok (.iload_n 1, 1) := by decide +kernel
theorem dX6_statement_97 : decode cX6_statement 97 = .ok (.bipush 114, 2) := by decide +kernel
theorem dX6_statement_99 : decode cX6_statement 99 = .ok (.bipush 111, 2) := by decide +kernel
theorem dX6_statement_101 : decode cX6_statement 101 = .ok (.bipush 108, 2) := by decide +kernel
theorem dX6_statement_103 : decode cX6_statement 103 = .ok (.bipush 101, 2) := by decide +kernel
theorem dX6_statement_105 : decode cX6_statement 105 = .ok (.iconst 0, 1) := by decide +kernel
theorem dX6_statement_106 : decode cX6_statement 106 = .ok (.invokestatic 79, 3) := by decide +kernel
theorem dX6_statement_109 : decode cX6_statement 109 = .ok (.if_icmp .ne 85, 3) := by decide +kernel
theorem dX6_statement_112 : decode cX6_statement 112 = .ok (.aload_n 0, 1) := by decide +kernel
theorem dX6_statement_113 : decode cX6_statement 113 = .ok (.invokevirtual 92, 3) := by decide +kernel
theorem dX6_statement_116 : decode cX6_statement 116 = .ok (.istore_n 2, 1) := by decide +kernel
theorem dX6_statement_117 : decode cX6_statement 117 = .ok (.aload_n 0, 1) := by decide +kernel
theorem dX6_statement_118 : decode cX6_statement 118 = .ok (.invokevirtual 83, 3) := by decide +kernel
theorem dX6_statement_121 : decode cX6_statement 121 = .ok (.istore_n 3, 1) := by decide +kernel
theorem dX6_statement_122 : decode cX6_statement 122 = .ok (.aload_n 0, 1) := by decide +kernel
theorem dX6_statement_123 : decode cX6_statement 123 = .ok (.invokevirtual 83, 3) := by decide +kernel
theorem dX6_statement_126 : decode cX6_statement 126 = .ok (.istore 4, 2) := by decide +kernel
theorem dX6_statement_128 : decode cX6_statement 128 = .ok (.aload_n 0, 1) := by decide +kernel
theorem dX6_statement_129 : decode cX6_statement 129 = .ok (.bipush 59, 2) := by decide +kernel
theorem dX6_statement_131 : decode cX6_statement 131 = .ok (.invokevirtual 66, 3) := by decide +kernel
theorem dX6_statement_134 : decode cX6_statement 134 = .ok (.aload_n 0, 1) := by decide +kernel
theorem dX6_statement_135 : decode cX6_statement 135 = .ok (.iload_n 3, 1) := by decide +kernel
theorem dX6_statement_136 : decode cX6_statement 136 = .ok (.bipush 60, 2) := by decide +kernel
theorem dX6_statement_138 : decode cX6_statement 138 = .ok (.if_icmp .gt 14, 3) := by decide +kernel
theorem dX6_statement_141 : decode cX6_statement 141 = .ok (.iload 4, 2) := by decide +kernel
theorem dX6_statement_143 : decode cX6_statement 143 = .ok (.bipush 60, 2) := by decide +kernel
theorem dX6_statement_145 : decode cX6_statement 145 = .ok (.if_icmp .gt 7, 3) := by decide +kernel
theorem dX6_statement_148 : decode cX6_statement 148 = .ok (.iconst 1, 1) := by decide +kernel
theorem dX6_statement_149 : decode cX6_statement 149 = .ok (.goto 4, 3) := by decide +kernel
theorem dX6_statement_152 : decode cX6_statement 152 = .ok (.iconst 0, 1) := by decide +kernel
theorem dX6_statement_153 : decode cX6_statement 153 = .ok (.aload_n 0, 1) := by decide +kernel
theorem dX6_statement_154 : decode cX6_statement 154 = .ok (.getfield 13, 3) := by decide +kernel
theorem dX6_statement_157 : decode cX6_statement 157 = .ok (.bipush 11, 2) := by decide +kernel
theorem dX6_statement_159 : decode cX6_statement 159 = .ok (.iaload, 1) := by decide +kernel
theorem dX6_statement_160 : decode cX6_statement 160 = .ok (.bipush 8, 2) := by decide +kernel
theorem dX6_statement_162 : decode cX6_statement 162 = .ok (.if_icmp .ge 7, 3) := by decide +kernel
theorem dX6_statement_165 : decode cX6_statement 165 = .ok (.iconst 1, 1) := by decide +kernel
theorem dX6_statement_166 : decode cX6_statement 166 = .ok (.goto 4, 3) := by decide +kernel
theorem dX6_statement_169 : decode cX6_statement 169 = .ok (.iconst 0, 1) := by decide +kernel
theorem dX6_statement_170 : decode cX6_statement 170 = .ok (.invokevirtual 88, 3) := by decide +kernel
theorem dX6_statement_173 : decode cX6_statement 173 = .ok (.aload_n 0, 1) := by decide +kernel
theorem dX6_statement_174 : decode cX6_statement 174 = .ok (.getfield 59, 3) := by decide +kernel
theorem dX6_statement_177 : decode cX6_statement 177 = .ok (.ifCond .ne 14, 3) := by decide +kernel
theorem dX6_statement_180 : decode cX6_statement 180 = .ok (.aload_n 0, 1) := by decide +kernel
theorem dX6_statement_181 : decode cX6_statement 181 = .ok (.getfield 13, 3) := by decide +kernel
theorem dX6_statement_184 : decode cX6_statement 184 = .ok (.iload_n 2, 1) := by decide +kernel
theorem dX6_statement_185 : decode cX6_statement 185 = .ok (.iload_n 3, 1) := by decide +kernel
theorem dX6_statement_186 : decode cX6_statement 186 = .ok (.iload 4, 2) := by decide +kernel
theorem dX6_statement_188 : decode cX6_statement 188 = .ok (.invokestatic 32, 3) := by decide +kernel
theorem dX6_statement_191 : decode cX6_statement 191 = .ok (.goto 153, 3) := by decide +kernel
theorem dX6_statement_194 : decode cX6_statement 194 = .ok (.iload_n 1, 1) := by decide +kernel
theorem dX6_statement_195 : decode cX6_statement 195 = .ok (.bipush 101, 2) := by decide +kernel
theorem dX6_statement_197 : decode cX6_statement 197 = .ok (.bipush 110, 2) := by decide +kernel
theorem dX6_statement_199 : decode cX6_statement 199 = .ok (.bipush 116, 2) := by decide +kernel
theorem dX6_statement_201 : decode cX6_statement 201 = .ok (.bipush 101, 2) := by decide +kernel
theorem dX6_statement_203 : decode cX6_statement 203 = .ok (.bipush 114, 2) := by decide +kernel
theorem dX6_statement_205 : decode cX6_statement 205 = .ok (.invokestatic 79, 3) := by decide +kernel
theorem dX6_statement_208 : decode cX6_statement 208 = .ok (.if_icmp .ne 131, 3) := by decide +kernel
theorem dX6_statement_211 : decode cX6_statement 211 = .ok (.aload_n 0, 1) := by decide +kernel
theorem dX6_statement_212 : decode cX6_statement 212 = .ok (.invokevirtual 83, 3) := by decide +kernel
theorem dX6_statement_215 : decode cX6_statement 215 = .ok (.istore_n 2, 1) := by decide +kernel
theorem dX6_statement_216 : decode cX6_statement 216 = .ok (.aload_n 0, 1) := by decide +kernel
theorem dX6_statement_217 : decode cX6_statement 217 = .ok (.invokevirtual 83, 3) := by decide +kernel
theorem dX6_statement_220 : decode cX6_statement 220 = .ok (.istore_n 3, 1) := by decide +kernel
theorem dX6_statement_221 : decode cX6_statement 221 = .ok (.aload_n 0, 1) := by decide +kernel
theorem dX6_statement_222 : decode cX6_statement 222 = .ok (.invokevirtual 83, 3) := by decide +kernel
theorem dX6_statement_225 : decode cX6_statement 225 = .ok (.istore 4, 2) := by decide +kernel
theorem dX6_statement_227 : decode cX6_statement 227 = .ok (.aload_n 0, 1) := by decide +kernel
theorem dX6_statement_228 : decode cX6_statement 228 = .ok (.invokevirtual 83, 3) := by decide +kernel
theorem dX6_statement_231 : decode cX6_statement 231 = .ok (.istore 5, 2) := by decide +kernel
theorem dX6_statement_233 : decode cX6_statement 233 = .ok (.aload_n 0, 1) := by decide +kernel
theorem dX6_statement_234 : decode cX6_statement 234 = .ok (.bipush 59, 2) := by decide +kernel
theorem dX6_statement_236 : decode cX6_statement 236 = .ok (.invokevirtual 66, 3) := by decide +kernel
theorem dX6_statement_239 : decode cX6_statement 239 = .ok (.aload_n 0, 1) := by decide +kernel
theorem dX6_statement_240 : decode cX6_statement 240 = .ok (.iload_n 2, 1) := by decide +kernel
theorem dX6_statement_241 : decode cX6_statement 241 = .ok (.aload_n 0, 1) := by decide +kernel
theorem dX6_statement_242 : decode cX6_statement 242 = .ok (.getfield 13, 3) := by decide +kernel
theorem dX6_statement_245 : decode cX6_statement 245 = .ok (.bipush 11, 2) := by decide +kernel
theorem dX6_statement_247 : decode cX6_statement 247 = .ok (.iaload, 1) := by decide +kernel
theorem dX6_statement_248 : decode cX6_statement 248 = .ok (.if_icmp .ge 47, 3) := by decide +kernel
theorem dX6_statement_251 : decode cX6_statement 251 = .ok (.iload_n 3, 1) := by decide +kernel
theorem dX6_statement_252 : decode cX6_statement 252 = .ok (.aload_n 0, 1) := by decide +kernel
theorem dX6_statement_253 : decode cX6_statement 253 = .ok (.getfield 13, 3) := by decide +kernel
theorem dX6_statement_256 : decode cX6_statement 256 = .ok (.iconst 0, 1) := by decide +kernel
theorem dX6_statement_257 : decode cX6_statement 257 = .ok (.iaload, 1) := by decide +kernel
theorem dX6_statement_258 : decode cX6_statement 258 = .ok (.if_icmp .ge 37, 3) := by decide +kernel
theorem dX6_statement_261 : decode cX6_statement 261 = .ok (.iload 4, 2) := by decide +kernel
theorem dX6_statement_263 : decode cX6_statement 263 = .ok (.iload 5, 2) := by decide +kernel
theorem dX6_statement_265 : decode cX6_statement 265 = .ok (.if_icmp .ge 30, 3) := by decide +kernel
theorem dX6_statement_268 : decode cX6_statement 268 = .ok (.iload 5, 2) := by decide +kernel
theorem dX6_statement_270 : decode cX6_statement 270 = .ok (.aload_n 0, 1) := by decide +kernel
theorem dX6_statement_271 : decode cX6_statement 271 = .ok (.getfield 13, 3) := by decide +kernel
theorem dX6_statement_274 : decode cX6_statement 274 = .ok (.iconst 1, 1) := by decide +kernel
theorem dX6_statement_275 : decode cX6_statement 275 = .ok (.iload_n 3, 1) := by decide +kernel
theorem dX6_statement_276 : decode cX6_statement 276 = .ok (.bipush 10, 2) := by decide +kernel
theorem dX6_statement_278 : decode cX6_statement 278 = .ok (.if_icmp .ge 7, 3) := by decide +kernel
theorem dX6_statement_281 : decode cX6_statement 281 = .ok (.iload_n 3, 1) := by decide +kernel
theorem dX6_statement_282 : decode cX6_statement 282 = .ok (.goto 4, 3) := by decide +kernel
theorem dX6_statement_285 : decode cX6_statement 285 = .ok (.iconst 0, 1) := by decide +kernel
theorem dX6_statement_286 : decode cX6_statement 286 = .ok (.iadd, 1) := by decide +kernel
theorem dX6_statement_287 : decode cX6_statement 287 = .ok (.iaload, 1) := by decide +kernel
theorem dX6_statement_288 : decode cX6_statement 288 = .ok (.if_icmp .gt 7, 3) := by decide +kernel
theorem dX6_statement_291 : decode cX6_statement 291 = .ok (.iconst 1, 1) := by decide +kernel
theorem dX6_statement_292 : decode cX6_statement 292 = .ok (.goto 4, 3) := by decide +kernel
theorem dX6_statement_295 : decode cX6_statement 295 = .ok (.iconst 0, 1) := by decide +kernel
theorem dX6_statement_296 : decode cX6_statement 296 = .ok (.aload_n 0, 1) := by decide +kernel
theorem dX6_statement_297 : decode cX6_statement 297 = .ok (.getfield 13, 3) := by decide +kernel
theorem dX6_statement_300 : decode cX6_statement 300 = .ok (.bipush 44, 2) := by decide +kernel
theorem dX6_statement_302 : decode cX6_statement 302 = .ok (.iaload, 1) := by decide +kernel
theorem dX6_statement_303 : decode cX6_statement 303 = .ok (.bipush 20, 2) := by decide +kernel
theorem dX6_statement_305 : decode cX6_statement 305 = .ok (.if_icmp .ge 7, 3) := by decide +kernel
theorem dX6_statement_308 : decode cX6_statement 308 = .ok (.iconst 1, 1) := by decide +kernel
theorem dX6_statement_309 : decode cX6_statement 309 = .ok (.goto 4, 3) := by decide +kernel
theorem dX6_statement_312 : decode cX6_statement 312 = .ok (.iconst 0, 1) := by decide +kernel
theorem dX6_statement_313 : decode cX6_statement 313 = .ok (.invokevirtual 88, 3) := by decide +kernel
theorem dX6_statement_316 : decode cX6_statement 316 = .ok (.aload_n 0, 1) := by decide +kernel
theorem dX6_statement_317 : decode cX6_statement 317 = .ok (.getfield 59, 3) := by decide +kernel
theorem dX6_statement_320 : decode cX6_statement 320 = .ok (.ifCond .ne 16, 3) := by decide +kernel
theorem dX6_statement_323 : decode cX6_statement 323 = .ok (.aload_n 0, 1) := by decide +kernel
theorem dX6_statement_324 : decode cX6_statement 324 = .ok (.getfield 13, 3) := by decide +kernel
theorem dX6_statement_327 : decode cX6_statement 327 = .ok (.iload_n 2, 1) := by decide +kernel
theorem dX6_statement_328 : decode cX6_statement 328 = .ok (.iload_n 3, 1) := by decide +kernel
theorem dX6_statement_329 : decode cX6_statement 329 = .ok (.iload 4, 2) := by decide +kernel
theorem dX6_statement_331 : decode cX6_statement 331 = .ok (.iload 5, 2) := by decide +kernel
theorem dX6_statement_333 : decode cX6_statement 333 = .ok (.invokestatic 36, 3) := by decide +kernel
theorem dX6_statement_336 : decode cX6_statement 336 = .ok (.goto 8, 3) := by decide +kernel
theorem dX6_statement_339 : decode cX6_statement 339 = .ok (.aload_n 0, 1) := by decide +kernel
theorem dX6_statement_340 : decode cX6_statement 340 = .ok (.iconst 1, 1) := by decide +kernel
theorem dX6_statement_341 : decode cX6_statement 341 = .ok (.putfield 59, 3) := by decide +kernel
theorem dX6_statement_344 : decode cX6_statement 344 = .ok (.return_, 1) := by decide +kernel
set_option maxRecDepth 20000 in
theorem ggX6_readAll_X6_empty : GoodIn wsX6_readAll wsX6_empty := goodIn_r _ [8] (by decide +kernel) (by decide +kernel)
set_option maxRecDepth 20000 in
theorem gX6_readAll_X6_empty : GoodIn wsX6_readAll (va_wsS RX6 28 yX6_empty wsX6_empty) := goodIn_app (goodIn_of _ (by decide +kernel)) ggX6_readAll_X6_empty
set_option maxRecDepth 20000 in
theorem ggX6_readAll_X6_statement : GoodIn wsX6_readAll wsX6_statement := goodIn_r _ [12, 13, 1, 3, 14, 15, 16, 7, 17, 2, 4, 18, 19, 20, 21, 22, 23, 24, 25, 26, 27, 28, 29, 30, 31, 32, 33, 34, 35, 36, 37, 38, 39, 40, 41, 42, 43, 44, 45, 46, 47, 48, 49, 50, 51, 52, 53, 54, 55, 56, 57, 58, 59, 60, 61, 62, 63, 64, 65] (by decide +kernel) (by decide +kernel)
set_option maxRecDepth 20000 in
theorem gX6_readAll_X6_statement : GoodIn wsX6_readAll (wsV RX6 95 RX6 yX6_statement wsX6_statement) := goodIn_app (goodIn_of _ (by decide +kernel)) ggX6_readAll_X6_statement
theorem dX6_readAll_0 : decode cX6_readAll 0 = .ok (.aload_n 0, 1) := by decide +kernel
theorem dX6_readAll_1 : decode cX6_readAll 1 = .ok (.getfield 13, 3) := by decide +kernel
theorem dX6_readAll_4 : decode cX6_readAll 4 = .ok (.invokestatic 28, 3) := by decide +kernel
theorem dX6_readAll_7 : decode cX6_readAll 7 = .ok (.aload_n 0, 1) := by decide +kernel
theorem dX6_readAll_8 : decode cX6_readAll 8 = .ok (.iconst 0, 1) := by decide +kernel
theorem dX6_readAll_9 : decode cX6_readAll 9 = .ok (.putfield 52, 3) := by decide +kernel
theorem dX6_readAll_12 : decode cX6_readAll 12 = .ok (.aload_n 0, 1) := by decide +kernel
theorem dX6_readAll_13 : decode cX6_readAll 13 = .ok (.iconst 0, 1) := by decide +kernel
theorem dX6_readAll_14 : decode cX6_readAll 14 = .ok (.putfield 59, 3) := by decide +kernel
theorem dX6_readAll_17 : decode cX6_readAll 17 = .ok (.aload_n 0, 1) := by decide +kernel
theorem dX6_readAll_18 : decode cX6_readAll 18 = .ok (.getfield 52, 3) := by decide +kernel
theorem dX6_readAll_21 : decode cX6_readAll 21 = .ok (.aload_n 0, 1) := by decide +kernel
theorem dX6_readAll_22 : decode cX6_readAll 22 = .ok (.getfield 48, 3) := by decide +kernel
theorem dX6_readAll_25 : decode cX6_readAll 25 = .ok (.if_icmp .ge 24, 3) := by decide +kernel
theorem dX6_readAll_28 : decode cX6_readAll 28 = .ok (.aload_n 0, 1) := by decide +kernel
theorem dX6_readAll_29 : decode cX6_readAll 29 = .ok (.getfield 52, 3) := by decide +kernel
theorem dX6_readAll_32 : decode cX6_readAll 32 = .ok (.istore_n 1, 1) := by decide +kernel
theorem dX6_readAll_33 : decode cX6_readAll 33 = .ok (.aload_n 0, 1) := by decide +kernel
theorem dX6_readAll_34 : decode cX6_readAll 34 = .ok (.invokevirtual 95, 3) := by decide +kernel
theorem dX6_readAll_37 : decode cX6_readAll 37 = .ok (.aload_n 0, 1) := by decide +kernel
theorem dX6_readAll_38 : decode cX6_readAll 38 = .ok (.getfield 59, 3) := by decide +kernel
theorem dX6_readAll_41 : decode cX6_readAll 41 = .ok (.ifCond .eq 5, 3) := by decide +kernel
theorem dX6_readAll_44 : decode cX6_readAll 44 = .ok (.iload_n 1, 1) := by decide +kernel
theorem dX6_readAll_45 : decode cX6_readAll 45 = .ok (.ireturn, 1) := by decide +kernel
theorem dX6_readAll_46 : decode cX6_readAll 46 = .ok (.goto (-29), 3) := by decide +kernel
theorem dX6_readAll_49 : decode cX6_readAll 49 = .ok (.sipush (-1004), 3) := by decide +kernel
theorem dX6_readAll_52 : decode cX6_readAll 52 = .ok (.ireturn, 1) := by decide +kernel
set_option maxRecDepth 20000 in
theorem ggX6_firstError_X6_readAll : GoodIn wsX6_firstError wsX6_readAll := goodIn_r _ [5, 6, 7, 8, 9, 10, 11, 4, 12, 13, 14, 15, 16, 17, 18, 19, 20, 21, 22, 23, 24, 25, 26, 27, 28, 29, 30, 31, 32, 33, 34, 35, 36, 37, 38, 39, 40, 41, 42, 43, 44, 45, 46, 47, 48, 49, 50, 51, 52, 53, 54, 55, 56, 57, 58, 59, 60, 61, 62, 63, 64, 65, 66, 67, 68, 69] (by decide +kernel) (by decide +kernel)
set_option maxRecDepth 20000 in
theorem gX6_firstError_X6_readAll : GoodIn wsX6_firstError (wsV RX6 98 RX6 yX6_readAll wsX6_readAll) := goodIn_app (goodIn_of _ (by decide +kernel)) ggX6_firstError_X6_readAll
theorem dX6_firstError_0 : decode cX6_firstError 0 = .ok (.aload_n 0, 1) := by decide +kernel
theorem dX6_firstError_1 : decode cX6_firstError 1 = .ok (.invokevirtual 98, 3) := by decide +kernel
theorem dX6_firstError_4 : decode cX6_firstError 4 = .ok (.ireturn, 1) := by decide +kernel
set_option maxRecDepth 20000 in
theorem ggX6_errorReason_X6_readAll : GoodIn wsX6_errorReason wsX6_readAll := goodIn_r _ [6, 7, 8, 1, 9, 10, 11, 5, 12, 13, 14, 15, 16, 17, 18, 19, 20, 21, 22, 23, 24, 25, 26, 27, 28, 29, 30, 31, 32, 33, 34, 35, 36, 37, 38, 39, 40, 41, 42, 43, 44, 45, 46, 47, 48, 49, 50, 51, 52, 53, 54, 55, 56, 57, 58, 59, 60, 61, 62, 63, 64, 65, 66, 67, 68, 69] (by decide +kernel) (by decide +kernel)
set_option maxRecDepth 20000 in
theorem gX6_errorReason_X6_readAll : GoodIn wsX6_errorReason (wsV RX6 98 RX6 yX6_readAll wsX6_readAll) := goodIn_app (goodIn_of _ (by decide +kernel)) ggX6_errorReason_X6_readAll
theorem dX6_errorReason_0 : decode cX6_errorReason 0 = .ok (.aload_n 0, 1) := by decide +kernel
theorem dX6_errorReason_1 : decode cX6_errorReason 1 = .ok (.invokevirtual 98, 3) := by decide +kernel
theorem dX6_errorReason_4 : decode cX6_errorReason 4 = .ok (.sipush (-1004), 3) := by decide +kernel
theorem dX6_errorReason_7 : decode cX6_errorReason 7 = .ok (.if_icmp .ne 9, 3) := by decide +kernel
theorem dX6_errorReason_10 : decode cX6_errorReason 10 = .ok (.sipush (-1004), 3) := by decide +kernel
theorem dX6_errorReason_13 : decode cX6_errorReason 13 = .ok (.goto 7, 3) := by decide +kernel
theorem dX6_errorReason_16 : decode cX6_errorReason 16 = .ok (.aload_n 0, 1) := by decide +kernel
theorem dX6_errorReason_17 : decode cX6_errorReason 17 = .ok (.getfield 59, 3) := by decide +kernel
theorem dX6_errorReason_20 : decode cX6_errorReason 20 = .ok (.ireturn, 1) := by decide +kernel
set_option maxRecDepth 20000 in
theorem ggX6_configure_X6_readAll : GoodIn wsX6_configure wsX6_readAll := goodIn_r _ [8, 1, 9, 10, 11, 12, 13, 7, 14, 15, 16, 17, 18, 19, 20, 21, 22, 23, 24, 25, 26, 27, 28, 29, 30, 31, 32, 33, 34, 35, 36, 37, 38, 39, 40, 41, 42, 43, 44, 45, 46, 47, 48, 49, 50, 51, 52, 53, 54, 55, 56, 57, 58, 59, 60, 61, 62, 63, 64, 65, 66, 67, 68, 69, 70, 71] (by decide +kernel) (by decide +kernel)
set_option maxRecDepth 20000 in
theorem gX6_configure_X6_readAll : GoodIn wsX6_configure (wsV RX6 98 RX6 yX6_readAll wsX6_readAll) := goodIn_app (goodIn_of _ (by decide +kernel)) ggX6_configure_X6_readAll
theorem dX6_configure_0 : decode cX6_configure 0 = .ok (.aload_n 0, 1) := by decide +kernel
theorem dX6_configure_1 : decode cX6_configure 1 = .ok (.invokevirtual 98, 3) := by decide +kernel
theorem dX6_configure_4 : decode cX6_configure 4 = .ok (.sipush (-1004), 3) := by decide +kernel
theorem dX6_configure_7 : decode cX6_configure 7 = .ok (.if_icmp .ne 22, 3) := by decide +kernel
theorem dX6_configure_10 : decode cX6_configure 10 = .ok (.aload_n 0, 1) := by decide +kernel
theorem dX6_configure_11 : decode cX6_configure 11 = .ok (.getfield 13, 3) := by decide +kernel
theorem dX6_configure_14 : decode cX6_configure 14 = .ok (.iconst 0, 1) := by decide +kernel
theorem dX6_configure_15 : decode cX6_configure 15 = .ok (.iaload, 1) := by decide +kernel
theorem dX6_configure_16 : decode cX6_configure 16 = .ok (.ifCond .eq 13, 3) := by decide +kernel
theorem dX6_configure_19 : decode cX6_configure 19 = .ok (.aload_n 0, 1) := by decide +kernel
theorem dX6_configure_20 : decode cX6_configure 20 = .ok (.getfield 13, 3) := by decide +kernel
theorem dX6_configure_23 : decode cX6_configure 23 = .ok (.bipush 11, 2) := by decide +kernel
theorem dX6_configure_25 : decode cX6_configure 25 = .ok (.iaload, 1) := by decide +kernel
theorem dX6_configure_26 : decode cX6_configure 26 = .ok (.ifCond .ne 7, 3) := by decide +kernel
theorem dX6_configure_29 : decode cX6_configure 29 = .ok (.sipush (-1002), 3) := by decide +kernel
theorem dX6_configure_32 : decode cX6_configure 32 = .ok (.ireturn, 1) := by decide +kernel
theorem dX6_configure_33 : decode cX6_configure 33 = .ok (.iconst 0, 1) := by decide +kernel
theorem dX6_configure_34 : decode cX6_configure 34 = .ok (.istore_n 1, 1) := by decide +kernel
theorem dX6_configure_35 : decode cX6_configure 35 = .ok (.iload_n 1, 1) := by decide +kernel
theorem dX6_configure_36 : decode cX6_configure 36 = .ok (.bipush 125, 2) := by decide +kernel
theorem dX6_configure_38 : decode cX6_configure 38 = .ok (.if_icmp .ge 21, 3) := by decide +kernel
theorem dX6_configure_41 : decode cX6_configure 41 = .ok (.aload_n 0, 1) := by decide +kernel
theorem dX6_configure_42 : decode cX6_configure 42 = .ok (.getfield 7, 3) := by decide +kernel
theorem dX6_configure_45 : decode cX6_configure 45 = .ok (.iload_n 1, 1) := by decide +kernel
theorem dX6_configure_46 : decode cX6_configure 46 = .ok (.aload_n 0, 1) := by decide +kernel
theorem dX6_configure_47 : decode cX6_configure 47 = .ok (.getfield 13, 3) := by decide +kernel
theorem dX6_configure_50 : decode cX6_configure 50 = .ok (.iload_n 1, 1) := by decide +kernel
theorem dX6_configure_51 : decode cX6_configure 51 = .ok (.iaload, 1) := by decide +kernel
theorem dX6_configure_52 : decode cX6_configure 52 = .ok (.iastore, 1) := by decide +kernel
theorem dX6_configure_53 : decode cX6_configure 53 = .ok (.iinc 1 1, 3) := by decide +kernel
theorem dX6_configure_56 : decode cX6_configure 56 = .ok (.goto (-21), 3) := by decide +kernel
theorem dX6_configure_59 : decode cX6_configure 59 = .ok (.aload_n 0, 1) := by decide +kernel
theorem dX6_configure_60 : decode cX6_configure 60 = .ok (.iconst 0, 1) := by decide +kernel
theorem dX6_configure_61 : decode cX6_configure 61 = .ok (.putfield 101, 3) := by decide +kernel
theorem dX6_configure_64 : decode cX6_configure 64 = .ok (.aload_n 0, 1) := by decide +kernel
theorem dX6_configure_65 : decode cX6_configure 65 = .ok (.getfield 7, 3) := by decide +kernel
theorem dX6_configure_68 : decode cX6_configure 68 = .ok (.bipush 11, 2) := by decide +kernel
theorem dX6_configure_70 : decode cX6_configure 70 = .ok (.iaload, 1) := by decide +kernel
theorem dX6_configure_71 : decode cX6_configure 71 = .ok (.ireturn, 1) := by decide +kernel
theorem dX6_keeps_0 : decode cX6_keeps 0 = .ok (.aload_n 0, 1) := by decide +kernel
theorem dX6_keeps_1 : decode cX6_keeps 1 = .ok (.getfield 101, 3) := by decide +kernel
theorem dX6_keeps_4 : decode cX6_keeps 4 = .ok (.iconst 5, 1) := by decide +kernel
theorem dX6_keeps_5 : decode cX6_keeps 5 = .ok (.if_icmp .ne 43, 3) := by decide +kernel
theorem dX6_keeps_8 : decode cX6_keeps 8 = .ok (.iconst 0, 1) := by decide +kernel
theorem dX6_keeps_9 : decode cX6_keeps 9 = .ok (.istore_n 1, 1) := by decide +kernel
theorem dX6_keeps_10 : decode cX6_keeps 10 = .ok (.iload_n 1, 1) := by decide +kernel
theorem dX6_keeps_11 : decode cX6_keeps 11 = .ok (.sipush 500, 3) := by decide +kernel
theorem dX6_keeps_14 : decode cX6_keeps 14 = .ok (.if_icmp .ge 24, 3) := by decide +kernel
theorem dX6_keeps_17 : decode cX6_keeps 17 = .ok (.aload_n 0, 1) := by decide +kernel
theorem dX6_keeps_18 : decode cX6_keeps 18 = .ok (.getfield 16, 3) := by decide +kernel
theorem dX6_keeps_21 : decode cX6_keeps 21 = .ok (.iload_n 1, 1) := by decide +kernel
theorem dX6_keeps_22 : decode cX6_keeps 22 = .ok (.aload_n 0, 1) := by decide +kernel
theorem dX6_keeps_23 : decode cX6_keeps 23 = .ok (.getfield 16, 3) := by decide +kernel
theorem dX6_keeps_26 : decode cX6_keeps 26 = .ok (.bipush 125, 2) := by decide +kernel
theorem dX6_keeps_28 : decode cX6_keeps 28 = .ok (.iload_n 1, 1) := by decide +kernel
theorem dX6_keeps_29 : decode cX6_keeps 29 = .ok (.iadd, 1) := by decide +kernel
theorem dX6_keeps_30 : decode cX6_keeps 30 = .ok (.iaload, 1) := by decide +kernel
theorem dX6_keeps_31 : decode cX6_keeps 31 = .ok (.iastore, 1) := by decide +kernel
theorem dX6_keeps_32 : decode cX6_keeps 32 = .ok (.iinc 1 1, 3) := by decide +kernel
theorem dX6_keeps_35 : decode cX6_keeps 35 = .ok (.goto (-25), 3) := by decide +kernel
theorem dX6_keeps_38 : decode cX6_keeps 38 = .ok (.aload_n 0, 1) := by decide +kernel
theorem dX6_keeps_39 : decode cX6_keeps 39 = .ok (.dup, 1) := by decide +kernel
theorem dX6_keeps_40 : decode cX6_keeps 40 = .ok (.getfield 101, 3) := by decide +kernel
theorem dX6_keeps_43 : decode cX6_keeps 43 = .ok (.iconst 1, 1) := by decide +kernel
theorem dX6_keeps_44 : decode cX6_keeps 44 = .ok (.isub, 1) := by decide +kernel
theorem dX6_keeps_45 : decode cX6_keeps 45 = .ok (.putfield 101, 3) := by decide +kernel
theorem dX6_keeps_48 : decode cX6_keeps 48 = .ok (.iconst 0, 1) := by decide +kernel
theorem dX6_keeps_49 : decode cX6_keeps 49 = .ok (.istore_n 1, 1) := by decide +kernel
theorem dX6_keeps_50 : decode cX6_keeps 50 = .ok (.iload_n 1, 1) := by decide +kernel
theorem dX6_keeps_51 : decode cX6_keeps 51 = .ok (.bipush 125, 2) := by decide +kernel
theorem dX6_keeps_53 : decode cX6_keeps 53 = .ok (.if_icmp .ge 29, 3) := by decide +kernel
theorem dX6_keeps_56 : decode cX6_keeps 56 = .ok (.aload_n 0, 1) := by decide +kernel
theorem dX6_keeps_57 : decode cX6_keeps 57 = .ok (.getfield 16, 3) := by decide +kernel
theorem dX6_keeps_60 : decode cX6_keeps 60 = .ok (.bipush 125, 2) := by decide +kernel
theorem dX6_keeps_62 : decode cX6_keeps 62 = .ok (.aload_n 0, 1) := by decide +kernel
theorem dX6_keeps_63 : decode cX6_keeps 63 = .ok (.getfield 101, 3) := by decide +kernel
theorem dX6_keeps_66 : decode cX6_keeps 66 = .ok (.imul, 1) := by decide +kernel
theorem dX6_keeps_67 : decode cX6_keeps 67 = .ok (.iload_n 1, 1) := by decide +kernel
theorem dX6_keeps_68 : decode cX6_keeps 68 = .ok (.iadd, 1) := by decide +kernel
theorem dX6_keeps_69 : decode cX6_keeps 69 = .ok (.aload_n 0, 1) := by decide +kernel
theorem dX6_keeps_70 : decode cX6_keeps 70 = .ok (.getfield 7, 3) := by decide +kernel
theorem dX6_keeps_73 : decode cX6_keeps 73 = .ok (.iload_n 1, 1) := by decide +kernel
theorem dX6_keeps_74 : decode cX6_keeps 74 = .ok (.iaload, 1) := by decide +kernel
theorem dX6_keeps_75 : decode cX6_keeps 75 = .ok (.iastore, 1) := by decide +kernel
theorem dX6_keeps_76 : decode cX6_keeps 76 = .ok (.iinc 1 1, 3) := by decide +kernel
theorem dX6_keeps_79 : decode cX6_keeps 79 = .ok (.goto (-29), 3) := by decide +kernel
theorem dX6_keeps_82 : decode cX6_keeps 82 = .ok (.aload_n 0, 1) := by decide +kernel
theorem dX6_keeps_83 : decode cX6_keeps 83 = .ok (.dup, 1) := by decide +kernel
theorem dX6_keeps_84 : decode cX6_keeps 84 = .ok (.getfield 101, 3) := by decide +kernel
theorem dX6_keeps_87 : decode cX6_keeps 87 = .ok (.iconst 1, 1) := by decide +kernel
theorem dX6_keeps_88 : decode cX6_keeps 88 = .ok (.iadd, 1) := by decide +kernel
theorem dX6_keeps_89 : decode cX6_keeps 89 = .ok (.putfield 101, 3) := by decide +kernel
theorem dX6_keeps_92 : decode cX6_keeps 92 = .ok (.return_, 1) := by decide +kernel
theorem dX6_undo_0 : decode cX6_undo 0 = .ok (.aload_n 0, 1) := by decide +kernel
theorem dX6_undo_1 : decode cX6_undo 1 = .ok (.getfield 101, 3) := by decide +kernel
theorem dX6_undo_4 : decode cX6_undo 4 = .ok (.ifCond .ne 7, 3) := by decide +kernel
theorem dX6_undo_7 : decode cX6_undo 7 = .ok (.sipush (-1002), 3) := by decide +kernel
theorem dX6_undo_10 : decode cX6_undo 10 = .ok (.ireturn, 1) := by decide +kernel
theorem dX6_undo_11 : decode cX6_undo 11 = .ok (.aload_n 0, 1) := by decide +kernel
theorem dX6_undo_12 : decode cX6_undo 12 = .ok (.dup, 1) := by decide +kernel
theorem dX6_undo_13 : decode cX6_undo 13 = .ok (.getfield 101, 3) := by decide +kernel
theorem dX6_undo_16 : decode cX6_undo 16 = .ok (.iconst 1, 1) := by decide +kernel
theorem dX6_undo_17 : decode cX6_undo 17 = .ok (.isub, 1) := by decide +kernel
theorem dX6_undo_18 : decode cX6_undo 18 = .ok (.putfield 101, 3) := by decide +kernel
theorem dX6_undo_21 : decode cX6_undo 21 = .ok (.iconst 0, 1) := by decide +kernel
theorem dX6_undo_22 : decode cX6_undo 22 = .ok (.istore_n 1, 1) := by decide +kernel
theorem dX6_undo_23 : decode cX6_undo 23 = .ok (.iload_n 1, 1) := by decide +kernel
theorem dX6_undo_24 : decode cX6_undo 24 = .ok (.bipush 125, 2) := by decide +kernel
theorem dX6_undo_26 : decode cX6_undo 26 = .ok (.if_icmp .ge 29, 3) := by decide +kernel
theorem dX6_undo_29 : decode cX6_undo 29 = .ok (.aload_n 0, 1) := by decide +kernel
theorem dX6_undo_30 : decode cX6_undo 30 = .ok (.getfield 7, 3) := by decide +kernel
theorem dX6_undo_33 : decode cX6_undo 33 = .ok (.iload_n 1, 1) := by decide +kernel
theorem dX6_undo_34 : decode cX6_undo 34 = .ok (.aload_n 0, 1) := by decide +kernel
theorem dX6_undo_35 : decode cX6_undo 35 = .ok (.getfield 16, 3) := by decide +kernel
theorem dX6_undo_38 : decode cX6_undo 38 = .ok (.bipush 125, 2) := by decide +kernel
theorem dX6_undo_40 : decode cX6_undo 40 = .ok (.aload_n 0, 1) := by decide +kernel
theorem dX6_undo_41 : decode cX6_undo 41 = .ok (.getfield 101, 3) := by decide +kernel
theorem dX6_undo_44 : decode cX6_undo 44 = .ok (.imul, 1) := by decide +kernel
theorem dX6_undo_45 : decode cX6_undo 45 = .ok (.iload_n 1, 1) := by decide +kernel
theorem dX6_undo_46 : decode cX6_undo 46 = .ok (.iadd, 1) := by decide +kernel
theorem dX6_undo_47 : decode cX6_undo 47 = .ok (.iaload, 1) := by decide +kernel
theorem dX6_undo_48 : decode cX6_undo 48 = .ok (.iastore, 1) := by decide +kernel
theorem dX6_undo_49 : decode cX6_undo 49 = .ok (.iinc 1 1, 3) := by decide +kernel
theorem dX6_undo_52 : decode cX6_undo 52 = .ok (.goto (-29), 3) := by decide +kernel
theorem dX6_undo_55 : decode cX6_undo 55 = .ok (.aload_n 0, 1) := by decide +kernel
theorem dX6_undo_56 : decode cX6_undo 56 = .ok (.getfield 101, 3) := by decide +kernel
theorem dX6_undo_59 : decode cX6_undo 59 = .ok (.ireturn, 1) := by decide +kernel
set_option maxRecDepth 20000 in
theorem ggX6_isRole_X6_in : GoodIn wsX6_isRole wsX6_in := goodIn_r _ [5] (by decide +kernel) (by decide +kernel)
set_option maxRecDepth 20000 in
theorem gX6_isRole_X6_in : GoodIn wsX6_isRole (va_wsS RX6 44 yX6_in wsX6_in) := goodIn_app (goodIn_of _ (by decide +kernel)) ggX6_isRole_X6_in
theorem dX6_isRole_0 : decode cX6_isRole 0 = .ok (.iload_n 1, 1) := by decide +kernel
theorem dX6_isRole_1 : decode cX6_isRole 1 = .ok (.i2l, 1) := by decide +kernel
theorem dX6_isRole_2 : decode cX6_isRole 2 = .ok (.lconst 0, 1) := by decide +kernel
theorem dX6_isRole_3 : decode cX6_isRole 3 = .ok (.aload_n 0, 1) := by decide +kernel
theorem dX6_isRole_4 : decode cX6_isRole 4 = .ok (.getfield 7, 3) := by decide +kernel
theorem dX6_isRole_7 : decode cX6_isRole 7 = .ok (.bipush 11, 2) := by decide +kernel
theorem dX6_isRole_9 : decode cX6_isRole 9 = .ok (.iaload, 1) := by decide +kernel
theorem dX6_isRole_10 : decode cX6_isRole 10 = .ok (.iconst 1, 1) := by decide +kernel
theorem dX6_isRole_11 : decode cX6_isRole 11 = .ok (.isub, 1) := by decide +kernel
theorem dX6_isRole_12 : decode cX6_isRole 12 = .ok (.i2l, 1) := by decide +kernel
theorem dX6_isRole_13 : decode cX6_isRole 13 = .ok (.invokestatic 44, 3) := by decide +kernel
theorem dX6_isRole_16 : decode cX6_isRole 16 = .ok (.ireturn, 1) := by decide +kernel
set_option maxRecDepth 20000 in
theorem ggX6_isScene_X6_in : GoodIn wsX6_isScene wsX6_in := goodIn_r _ [5] (by decide +kernel) (by decide +kernel)
set_option maxRecDepth 20000 in
theorem gX6_isScene_X6_in : GoodIn wsX6_isScene (va_wsS RX6 44 yX6_in wsX6_in) := goodIn_app (goodIn_of _ (by decide +kernel)) ggX6_isScene_X6_in
theorem dX6_isScene_0 : decode cX6_isScene 0 = .ok (.iload_n 1, 1) := by decide +kernel
theorem dX6_isScene_1 : decode cX6_isScene 1 = .ok (.i2l, 1) := by decide +kernel
theorem dX6_isScene_2 : decode cX6_isScene 2 = .ok (.lconst 0, 1) := by decide +kernel
theorem dX6_isScene_3 : decode cX6_isScene 3 = .ok (.aload_n 0, 1) := by decide +kernel
theorem dX6_isScene_4 : decode cX6_isScene 4 = .ok (.getfield 7, 3) := by decide +kernel
theorem dX6_isScene_7 : decode cX6_isScene 7 = .ok (.iconst 0, 1) := by decide +kernel
theorem dX6_isScene_8 : decode cX6_isScene 8 = .ok (.iaload, 1) := by decide +kernel
theorem dX6_isScene_9 : decode cX6_isScene 9 = .ok (.iconst 1, 1) := by decide +kernel
theorem dX6_isScene_10 : decode cX6_isScene 10 = .ok (.isub, 1) := by decide +kernel
theorem dX6_isScene_11 : decode cX6_isScene 11 = .ok (.i2l, 1) := by decide +kernel
theorem dX6_isScene_12 : decode cX6_isScene 12 = .ok (.invokestatic 44, 3) := by decide +kernel
theorem dX6_isScene_15 : decode cX6_isScene 15 = .ok (.ireturn, 1) := by decide +kernel
set_option maxRecDepth 20000 in
theorem ggX6_isActor_X6_in : GoodIn wsX6_isActor wsX6_in := goodIn_r _ [5] (by decide +kernel) (by decide +kernel)
set_option maxRecDepth 20000 in
theorem gX6_isActor_X6_in : GoodIn wsX6_isActor (va_wsS RX6 44 yX6_in wsX6_in) := goodIn_app (goodIn_of _ (by decide +kernel)) ggX6_isActor_X6_in
theorem dX6_isActor_0 : decode cX6_isActor 0 = .ok (.iload_n 0, 1) := by decide +kernel
theorem dX6_isActor_1 : decode cX6_isActor 1 = .ok (.i2l, 1) := by decide +kernel
theorem dX6_isActor_2 : decode cX6_isActor 2 = .ok (.lconst 0, 1) := by decide +kernel
theorem dX6_isActor_3 : decode cX6_isActor 3 = .ok (.ldc2_w 104, 3) := by decide +kernel
theorem dX6_isActor_6 : decode cX6_isActor 6 = .ok (.invokestatic 44, 3) := by decide +kernel
theorem dX6_isActor_9 : decode cX6_isActor 9 = .ok (.ireturn, 1) := by decide +kernel
set_option maxRecDepth 20000 in
theorem ggX6_repairs_X6_layConflicts : GoodIn wsX6_repairs wsX6_layConflicts := goodIn_r _ [7, 1, 2, 8, 9, 10, 6, 11, 12, 13, 14, 15, 16, 17, 18, 19, 20, 21, 22, 23, 24, 25, 26, 27, 28, 29, 30, 31, 32, 33, 34, 35, 36, 37, 38, 39, 40, 41, 42, 43, 44, 45, 46, 47, 48, 49, 50] (by decide +kernel) (by decide +kernel)
set_option maxRecDepth 20000 in
theorem gX6_repairs_X6_layConflicts : GoodIn wsX6_repairs (wsV RX6 106 RX6 yX6_layConflicts wsX6_layConflicts) := goodIn_app (goodIn_of _ (by decide +kernel)) ggX6_repairs_X6_layConflicts
theorem dX6_repairs_0 : decode cX6_repairs 0 = .ok (.aload_n 0, 1) := by decide +kernel
theorem dX6_repairs_1 : decode cX6_repairs 1 = .ok (.iconst 0, 1) := by decide +kernel
theorem dX6_repairs_2 : decode cX6_repairs 2 = .ok (.invokevirtual 106, 3) := by decide +kernel
theorem dX6_repairs_5 : decode cX6_repairs 5 = .ok (.iconst 0, 1) := by decide +kernel
theorem dX6_repairs_6 : decode cX6_repairs 6 = .ok (.istore_n 1, 1) := by decide +kernel
theorem dX6_repairs_7 : decode cX6_repairs 7 = .ok (.iconst 1, 1) := by decide +kernel
theorem dX6_repairs_8 : decode cX6_repairs 8 = .ok (.istore_n 2, 1) := by decide +kernel
theorem dX6_repairs_9 : decode cX6_repairs 9 = .ok (.iload_n 2, 1) := by decide +kernel
theorem dX6_repairs_10 : decode cX6_repairs 10 = .ok (.aload_n 0, 1) := by decide +kernel
theorem dX6_repairs_11 : decode cX6_repairs 11 = .ok (.getfield 7, 3) := by decide +kernel
theorem dX6_repairs_14 : decode cX6_repairs 14 = .ok (.bipush 11, 2) := by decide +kernel
theorem dX6_repairs_16 : decode cX6_repairs 16 = .ok (.iaload, 1) := by decide +kernel
theorem dX6_repairs_17 : decode cX6_repairs 17 = .ok (.if_icmp .ge 102, 3) := by decide +kernel
theorem dX6_repairs_20 : decode cX6_repairs 20 = .ok (.iconst 1, 1) := by decide +kernel
theorem dX6_repairs_21 : decode cX6_repairs 21 = .ok (.istore_n 3, 1) := by decide +kernel
theorem dX6_repairs_22 : decode cX6_repairs 22 = .ok (.iconst 0, 1) := by decide +kernel
theorem dX6_repairs_23 : decode cX6_repairs 23 = .ok (.istore 4, 2) := by decide +kernel
theorem dX6_repairs_25 : decode cX6_repairs 25 = .ok (.iload 4, 2) := by decide +kernel
theorem dX6_repairs_27 : decode cX6_repairs 27 = .ok (.iload_n 2, 1) := by decide +kernel
theorem dX6_repairs_28 : decode cX6_repairs 28 = .ok (.if_icmp .ge 68, 3) := by decide +kernel
theorem dX6_repairs_31 : decode cX6_repairs 31 = .ok (.iload_n 3, 1) := by decide +kernel
theorem dX6_repairs_32 : decode cX6_repairs 32 = .ok (.ifCond .eq 56, 3) := by decide +kernel
theorem dX6_repairs_35 : decode cX6_repairs 35 = .ok (.aload_n 0, 1) := by decide +kernel
theorem dX6_repairs_36 : decode cX6_repairs 36 = .ok (.getfield 7, 3) := by decide +kernel
theorem dX6_repairs_39 : decode cX6_repairs 39 = .ok (.bipush 36, 2) := by decide +kernel
theorem dX6_repairs_41 : decode cX6_repairs 41 = .ok (.iload_n 2, 1) := by decide +kernel
theorem dX6_repairs_42 : decode cX6_repairs 42 = .ok (.iadd, 1) := by decide +kernel
theorem dX6_repairs_43 : decode cX6_repairs 43 = .ok (.iaload, 1) := by decide +kernel
theorem dX6_repairs_44 : decode cX6_repairs 44 = .ok (.iconst (-1), 1) := by decide +kernel
theorem dX6_repairs_45 : decode cX6_repairs 45 = .ok (.if_icmp .eq 39, 3) := by decide +kernel
theorem dX6_repairs_48 : decode cX6_repairs 48 = .ok (.aload_n 0, 1) := by decide +kernel
theorem dX6_repairs_49 : decode cX6_repairs 49 = .ok (.getfield 7, 3) := by decide +kernel
theorem dX6_repairs_52 : decode cX6_repairs 52 = .ok (.bipush 36, 2) := by decide +kernel
theorem dX6_repairs_54 : decode cX6_repairs 54 = .ok (.iload 4, 2) := by decide +kernel
theorem dX6_repairs_56 : decode cX6_repairs 56 = .ok (.iadd, 1) := by decide +kernel
theorem dX6_repairs_57 : decode cX6_repairs 57 = .ok (.iaload, 1) := by decide +kernel
theorem dX6_repairs_58 : decode cX6_repairs 58 = .ok (.aload_n 0, 1) := by decide +kernel
theorem dX6_repairs_59 : decode cX6_repairs 59 = .ok (.getfield 7, 3) := by decide +kernel
theorem dX6_repairs_62 : decode cX6_repairs 62 = .ok (.bipush 36, 2) := by decide +kernel
theorem dX6_repairs_64 : decode cX6_repairs 64 = .ok (.iload_n 2, 1) := by decide +kernel
theorem dX6_repairs_65 : decode cX6_repairs 65 = .ok (.iadd, 1) := by decide +kernel
theorem dX6_repairs_66 : decode cX6_repairs 66 = .ok (.iaload, 1) := by decide +kernel
theorem dX6_repairs_67 : decode cX6_repairs 67 = .ok (.if_icmp .ne 17, 3) := by decide +kernel
theorem dX6_repairs_70 : decode cX6_repairs 70 = .ok (.aload_n 0, 1) := by decide +kernel
theorem dX6_repairs_71 : decode cX6_repairs 71 = .ok (.getfield 22, 3) := by decide +kernel
theorem dX6_repairs_74 : decode cX6_repairs 74 = .ok (.iload_n 2, 1) := by decide +kernel
theorem dX6_repairs_75 : decode cX6_repairs 75 = .ok (.iaload, 1) := by decide +kernel
theorem dX6_repairs_76 : decode cX6_repairs 76 = .ok (.iload 4, 2) := by decide +kernel
theorem dX6_repairs_78 : decode cX6_repairs 78 = .ok (.ishr, 1) := by decide +kernel
theorem dX6_repairs_79 : decode cX6_repairs 79 = .ok (.iconst 1, 1) := by decide +kernel
theorem dX6_repairs_80 : decode cX6_repairs 80 = .ok (.iand, 1) := by decide +kernel
theorem dX6_repairs_81 : decode cX6_repairs 81 = .ok (.ifCond .ne 7, 3) := by decide +kernel
theorem dX6_repairs_84 : decode cX6_repairs 84 = .ok (.iconst 1, 1) := by decide +kernel
theorem dX6_repairs_85 : decode cX6_repairs 85 = .ok (.goto 4, 3) := by decide +kernel
theorem dX6_repairs_88 : decode cX6_repairs 88 = .ok (.iconst 0, 1) := by decide +kernel
theorem dX6_repairs_89 : decode cX6_repairs 89 = .ok (.istore_n 3, 1) := by decide +kernel
theorem dX6_repairs_90 : decode cX6_repairs 90 = .ok (.iinc 4 1, 3) := by decide +kernel
theorem dX6_repairs_93 : decode cX6_repairs 93 = .ok (.goto (-68), 3) := by decide +kernel
theorem dX6_repairs_96 : decode cX6_repairs 96 = .ok (.iload_n 3, 1) := by decide +kernel
theorem dX6_repairs_97 : decode cX6_repairs 97 = .ok (.ifCond .ne 16, 3) := by decide +kernel
theorem dX6_repairs_100 : decode cX6_repairs 100 = .ok (.aload_n 0, 1) := by decide +kernel
theorem dX6_repairs_101 : decode cX6_repairs 101 = .ok (.getfield 7, 3) := by decide +kernel
theorem dX6_repairs_104 : decode cX6_repairs 104 = .ok (.bipush 36, 2) := by decide +kernel
theorem dX6_repairs_106 : decode cX6_repairs 106 = .ok (.iload_n 2, 1) := by decide +kernel
theorem dX6_repairs_107 : decode cX6_repairs 107 = .ok (.iadd, 1) := by decide +kernel
theorem dX6_repairs_108 : decode cX6_repairs 108 = .ok (.iconst (-1), 1) := by decide +kernel
theorem dX6_repairs_109 : decode cX6_repairs 109 = .ok (.iastore, 1) := by decide +kernel
theorem dX6_repairs_110 : decode cX6_repairs 110 = .ok (.iinc 1 1, 3) := by decide +kernel
theorem dX6_repairs_113 : decode cX6_repairs 113 = .ok (.iinc 2 1, 3) := by decide +kernel
theorem dX6_repairs_116 : decode cX6_repairs 116 = .ok (.goto (-107), 3) := by decide +kernel
theorem dX6_repairs_119 : decode cX6_repairs 119 = .ok (.iload_n 1, 1) := by decide +kernel
theorem dX6_repairs_120 : decode cX6_repairs 120 = .ok (.ireturn, 1) := by decide +kernel
set_option maxRecDepth 20000 in
theorem ggX6_addAppearance_X6_isRole : GoodIn wsX6_addAppearance wsX6_isRole := goodIn_r _ [6, 1, 7, 8, 5, 9, 65, 66, 67, 68, 69, 70, 71, 72, 73, 74] (by decide +kernel) (by decide +kernel)
set_option maxRecDepth 20000 in
theorem gX6_addAppearance_X6_isRole : GoodIn wsX6_addAppearance (wsV RX6 109 RX6 yX6_isRole wsX6_isRole) := goodIn_app (goodIn_of _ (by decide +kernel)) ggX6_addAppearance_X6_isRole
set_option maxRecDepth 20000 in
theorem ggX6_addAppearance_X6_isScene : GoodIn wsX6_addAppearance wsX6_isScene := goodIn_r _ [13, 1, 7, 8, 5, 9, 65, 66, 67, 68, 69, 70, 71, 72, 73, 74] (by decide +kernel) (by decide +kernel)
set_option maxRecDepth 20000 in
theorem gX6_addAppearance_X6_isScene : GoodIn wsX6_addAppearance (wsV RX6 113 RX6 yX6_isScene wsX6_isScene) := goodIn_app (goodIn_of _ (by decide +kernel)) ggX6_addAppearance_X6_isScene
set_option maxRecDepth 20000 in
theorem ggX6_addAppearance_X6_keeps : GoodIn wsX6_addAppearance wsX6_keeps := goodIn_r _ [17, 18, 19, 1, 65, 66, 67, 68, 69, 70, 71, 72, 73, 74] (by decide +kernel) (by decide +kernel)
set_option maxRecDepth 20000 in
theorem gX6_addAppearance_X6_keeps : GoodIn wsX6_addAppearance (wsV RX6 116 RX6 yX6_keeps wsX6_keeps) := goodIn_app (goodIn_of _ (by decide +kernel)) ggX6_addAppearance_X6_keeps
set_option maxRecDepth 20000 in
theorem ggX6_addAppearance_X6_appear : GoodIn wsX6_addAppearance wsX6_appear := goodIn_r _ [22] (by decide +kernel) (by decide +kernel)
set_option maxRecDepth 20000 in
theorem gX6_addAppearance_X6_appear : GoodIn wsX6_addAppearance (va_wsS RX6 36 yX6_appear wsX6_appear) := goodIn_app (goodIn_of _ (by decide +kernel)) ggX6_addAppearance_X6_appear
set_option maxRecDepth 20000 in
theorem ggX6_addAppearance_X6_repairs : GoodIn wsX6_addAppearance wsX6_repairs := goodIn_r _ [26, 1, 27, 28, 29, 30, 5, 31, 32, 33, 34, 35, 36, 37, 38, 39, 40, 41, 42, 43, 44, 45, 46, 47, 48, 49, 50, 51, 52, 53, 54, 55, 56, 57, 58, 59, 60, 61, 62, 63, 64, 65, 66, 67, 68, 69, 70, 71, 72, 73, 74] (by decide +kernel) (by decide +kernel)
set_option maxRecDepth 20000 in
theorem gX6_addAppearance_X6_repairs : GoodIn wsX6_addAppearance (wsV RX6 119 RX6 yX6_repairs wsX6_repairs) := goodIn_app (goodIn_of _ (by decide +kernel)) ggX6_addAppearance_X6_repairs
theorem dX6_addAppearance_0 : decode cX6_addAppearance 0 = .ok (.aload_n 0, 1) := by decide +kernel
theorem dX6_addAppearance_1 : decode cX6_addAppearance 1 = .ok (.iload_n 1, 1) := by decide +kernel
theorem dX6_addAppearance_2 : decode cX6_addAppearance 2 = .ok (.invokevirtual 109, 3) := by decide +kernel
theorem dX6_addAppearance_5 : decode cX6_addAppearance 5 = .ok (.ifCond .eq 34, 3) := by decide +kernel
theorem dX6_addAppearance_8 : decode cX6_addAppearance 8 = .ok (.aload_n 0, 1) := by decide +kernel
theorem dX6_addAppearance_9 : decode cX6_addAppearance 9 = .ok (.iload_n 2, 1) := by decide +kernel
theorem dX6_addAppearance_10 : decode cX6_addAppearance 10 = .ok (.invokevirtual 113, 3) := by decide +kernel
theorem dX6_addAppearance_13 : decode cX6_addAppearance 13 = .ok (.ifCond .eq 26, 3) := by decide +kernel
theorem dX6_addAppearance_16 : decode cX6_addAppearance 16 = .ok (.iload_n 3, 1) := by decide +kernel
theorem dX6_addAppearance_17 : decode cX6_addAppearance 17 = .ok (.ifCond .lt 22, 3) := by decide +kernel
theorem dX6_addAppearance_20 : decode cX6_addAppearance 20 = .ok (.iload_n 3, 1) := by decide +kernel
theorem dX6_addAppearance_21 : decode cX6_addAppearance 21 = .ok (.iload 4, 2) := by decide +kernel
theorem dX6_addAppearance_23 : decode cX6_addAppearance 23 = .ok (.if_icmp .ge 16, 3) := by decide +kernel
theorem dX6_addAppearance_26 : decode cX6_addAppearance 26 = .ok (.iload 4, 2) := by decide +kernel
theorem dX6_addAppearance_28 : decode cX6_addAppearance 28 = .ok (.aload_n 0, 1) := by decide +kernel
theorem dX6_addAppearance_29 : decode cX6_addAppearance 29 = .ok (.getfield 7, 3) := by decide +kernel
theorem dX6_addAppearance_32 : decode cX6_addAppearance 32 = .ok (.iconst 1, 1) := by decide +kernel
theorem dX6_addAppearance_33 : decode cX6_addAppearance 33 = .ok (.iload_n 2, 1) := by decide +kernel
theorem dX6_addAppearance_34 : decode cX6_addAppearance 34 = .ok (.iadd, 1) := by decide +kernel
theorem dX6_addAppearance_35 : decode cX6_addAppearance 35 = .ok (.iaload, 1) := by decide +kernel
theorem dX6_addAppearance_36 : decode cX6_addAppearance 36 = .ok (.if_icmp .le 7, 3) := by decide +kernel
theorem dX6_addAppearance_39 : decode cX6_addAppearance 39 = .ok (.sipush (-1001), 3) := by decide +kernel
theorem dX6_addAppearance_42 : decode cX6_addAppearance 42 = .ok (.ireturn, 1) := by decide +kernel
theorem dX6_addAppearance_43 : decode cX6_addAppearance 43 = .ok (.aload_n 0, 1) := by decide +kernel
theorem dX6_addAppearance_44 : decode cX6_addAppearance 44 = .ok (.getfield 7, 3) := by decide +kernel
theorem dX6_addAppearance_47 : decode cX6_addAppearance 47 = .ok (.bipush 44, 2) := by decide +kernel
theorem dX6_addAppearance_49 : decode cX6_addAppearance 49 = .ok (.iaload, 1) := by decide +kernel
theorem dX6_addAppearance_50 : decode cX6_addAppearance 50 = .ok (.bipush 20, 2) := by decide +kernel
theorem dX6_addAppearance_52 : decode cX6_addAppearance 52 = .ok (.if_icmp .ne 7, 3) := by decide +kernel
theorem dX6_addAppearance_55 : decode cX6_addAppearance 55 = .ok (.sipush (-1003), 3) := by decide +kernel
theorem dX6_addAppearance_58 : decode cX6_addAppearance 58 = .ok (.ireturn, 1) := by decide +kernel
theorem dX6_addAppearance_59 : decode cX6_addAppearance 59 = .ok (.aload_n 0, 1) := by decide +kernel
theorem dX6_addAppearance_60 : decode cX6_addAppearance 60 = .ok (.invokevirtual 116, 3) := by decide +kernel
theorem dX6_addAppearance_63 : decode cX6_addAppearance 63 = .ok (.aload_n 0, 1) := by decide +kernel
theorem dX6_addAppearance_64 : decode cX6_addAppearance 64 = .ok (.getfield 7, 3) := by decide +kernel
theorem dX6_addAppearance_67 : decode cX6_addAppearance 67 = .ok (.iload_n 1, 1) := by decide +kernel
theorem dX6_addAppearance_68 : decode cX6_addAppearance 68 = .ok (.iload_n 2, 1) := by decide +kernel
theorem dX6_addAppearance_69 : decode cX6_addAppearance 69 = .ok (.iload_n 3, 1) := by decide +kernel
theorem dX6_addAppearance_70 : decode cX6_addAppearance 70 = .ok (.iload 4, 2) := by decide +kernel
theorem dX6_addAppearance_72 : decode cX6_addAppearance 72 = .ok (.invokestatic 36, 3) := by decide +kernel
theorem dX6_addAppearance_75 : decode cX6_addAppearance 75 = .ok (.aload_n 0, 1) := by decide +kernel
theorem dX6_addAppearance_76 : decode cX6_addAppearance 76 = .ok (.invokevirtual 119, 3) := by decide +kernel
theorem dX6_addAppearance_79 : decode cX6_addAppearance 79 = .ok (.pop, 1) := by decide +kernel
theorem dX6_addAppearance_80 : decode cX6_addAppearance 80 = .ok (.aload_n 0, 1) := by decide +kernel
theorem dX6_addAppearance_81 : decode cX6_addAppearance 81 = .ok (.getfield 7, 3) := by decide +kernel
theorem dX6_addAppearance_84 : decode cX6_addAppearance 84 = .ok (.bipush 44, 2) := by decide +kernel
theorem dX6_addAppearance_86 : decode cX6_addAppearance 86 = .ok (.iaload, 1) := by decide +kernel
theorem dX6_addAppearance_87 : decode cX6_addAppearance 87 = .ok (.ireturn, 1) := by decide +kernel
set_option maxRecDepth 20000 in
theorem ggX6_removeAppearance_X6_in : GoodIn wsX6_removeAppearance wsX6_in := goodIn_r _ [5] (by decide +kernel) (by decide +kernel)
set_option maxRecDepth 20000 in
theorem gX6_removeAppearance_X6_in : GoodIn wsX6_removeAppearance (va_wsS RX6 44 yX6_in wsX6_in) := goodIn_app (goodIn_of _ (by decide +kernel)) ggX6_removeAppearance_X6_in
set_option maxRecDepth 20000 in
theorem ggX6_removeAppearance_X6_keeps : GoodIn wsX6_removeAppearance wsX6_keeps := goodIn_r _ [9, 10, 11, 1, 12, 13, 14, 15, 16, 17, 18, 19, 20, 21] (by decide +kernel) (by decide +kernel)
set_option maxRecDepth 20000 in
theorem gX6_removeAppearance_X6_keeps : GoodIn wsX6_removeAppearance (wsV RX6 116 RX6 yX6_keeps wsX6_keeps) := goodIn_app (goodIn_of _ (by decide +kernel)) ggX6_removeAppearance_X6_keeps
theorem dX6_removeAppearance_0 : decode cX6_removeAppearance 0 = .ok (.iload_n 1, 1) := by decide +kernel
theorem dX6_removeAppearance_1 : decode cX6_removeAppearance 1 = .ok (.i2l, 1) := by decide +kernel
theorem dX6_removeAppearance_2 : decode cX6_removeAppearance 2 = .ok (.lconst 0, 1) := by decide +kernel
theorem dX6_removeAppearance_3 : decode cX6_removeAppearance 3 = .ok (.aload_n 0, 1) := by decide +kernel
theorem dX6_removeAppearance_4 : decode cX6_removeAppearance 4 = .ok (.getfield 7, 3) := by decide +kernel
theorem dX6_removeAppearance_7 : decode cX6_removeAppearance 7 = .ok (.bipush 44, 2) := by decide +kernel
theorem dX6_removeAppearance_9 : decode cX6_removeAppearance 9 = .ok (.iaload, 1) := by decide +kernel
theorem dX6_removeAppearance_10 : decode cX6_removeAppearance 10 = .ok (.iconst 1, 1) := by decide +kernel
theorem dX6_removeAppearance_11 : decode cX6_removeAppearance 11 = .ok (.isub, 1) := by decide +kernel
theorem dX6_removeAppearance_12 : decode cX6_removeAppearance 12 = .ok (.i2l, 1) := by decide +kernel
theorem dX6_removeAppearance_13 : decode cX6_removeAppearance 13 = .ok (.invokestatic 44, 3) := by decide +kernel
theorem dX6_removeAppearance_16 : decode cX6_removeAppearance 16 = .ok (.ifCond .ne 7, 3) := by decide +kernel
theorem dX6_removeAppearance_19 : decode cX6_removeAppearance 19 = .ok (.sipush (-1001), 3) := by decide +kernel
theorem dX6_removeAppearance_22 : decode cX6_removeAppearance 22 = .ok (.ireturn, 1) := by decide +kernel
theorem dX6_removeAppearance_23 : decode cX6_removeAppearance 23 = .ok (.aload_n 0, 1) := by decide +kernel
theorem dX6_removeAppearance_24 : decode cX6_removeAppearance 24 = .ok (.invokevirtual 116, 3) := by decide +kernel
theorem dX6_removeAppearance_27 : decode cX6_removeAppearance 27 = .ok (.aload_n 0, 1) := by decide +kernel
theorem dX6_removeAppearance_28 : decode cX6_removeAppearance 28 = .ok (.getfield 7, 3) := by decide +kernel
theorem dX6_removeAppearance_31 : decode cX6_removeAppearance 31 = .ok (.bipush 44, 2) := by decide +kernel
theorem dX6_removeAppearance_33 : decode cX6_removeAppearance 33 = .ok (.dup2, 1) := by decide +kernel
theorem dX6_removeAppearance_34 : decode cX6_removeAppearance 34 = .ok (.iaload, 1) := by decide +kernel
theorem dX6_removeAppearance_35 : decode cX6_removeAppearance 35 = .ok (.iconst 1, 1) := by decide +kernel
theorem dX6_removeAppearance_36 : decode cX6_removeAppearance 36 = .ok (.isub, 1) := by decide +kernel
theorem dX6_removeAppearance_37 : decode cX6_removeAppearance 37 = .ok (.iastore, 1) := by decide +kernel
theorem dX6_removeAppearance_38 : decode cX6_removeAppearance 38 = .ok (.bipush 45, 2) := by decide +kernel
theorem dX6_removeAppearance_40 : decode cX6_removeAppearance 40 = .ok (.iconst 4, 1) := by decide +kernel
theorem dX6_removeAppearance_41 : decode cX6_removeAppearance 41 = .ok (.iload_n 1, 1) := by decide +kernel
theorem dX6_removeAppearance_42 : decode cX6_removeAppearance 42 = .ok (.imul, 1) := by decide +kernel
theorem dX6_removeAppearance_43 : decode cX6_removeAppearance 43 = .ok (.iadd, 1) := by decide +kernel
theorem dX6_removeAppearance_44 : decode cX6_removeAppearance 44 = .ok (.istore_n 2, 1) := by decide +kernel
theorem dX6_removeAppearance_45 : decode cX6_removeAppearance 45 = .ok (.iload_n 2, 1) := by decide +kernel
theorem dX6_removeAppearance_46 : decode cX6_removeAppearance 46 = .ok (.bipush 45, 2) := by decide +kernel
theorem dX6_removeAppearance_48 : decode cX6_removeAppearance 48 = .ok (.iconst 4, 1) := by decide +kernel
theorem dX6_removeAppearance_49 : decode cX6_removeAppearance 49 = .ok (.aload_n 0, 1) := by decide +kernel
theorem dX6_removeAppearance_50 : decode cX6_removeAppearance 50 = .ok (.getfield 7, 3) := by decide +kernel
theorem dX6_removeAppearance_53 : decode cX6_removeAppearance 53 = .ok (.bipush 44, 2) := by decide +kernel
theorem dX6_removeAppearance_55 : decode cX6_removeAppearance 55 = .ok (.iaload, 1) := by decide +kernel
theorem dX6_removeAppearance_56 : decode cX6_removeAppearance 56 = .ok (.imul, 1) := by decide +kernel
theorem dX6_removeAppearance_57 : decode cX6_removeAppearance 57 = .ok (.iadd, 1) := by decide +kernel
theorem dX6_removeAppearance_58 : decode cX6_removeAppearance 58 = .ok (.if_icmp .ge 23, 3) := by decide +kernel
theorem dX6_removeAppearance_61 : decode cX6_removeAppearance 61 = .ok (.aload_n 0, 1) := by decide +kernel
theorem dX6_removeAppearance_62 : decode cX6_removeAppearance 62 = .ok (.getfield 7, 3) := by decide +kernel
theorem dX6_removeAppearance_65 : decode cX6_removeAppearance 65 = .ok (.iload_n 2, 1) := by decide +kernel
theorem dX6_removeAppearance_66 : decode cX6_removeAppearance 66 = .ok (.aload_n 0, 1) := by decide +kernel
theorem dX6_removeAppearance_67 : decode cX6_removeAppearance 67 = .ok (.getfield 7, 3) := by decide +kernel
theorem dX6_removeAppearance_70 : decode cX6_removeAppearance 70 = .ok (.iload_n 2, 1) := by decide +kernel
theorem dX6_removeAppearance_71 : decode cX6_removeAppearance 71 = .ok (.iconst 4, 1) := by decide +kernel
theorem dX6_removeAppearance_72 : decode cX6_removeAppearance 72 = .ok (.iadd, 1) := by decide +kernel
theorem dX6_removeAppearance_73 : decode cX6_removeAppearance 73 = .ok (.iaload, 1) := by decide +kernel
theorem dX6_removeAppearance_74 : decode cX6_removeAppearance 74 = .ok (.iastore, 1) := by decide +kernel
theorem dX6_removeAppearance_75 : decode cX6_removeAppearance 75 = .ok (.iinc 2 1, 3) := by decide +kernel
theorem dX6_removeAppearance_78 : decode cX6_removeAppearance 78 = .ok (.goto (-33), 3) := by decide +kernel
theorem dX6_removeAppearance_81 : decode cX6_removeAppearance 81 = .ok (.aload_n 0, 1) := by decide +kernel
theorem dX6_removeAppearance_82 : decode cX6_removeAppearance 82 = .ok (.getfield 7, 3) := by decide +kernel
theorem dX6_removeAppearance_85 : decode cX6_removeAppearance 85 = .ok (.bipush 44, 2) := by decide +kernel
theorem dX6_removeAppearance_87 : decode cX6_removeAppearance 87 = .ok (.iaload, 1) := by decide +kernel
theorem dX6_removeAppearance_88 : decode cX6_removeAppearance 88 = .ok (.ireturn, 1) := by decide +kernel
set_option maxRecDepth 20000 in
theorem ggX6_setChangeTimes_X6_isRole : GoodIn wsX6_setChangeTimes wsX6_isRole := goodIn_r _ [7, 2, 8, 9, 6, 10, 59, 60, 61, 62, 63, 64, 65, 66, 67, 68] (by decide +kernel) (by decide +kernel)
set_option maxRecDepth 20000 in
theorem gX6_setChangeTimes_X6_isRole : GoodIn wsX6_setChangeTimes (wsV RX6 109 RX6 yX6_isRole wsX6_isRole) := goodIn_app (goodIn_of _ (by decide +kernel)) ggX6_setChangeTimes_X6_isRole
set_option maxRecDepth 20000 in
theorem ggX6_setChangeTimes_X6_in : GoodIn wsX6_setChangeTimes wsX6_in := goodIn_r _ [10] (by decide +kernel) (by decide +kernel)
set_option maxRecDepth 20000 in
theorem gX6_setChangeTimes_X6_in : GoodIn wsX6_setChangeTimes (va_wsS RX6 44 yX6_in wsX6_in) := goodIn_app (goodIn_of _ (by decide +kernel)) ggX6_setChangeTimes_X6_in
set_option maxRecDepth 20000 in
theorem ggX6_setChangeTimes_X6_keeps : GoodIn wsX6_setChangeTimes wsX6_keeps := goodIn_r _ [14, 15, 16, 2, 59, 60, 61, 62, 63, 64, 65, 66, 67, 68] (by decide +kernel) (by decide +kernel)
set_option maxRecDepth 20000 in
theorem gX6_setChangeTimes_X6_keeps : GoodIn wsX6_setChangeTimes (wsV RX6 116 RX6 yX6_keeps wsX6_keeps) := goodIn_app (goodIn_of _ (by decide +kernel)) ggX6_setChangeTimes_X6_keeps
set_option maxRecDepth 20000 in
theorem ggX6_setChangeTimes_X6_repairs : GoodIn wsX6_setChangeTimes wsX6_repairs := goodIn_r _ [20, 2, 21, 22, 23, 24, 6, 25, 26, 27, 28, 29, 30, 31, 32, 33, 34, 35, 36, 37, 38, 39, 40, 41, 42, 43, 44, 45, 46, 47, 48, 49, 50, 51, 52, 53, 54, 55, 56, 57, 58, 59, 60, 61, 62, 63, 64, 65, 66, 67, 68] (by decide +kernel) (by decide +kernel)
set_option maxRecDepth 20000 in
theorem gX6_setChangeTimes_X6_repairs : GoodIn wsX6_setChangeTimes (wsV RX6 119 RX6 yX6_repairs wsX6_repairs) := goodIn_app (goodIn_of _ (by decide +kernel)) ggX6_setChangeTimes_X6_repairs
theorem dX6_setChangeTimes_0 : decode cX6_setChangeTimes 0 = .ok (.aload_n 0, 1) := by decide +kernel
theorem dX6_setChangeTimes_1 : decode cX6_setChangeTimes 1 = .ok (.iload_n 1, 1) := by decide +kernel
theorem dX6_setChangeTimes_2 : decode cX6_setChangeTimes 2 = .ok (.invokevirtual 109, 3) := by decide +kernel
theorem dX6_setChangeTimes_5 : decode cX6_setChangeTimes 5 = .ok (.ifCond .eq 27, 3) := by decide +kernel
theorem dX6_setChangeTimes_8 : decode cX6_setChangeTimes 8 = .ok (.iload_n 2, 1) := by decide +kernel
theorem dX6_setChangeTimes_9 : decode cX6_setChangeTimes 9 = .ok (.i2l, 1) := by decide +kernel
theorem dX6_setChangeTimes_10 : decode cX6_setChangeTimes 10 = .ok (.lconst 0, 1) := by decide +kernel
theorem dX6_setChangeTimes_11 : decode cX6_setChangeTimes 11 = .ok (.ldc2_w 122, 3) := by decide +kernel
theorem dX6_setChangeTimes_14 : decode cX6_setChangeTimes 14 = .ok (.invokestatic 44, 3) := by decide +kernel
theorem dX6_setChangeTimes_17 : decode cX6_setChangeTimes 17 = .ok (.ifCond .eq 15, 3) := by decide +kernel
theorem dX6_setChangeTimes_20 : decode cX6_setChangeTimes 20 = .ok (.iload_n 3, 1) := by decide +kernel
theorem dX6_setChangeTimes_21 : decode cX6_setChangeTimes 21 = .ok (.i2l, 1) := by decide +kernel
theorem dX6_setChangeTimes_22 : decode cX6_setChangeTimes 22 = .ok (.lconst 0, 1) := by decide +kernel
theorem dX6_setChangeTimes_23 : decode cX6_setChangeTimes 23 = .ok (.ldc2_w 122, 3) := by decide +kernel
theorem dX6_setChangeTimes_26 : decode cX6_setChangeTimes 26 = .ok (.invokestatic 44, 3) := by decide +kernel
theorem dX6_setChangeTimes_29 : decode cX6_setChangeTimes 29 = .ok (.ifCond .ne 7, 3) := by decide +kernel
theorem dX6_setChangeTimes_32 : decode cX6_setChangeTimes 32 = .ok (.sipush (-1001), 3) := by decide +kernel
theorem dX6_setChangeTimes_35 : decode cX6_setChangeTimes 35 = .ok (.ireturn, 1) := by decide +kernel
theorem dX6_setChangeTimes_36 : decode cX6_setChangeTimes 36 = .ok (.aload_n 0, 1) := by decide +kernel
theorem dX6_setChangeTimes_37 : decode cX6_setChangeTimes 37 = .ok (.invokevirtual 116, 3) := by decide +kernel
theorem dX6_setChangeTimes_40 : decode cX6_setChangeTimes 40 = .ok (.aload_n 0, 1) := by decide +kernel
theorem dX6_setChangeTimes_41 : decode cX6_setChangeTimes 41 = .ok (.getfield 7, 3) := by decide +kernel
theorem dX6_setChangeTimes_44 : decode cX6_setChangeTimes 44 = .ok (.bipush 20, 2) := by decide +kernel
theorem dX6_setChangeTimes_46 : decode cX6_setChangeTimes 46 = .ok (.iload_n 1, 1) := by decide +kernel
theorem dX6_setChangeTimes_47 : decode cX6_setChangeTimes 47 = .ok (.iadd, 1) := by decide +kernel
theorem dX6_setChangeTimes_48 : decode cX6_setChangeTimes 48 = .ok (.iload_n 2, 1) := by decide +kernel
theorem dX6_setChangeTimes_49 : decode cX6_setChangeTimes 49 = .ok (.iastore, 1) := by decide +kernel
theorem dX6_setChangeTimes_50 : decode cX6_setChangeTimes 50 = .ok (.aload_n 0, 1) := by decide +kernel
theorem dX6_setChangeTimes_51 : decode cX6_setChangeTimes 51 = .ok (.getfield 7, 3) := by decide +kernel
theorem dX6_setChangeTimes_54 : decode cX6_setChangeTimes 54 = .ok (.bipush 28, 2) := by decide +kernel
theorem dX6_setChangeTimes_56 : decode cX6_setChangeTimes 56 = .ok (.iload_n 1, 1) := by decide +kernel
theorem dX6_setChangeTimes_57 : decode cX6_setChangeTimes 57 = .ok (.iadd, 1) := by decide +kernel
theorem dX6_setChangeTimes_58 : decode cX6_setChangeTimes 58 = .ok (.iload_n 3, 1) := by decide +kernel
theorem dX6_setChangeTimes_59 : decode cX6_setChangeTimes 59 = .ok (.iastore, 1) := by decide +kernel
theorem dX6_setChangeTimes_60 : decode cX6_setChangeTimes 60 = .ok (.aload_n 0, 1) := by decide +kernel
theorem dX6_setChangeTimes_61 : decode cX6_setChangeTimes 61 = .ok (.invokevirtual 119, 3) := by decide +kernel
theorem dX6_setChangeTimes_64 : decode cX6_setChangeTimes 64 = .ok (.ireturn, 1) := by decide +kernel
theorem dX6_castBy_0 : decode cX6_castBy 0 = .ok (.iconst 0, 1) := by decide +kernel
theorem dX6_castBy_1 : decode cX6_castBy 1 = .ok (.istore_n 2, 1) := by decide +kernel
theorem dX6_castBy_2 : decode cX6_castBy 2 = .ok (.iconst 0, 1) := by decide +kernel
theorem dX6_castBy_3 : decode cX6_castBy 3 = .ok (.istore_n 3, 1) := by decide +kernel
theorem dX6_castBy_4 : decode cX6_castBy 4 = .ok (.iload_n 3, 1) := by decide +kernel
theorem dX6_castBy_5 : decode cX6_castBy 5 = .ok (.aload_n 0, 1) := by decide +kernel
theorem dX6_castBy_6 : decode cX6_castBy 6 = .ok (.getfield 7, 3) := by decide +kernel
theorem dX6_castBy_9 : decode cX6_castBy 9 = .ok (.bipush 11, 2) := by decide +kernel
theorem dX6_castBy_11 : decode cX6_castBy 11 = .ok (.iaload, 1) := by decide +kernel
theorem dX6_castBy_12 : decode cX6_castBy 12 = .ok (.if_icmp .ge 32, 3) := by decide +kernel
theorem dX6_castBy_15 : decode cX6_castBy 15 = .ok (.iload_n 2, 1) := by decide +kernel
theorem dX6_castBy_16 : decode cX6_castBy 16 = .ok (.aload_n 0, 1) := by decide +kernel
theorem dX6_castBy_17 : decode cX6_castBy 17 = .ok (.getfield 7, 3) := by decide +kernel
theorem dX6_castBy_20 : decode cX6_castBy 20 = .ok (.bipush 36, 2) := by decide +kernel
theorem dX6_castBy_22 : decode cX6_castBy 22 = .ok (.iload_n 3, 1) := by decide +kernel
theorem dX6_castBy_23 : decode cX6_castBy 23 = .ok (.iadd, 1) := by decide +kernel
theorem dX6_castBy_24 : decode cX6_castBy 24 = .ok (.iaload, 1) := by decide +kernel
theorem dX6_castBy_25 : decode cX6_castBy 25 = .ok (.iload_n 1, 1) := by decide +kernel
theorem dX6_castBy_26 : decode cX6_castBy 26 = .ok (.if_icmp .ne 9, 3) := by decide +kernel
theorem dX6_castBy_29 : decode cX6_castBy 29 = .ok (.iconst 1, 1) := by decide +kernel
theorem dX6_castBy_30 : decode cX6_castBy 30 = .ok (.iload_n 3, 1) := by decide +kernel
theorem dX6_castBy_31 : decode cX6_castBy 31 = .ok (.ishl, 1) := by decide +kernel
theorem dX6_castBy_32 : decode cX6_castBy 32 = .ok (.goto 4, 3) := by decide +kernel
theorem dX6_castBy_35 : decode cX6_castBy 35 = .ok (.iconst 0, 1) := by decide +kernel
theorem dX6_castBy_36 : decode cX6_castBy 36 = .ok (.ior, 1) := by decide +kernel
theorem dX6_castBy_37 : decode cX6_castBy 37 = .ok (.istore_n 2, 1) := by decide +kernel
theorem dX6_castBy_38 : decode cX6_castBy 38 = .ok (.iinc 3 1, 3) := by decide +kernel
theorem dX6_castBy_41 : decode cX6_castBy 41 = .ok (.goto (-37), 3) := by decide +kernel
theorem dX6_castBy_44 : decode cX6_castBy 44 = .ok (.iload_n 2, 1) := by decide +kernel
theorem dX6_castBy_45 : decode cX6_castBy 45 = .ok (.ireturn, 1) := by decide +kernel
theorem dX6_ones_0 : decode cX6_ones 0 = .ok (.iconst 0, 1) := by decide +kernel
theorem dX6_ones_1 : decode cX6_ones 1 = .ok (.istore_n 1, 1) := by decide +kernel
theorem dX6_ones_2 : decode cX6_ones 2 = .ok (.iload_n 0, 1) := by decide +kernel
theorem dX6_ones_3 : decode cX6_ones 3 = .ok (.istore_n 2, 1) := by decide +kernel
theorem dX6_ones_4 : decode cX6_ones 4 = .ok (.iload_n 2, 1) := by decide +kernel
theorem dX6_ones_5 : decode cX6_ones 5 = .ok (.ifCond .eq 15, 3) := by decide +kernel
theorem dX6_ones_8 : decode cX6_ones 8 = .ok (.iinc 1 1, 3) := by decide +kernel
theorem dX6_ones_11 : decode cX6_ones 11 = .ok (.iload_n 2, 1) := by decide +kernel
theorem dX6_ones_12 : decode cX6_ones 12 = .ok (.iload_n 2, 1) := by decide +kernel
theorem dX6_ones_13 : decode cX6_ones 13 = .ok (.iconst 1, 1) := by decide +kernel
theorem dX6_ones_14 : decode cX6_ones 14 = .ok (.isub, 1) := by decide +kernel
theorem dX6_ones_15 : decode cX6_ones 15 = .ok (.iand, 1) := by decide +kernel
theorem dX6_ones_16 : decode cX6_ones 16 = .ok (.istore_n 2, 1) := by decide +kernel
theorem dX6_ones_17 : decode cX6_ones 17 = .ok (.goto (-13), 3) := by decide +kernel
theorem dX6_ones_20 : decode cX6_ones 20 = .ok (.iload_n 1, 1) := by decide +kernel
theorem dX6_ones_21 : decode cX6_ones 21 = .ok (.ireturn, 1) := by decide +kernel
set_option maxRecDepth 20000 in
theorem ggX6_cast_X6_isRole : GoodIn wsX6_cast wsX6_isRole := goodIn_r _ [7, 2, 8, 9, 6, 10, 65, 66, 67, 68, 69, 70, 71, 72, 73, 74] (by decide +kernel) (by decide +kernel)
set_option maxRecDepth 20000 in
theorem gX6_cast_X6_isRole : GoodIn wsX6_cast (wsV RX6 109 RX6 yX6_isRole wsX6_isRole) := goodIn_app (goodIn_of _ (by decide +kernel)) ggX6_cast_X6_isRole
set_option maxRecDepth 20000 in
theorem ggX6_cast_X6_isActor : GoodIn wsX6_cast wsX6_isActor := goodIn_r _ [13, 14, 8, 9, 6, 10] (by decide +kernel) (by decide +kernel)
set_option maxRecDepth 20000 in
theorem gX6_cast_X6_isActor : GoodIn wsX6_cast (va_wsS RX6 124 yX6_isActor wsX6_isActor) := goodIn_app (goodIn_of _ (by decide +kernel)) ggX6_cast_X6_isActor
set_option maxRecDepth 20000 in
theorem ggX6_cast_X6_layConflicts : GoodIn wsX6_cast wsX6_layConflicts := goodIn_r _ [18, 2, 1, 19, 20, 21, 6, 22, 23, 24, 25, 26, 27, 28, 29, 30, 31, 32, 33, 34, 35, 36, 37, 38, 39, 40, 41, 42, 43, 44, 45, 46, 47, 48, 49, 50, 51, 65, 66, 67, 68, 69, 70, 71, 72, 73, 74] (by decide +kernel) (by decide +kernel)
set_option maxRecDepth 20000 in
theorem gX6_cast_X6_layConflicts : GoodIn wsX6_cast (wsV RX6 106 RX6 yX6_layConflicts wsX6_layConflicts) := goodIn_app (goodIn_of _ (by decide +kernel)) ggX6_cast_X6_layConflicts
set_option maxRecDepth 20000 in
theorem ggX6_cast_X6_castBy : GoodIn wsX6_cast wsX6_castBy := goodIn_r _ [55, 2, 65, 66, 67, 68, 69, 70, 71, 72, 73, 74] (by decide +kernel) (by decide +kernel)
set_option maxRecDepth 20000 in
theorem gX6_cast_X6_castBy : GoodIn wsX6_cast (wsV RX6 127 RX6 yX6_castBy wsX6_castBy) := goodIn_app (goodIn_of _ (by decide +kernel)) ggX6_cast_X6_castBy
set_option maxRecDepth 20000 in
theorem ggX6_cast_X6_keeps : GoodIn wsX6_cast wsX6_keeps := goodIn_r _ [59, 60, 61, 2, 65, 66, 67, 68, 69, 70, 71, 72, 73, 74] (by decide +kernel) (by decide +kernel)
set_option maxRecDepth 20000 in
theorem gX6_cast_X6_keeps : GoodIn wsX6_cast (wsV RX6 116 RX6 yX6_keeps wsX6_keeps) := goodIn_app (goodIn_of _ (by decide +kernel)) ggX6_cast_X6_keeps
set_option maxRecDepth 20000 in
theorem ggX6_cast_X6_ones : GoodIn wsX6_cast wsX6_ones := goodIn_r _ [64] (by decide +kernel) (by decide +kernel)
set_option maxRecDepth 20000 in
theorem gX6_cast_X6_ones : GoodIn wsX6_cast (va_wsS RX6 131 yX6_ones wsX6_ones) := goodIn_app (goodIn_of _ (by decide +kernel)) ggX6_cast_X6_ones
theorem dX6_cast_0 : decode cX6_cast 0 = .ok (.aload_n 0, 1) := by decide +kernel
theorem dX6_cast_1 : decode cX6_cast 1 = .ok (.iload_n 1, 1) := by decide +kernel
theorem dX6_cast_2 : decode cX6_cast 2 = .ok (.invokevirtual 109, 3) := by decide +kernel
theorem dX6_cast_5 : decode cX6_cast 5 = .ok (.ifCond .eq 10, 3) := by decide +kernel
theorem dX6_cast_8 : decode cX6_cast 8 = .ok (.iload_n 2, 1) := by decide +kernel
theorem dX6_cast_9 : decode cX6_cast 9 = .ok (.invokestatic 124, 3) := by decide +kernel
theorem dX6_cast_12 : decode cX6_cast 12 = .ok (.ifCond .ne 7, 3) := by decide +kernel
theorem dX6_cast_15 : decode cX6_cast 15 = .ok (.sipush (-1001), 3) := by decide +kernel
theorem dX6_cast_18 : decode cX6_cast 18 = .ok (.ireturn, 1) := by decide +kernel
theorem dX6_cast_19 : decode cX6_cast 19 = .ok (.aload_n 0, 1) := by decide +kernel
theorem dX6_cast_20 : decode cX6_cast 20 = .ok (.iconst 0, 1) := by decide +kernel
theorem dX6_cast_21 : decode cX6_cast 21 = .ok (.invokevirtual 106, 3) := by decide +kernel
theorem dX6_cast_24 : decode cX6_cast 24 = .ok (.aload_n 0, 1) := by decide +kernel
theorem dX6_cast_25 : decode cX6_cast 25 = .ok (.getfield 22, 3) := by decide +kernel
theorem dX6_cast_28 : decode cX6_cast 28 = .ok (.iload_n 1, 1) := by decide +kernel
theorem dX6_cast_29 : decode cX6_cast 29 = .ok (.iaload, 1) := by decide +kernel
theorem dX6_cast_30 : decode cX6_cast 30 = .ok (.aload_n 0, 1) := by decide +kernel
theorem dX6_cast_31 : decode cX6_cast 31 = .ok (.iload_n 2, 1) := by decide +kernel
theorem dX6_cast_32 : decode cX6_cast 32 = .ok (.invokevirtual 127, 3) := by decide +kernel
theorem dX6_cast_35 : decode cX6_cast 35 = .ok (.iand, 1) := by decide +kernel
theorem dX6_cast_36 : decode cX6_cast 36 = .ok (.ifCond .eq 7, 3) := by decide +kernel
theorem dX6_cast_39 : decode cX6_cast 39 = .ok (.sipush (-1002), 3) := by decide +kernel
theorem dX6_cast_42 : decode cX6_cast 42 = .ok (.ireturn, 1) := by decide +kernel
theorem dX6_cast_43 : decode cX6_cast 43 = .ok (.aload_n 0, 1) := by decide +kernel
theorem dX6_cast_44 : decode cX6_cast 44 = .ok (.invokevirtual 116, 3) := by decide +kernel
theorem dX6_cast_47 : decode cX6_cast 47 = .ok (.aload_n 0, 1) := by decide +kernel
theorem dX6_cast_48 : decode cX6_cast 48 = .ok (.getfield 7, 3) := by decide +kernel
theorem dX6_cast_51 : decode cX6_cast 51 = .ok (.bipush 36, 2) := by decide +kernel
theorem dX6_cast_53 : decode cX6_cast 53 = .ok (.iload_n 1, 1) := by decide +kernel
theorem dX6_cast_54 : decode cX6_cast 54 = .ok (.iadd, 1) := by decide +kernel
theorem dX6_cast_55 : decode cX6_cast 55 = .ok (.iload_n 2, 1) := by decide +kernel
theorem dX6_cast_56 : decode cX6_cast 56 = .ok (.iastore, 1) := by decide +kernel
theorem dX6_cast_57 : decode cX6_cast 57 = .ok (.aload_n 0, 1) := by decide +kernel
theorem dX6_cast_58 : decode cX6_cast 58 = .ok (.iload_n 2, 1) := by decide +kernel
theorem dX6_cast_59 : decode cX6_cast 59 = .ok (.invokevirtual 127, 3) := by decide +kernel
theorem dX6_cast_62 : decode cX6_cast 62 = .ok (.invokestatic 131, 3) := by decide +kernel
theorem dX6_cast_65 : decode cX6_cast 65 = .ok (.ireturn, 1) := by decide +kernel
set_option maxRecDepth 20000 in
theorem ggX6_uncast_X6_isRole : GoodIn wsX6_uncast wsX6_isRole := goodIn_r _ [6, 1, 7, 8, 5, 9, 16, 17, 18, 19, 20, 21, 22, 23, 24, 25] (by decide +kernel) (by decide +kernel)
set_option maxRecDepth 20000 in
theorem gX6_uncast_X6_isRole : GoodIn wsX6_uncast (wsV RX6 109 RX6 yX6_isRole wsX6_isRole) := goodIn_app (goodIn_of _ (by decide +kernel)) ggX6_uncast_X6_isRole
set_option maxRecDepth 20000 in
theorem ggX6_uncast_X6_keeps : GoodIn wsX6_uncast wsX6_keeps := goodIn_r _ [13, 14, 15, 1, 16, 17, 18, 19, 20, 21, 22, 23, 24, 25] (by decide +kernel) (by decide +kernel)
set_option maxRecDepth 20000 in
theorem gX6_uncast_X6_keeps : GoodIn wsX6_uncast (wsV RX6 116 RX6 yX6_keeps wsX6_keeps) := goodIn_app (goodIn_of _ (by decide +kernel)) ggX6_uncast_X6_keeps
theorem dX6_uncast_0 : decode cX6_uncast 0 = .ok (.aload_n 0, 1) := by decide +kernel
theorem dX6_uncast_1 : decode cX6_uncast 1 = .ok (.iload_n 1, 1) := by decide +kernel
theorem dX6_uncast_2 : decode cX6_uncast 2 = .ok (.invokevirtual 109, 3) := by decide +kernel
theorem dX6_uncast_5 : decode cX6_uncast 5 = .ok (.ifCond .ne 7, 3) := by decide +kernel
theorem dX6_uncast_8 : decode cX6_uncast 8 = .ok (.sipush (-1001), 3) := by decide +kernel
theorem dX6_uncast_11 : decode cX6_uncast 11 = .ok (.ireturn, 1) := by decide +kernel
theorem dX6_uncast_12 : decode cX6_uncast 12 = .ok (.aload_n 0, 1) := by decide +kernel
theorem dX6_uncast_13 : decode cX6_uncast 13 = .ok (.getfield 7, 3) := by decide +kernel
theorem dX6_uncast_16 : decode cX6_uncast 16 = .ok (.bipush 36, 2) := by decide +kernel
theorem dX6_uncast_18 : decode cX6_uncast 18 = .ok (.iload_n 1, 1) := by decide +kernel
theorem dX6_uncast_19 : decode cX6_uncast 19 = .ok (.iadd, 1) := by decide +kernel
theorem dX6_uncast_20 : decode cX6_uncast 20 = .ok (.iaload, 1) := by decide +kernel
theorem dX6_uncast_21 : decode cX6_uncast 21 = .ok (.istore_n 2, 1) := by decide +kernel
theorem dX6_uncast_22 : decode cX6_uncast 22 = .ok (.iload_n 2, 1) := by decide +kernel
theorem dX6_uncast_23 : decode cX6_uncast 23 = .ok (.iconst (-1), 1) := by decide +kernel
theorem dX6_uncast_24 : decode cX6_uncast 24 = .ok (.if_icmp .ne 7, 3) := by decide +kernel
theorem dX6_uncast_27 : decode cX6_uncast 27 = .ok (.sipush (-1002), 3) := by decide +kernel
theorem dX6_uncast_30 : decode cX6_uncast 30 = .ok (.ireturn, 1) := by decide +kernel
theorem dX6_uncast_31 : decode cX6_uncast 31 = .ok (.aload_n 0, 1) := by decide +kernel
theorem dX6_uncast_32 : decode cX6_uncast 32 = .ok (.invokevirtual 116, 3) := by decide +kernel
theorem dX6_uncast_35 : decode cX6_uncast 35 = .ok (.aload_n 0, 1) := by decide +kernel
theorem dX6_uncast_36 : decode cX6_uncast 36 = .ok (.getfield 7, 3) := by decide +kernel
theorem dX6_uncast_39 : decode cX6_uncast 39 = .ok (.bipush 36, 2) := by decide +kernel
theorem dX6_uncast_41 : decode cX6_uncast 41 = .ok (.iload_n 1, 1) := by decide +kernel
theorem dX6_uncast_42 : decode cX6_uncast 42 = .ok (.iadd, 1) := by decide +kernel
theorem dX6_uncast_43 : decode cX6_uncast 43 = .ok (.iconst (-1), 1) := by decide +kernel
theorem dX6_uncast_44 : decode cX6_uncast 44 = .ok (.iastore, 1) := by decide +kernel
theorem dX6_uncast_45 : decode cX6_uncast 45 = .ok (.iload_n 2, 1) := by decide +kernel
theorem dX6_uncast_46 : decode cX6_uncast 46 = .ok (.ireturn, 1) := by decide +kernel
set_option maxRecDepth 20000 in
theorem ggX6_adoptFirstCast_X6_keeps : GoodIn wsX6_adoptFirstCast wsX6_keeps := goodIn_r _ [7, 8, 9, 1, 60, 61, 62, 63, 64, 65, 66, 67, 68, 69] (by decide +kernel) (by decide +kernel)
set_option maxRecDepth 20000 in
theorem gX6_adoptFirstCast_X6_keeps : GoodIn wsX6_adoptFirstCast (wsV RX6 116 RX6 yX6_keeps wsX6_keeps) := goodIn_app (goodIn_of _ (by decide +kernel)) ggX6_adoptFirstCast_X6_keeps
set_option maxRecDepth 20000 in
theorem ggX6_adoptFirstCast_X6_leastFor : GoodIn wsX6_adoptFirstCast wsX6_leastFor := goodIn_r _ [13, 14, 15, 16, 6, 17, 1, 18, 19, 20, 21, 22, 23, 24, 25, 26, 27, 28, 29, 30, 31, 32, 33, 34, 35, 36, 37, 38, 39, 40, 41, 42, 43, 44, 45, 46, 47, 48, 49, 50, 51, 52, 53, 54, 55, 2, 56, 57, 58, 59, 60, 61, 62, 63, 64, 65, 66, 67, 68, 69] (by decide +kernel) (by decide +kernel)
set_option maxRecDepth 20000 in
theorem gX6_adoptFirstCast_X6_leastFor : GoodIn wsX6_adoptFirstCast (wsV RX6 134 RX6 yX6_leastFor wsX6_leastFor) := goodIn_app (goodIn_of _ (by decide +kernel)) ggX6_adoptFirstCast_X6_leastFor
theorem dX6_adoptFirstCast_0 : decode cX6_adoptFirstCast 0 = .ok (.aload_n 0, 1) := by decide +kernel
theorem dX6_adoptFirstCast_1 : decode cX6_adoptFirstCast 1 = .ok (.invokevirtual 116, 3) := by decide +kernel
theorem dX6_adoptFirstCast_4 : decode cX6_adoptFirstCast 4 = .ok (.aload_n 0, 1) := by decide +kernel
theorem dX6_adoptFirstCast_5 : decode cX6_adoptFirstCast 5 = .ok (.iconst 0, 1) := by decide +kernel
theorem dX6_adoptFirstCast_6 : decode cX6_adoptFirstCast 6 = .ok (.invokevirtual 134, 3) := by decide +kernel
theorem dX6_adoptFirstCast_9 : decode cX6_adoptFirstCast 9 = .ok (.istore_n 1, 1) := by decide +kernel
theorem dX6_adoptFirstCast_10 : decode cX6_adoptFirstCast 10 = .ok (.iconst 0, 1) := by decide +kernel
theorem dX6_adoptFirstCast_11 : decode cX6_adoptFirstCast 11 = .ok (.istore_n 2, 1) := by decide +kernel
theorem dX6_adoptFirstCast_12 : decode cX6_adoptFirstCast 12 = .ok (.iload_n 2, 1) := by decide +kernel
theorem dX6_adoptFirstCast_13 : decode cX6_adoptFirstCast 13 = .ok (.aload_n 0, 1) := by decide +kernel
theorem dX6_adoptFirstCast_14 : decode cX6_adoptFirstCast 14 = .ok (.getfield 7, 3) := by decide +kernel
theorem dX6_adoptFirstCast_17 : decode cX6_adoptFirstCast 17 = .ok (.bipush 11, 2) := by decide +kernel
theorem dX6_adoptFirstCast_19 : decode cX6_adoptFirstCast 19 = .ok (.iaload, 1) := by decide +kernel
theorem dX6_adoptFirstCast_20 : decode cX6_adoptFirstCast 20 = .ok (.if_icmp .ge 24, 3) := by decide +kernel
theorem dX6_adoptFirstCast_23 : decode cX6_adoptFirstCast 23 = .ok (.aload_n 0, 1) := by decide +kernel
theorem dX6_adoptFirstCast_24 : decode cX6_adoptFirstCast 24 = .ok (.getfield 7, 3) := by decide +kernel
theorem dX6_adoptFirstCast_27 : decode cX6_adoptFirstCast 27 = .ok (.bipush 36, 2) := by decide +kernel
theorem dX6_adoptFirstCast_29 : decode cX6_adoptFirstCast 29 = .ok (.iload_n 2, 1) := by decide +kernel
theorem dX6_adoptFirstCast_30 : decode cX6_adoptFirstCast 30 = .ok (.iadd, 1) := by decide +kernel
theorem dX6_adoptFirstCast_31 : decode cX6_adoptFirstCast 31 = .ok (.aload_n 0, 1) := by decide +kernel
theorem dX6_adoptFirstCast_32 : decode cX6_adoptFirstCast 32 = .ok (.getfield 25, 3) := by decide +kernel
theorem dX6_adoptFirstCast_35 : decode cX6_adoptFirstCast 35 = .ok (.iload_n 2, 1) := by decide +kernel
theorem dX6_adoptFirstCast_36 : decode cX6_adoptFirstCast 36 = .ok (.iaload, 1) := by decide +kernel
theorem dX6_adoptFirstCast_37 : decode cX6_adoptFirstCast 37 = .ok (.iastore, 1) := by decide +kernel
theorem dX6_adoptFirstCast_38 : decode cX6_adoptFirstCast 38 = .ok (.iinc 2 1, 3) := by decide +kernel
theorem dX6_adoptFirstCast_41 : decode cX6_adoptFirstCast 41 = .ok (.goto (-29), 3) := by decide +kernel
theorem dX6_adoptFirstCast_44 : decode cX6_adoptFirstCast 44 = .ok (.iload_n 1, 1) := by decide +kernel
theorem dX6_adoptFirstCast_45 : decode cX6_adoptFirstCast 45 = .ok (.ireturn, 1) := by decide +kernel
theorem dX6_roleCount_0 : decode cX6_roleCount 0 = .ok (.aload_n 0, 1) := by decide +kernel
theorem dX6_roleCount_1 : decode cX6_roleCount 1 = .ok (.getfield 7, 3) := by decide +kernel
theorem dX6_roleCount_4 : decode cX6_roleCount 4 = .ok (.bipush 11, 2) := by decide +kernel
theorem dX6_roleCount_6 : decode cX6_roleCount 6 = .ok (.iaload, 1) := by decide +kernel
theorem dX6_roleCount_7 : decode cX6_roleCount 7 = .ok (.ireturn, 1) := by decide +kernel
theorem dX6_appearanceCount_0 : decode cX6_appearanceCount 0 = .ok (.aload_n 0, 1) := by decide +kernel
theorem dX6_appearanceCount_1 : decode cX6_appearanceCount 1 = .ok (.getfield 7, 3) := by decide +kernel
theorem dX6_appearanceCount_4 : decode cX6_appearanceCount 4 = .ok (.bipush 44, 2) := by decide +kernel
theorem dX6_appearanceCount_6 : decode cX6_appearanceCount 6 = .ok (.iaload, 1) := by decide +kernel
theorem dX6_appearanceCount_7 : decode cX6_appearanceCount 7 = .ok (.ireturn, 1) := by decide +kernel
theorem dX6_sceneStart_0 : decode cX6_sceneStart 0 = .ok (.iconst 0, 1) := by decide +kernel
theorem dX6_sceneStart_1 : decode cX6_sceneStart 1 = .ok (.istore_n 2, 1) := by decide +kernel
theorem dX6_sceneStart_2 : decode cX6_sceneStart 2 = .ok (.iconst 0, 1) := by decide +kernel
theorem dX6_sceneStart_3 : decode cX6_sceneStart 3 = .ok (.istore_n 3, 1) := by decide +kernel
theorem dX6_sceneStart_4 : decode cX6_sceneStart 4 = .ok (.iload_n 3, 1) := by decide +kernel
theorem dX6_sceneStart_5 : decode cX6_sceneStart 5 = .ok (.iload_n 1, 1) := by decide +kernel
theorem dX6_sceneStart_6 : decode cX6_sceneStart 6 = .ok (.if_icmp .ge 20, 3) := by decide +kernel
theorem dX6_sceneStart_9 : decode cX6_sceneStart 9 = .ok (.iload_n 2, 1) := by decide +kernel
theorem dX6_sceneStart_10 : decode cX6_sceneStart 10 = .ok (.aload_n 0, 1) := by decide +kernel
theorem dX6_sceneStart_11 : decode cX6_sceneStart 11 = .ok (.getfield 7, 3) := by decide +kernel
theorem dX6_sceneStart_14 : decode cX6_sceneStart 14 = .ok (.iconst 1, 1) := by decide +kernel
theorem dX6_sceneStart_15 : decode cX6_sceneStart 15 = .ok (.iload_n 3, 1) := by decide +kernel
theorem dX6_sceneStart_16 : decode cX6_sceneStart 16 = .ok (.iadd, 1) := by decide +kernel
theorem dX6_sceneStart_17 : decode cX6_sceneStart 17 = .ok (.iaload, 1) := by decide +kernel
theorem dX6_sceneStart_18 : decode cX6_sceneStart 18 = .ok (.iadd, 1) := by decide +kernel
theorem dX6_sceneStart_19 : decode cX6_sceneStart 19 = .ok (.istore_n 2, 1) := by decide +kernel
theorem dX6_sceneStart_20 : decode cX6_sceneStart 20 = .ok (.iinc 3 1, 3) := by decide +kernel
theorem dX6_sceneStart_23 : decode cX6_sceneStart 23 = .ok (.goto (-19), 3) := by decide +kernel
theorem dX6_sceneStart_26 : decode cX6_sceneStart 26 = .ok (.iload_n 2, 1) := by decide +kernel
theorem dX6_sceneStart_27 : decode cX6_sceneStart 27 = .ok (.ireturn, 1) := by decide +kernel
set_option maxRecDepth 20000 in
theorem ggX6_playLength_X6_sceneStart : GoodIn wsX6_playLength wsX6_sceneStart := goodIn_r _ [6, 1, 7, 8, 9, 10, 11, 12, 13, 14, 15, 16] (by decide +kernel) (by decide +kernel)
set_option maxRecDepth 20000 in
theorem gX6_playLength_X6_sceneStart : GoodIn wsX6_playLength (wsV RX6 137 RX6 yX6_sceneStart wsX6_sceneStart) := goodIn_app (goodIn_of _ (by decide +kernel)) ggX6_playLength_X6_sceneStart
theorem dX6_playLength_0 : decode cX6_playLength 0 = .ok (.aload_n 0, 1) := by decide +kernel
theorem dX6_playLength_1 : decode cX6_playLength 1 = .ok (.aload_n 0, 1) := by decide +kernel
theorem dX6_playLength_2 : decode cX6_playLength 2 = .ok (.getfield 7, 3) := by decide +kernel
theorem dX6_playLength_5 : decode cX6_playLength 5 = .ok (.iconst 0, 1) := by decide +kernel
theorem dX6_playLength_6 : decode cX6_playLength 6 = .ok (.iaload, 1) := by decide +kernel
theorem dX6_playLength_7 : decode cX6_playLength 7 = .ok (.invokevirtual 137, 3) := by decide +kernel
theorem dX6_playLength_10 : decode cX6_playLength 10 = .ok (.ireturn, 1) := by decide +kernel
theorem dX6_roleOf_0 : decode cX6_roleOf 0 = .ok (.aload_n 0, 1) := by decide +kernel
theorem dX6_roleOf_1 : decode cX6_roleOf 1 = .ok (.getfield 7, 3) := by decide +kernel
theorem dX6_roleOf_4 : decode cX6_roleOf 4 = .ok (.bipush 45, 2) := by decide +kernel
theorem dX6_roleOf_6 : decode cX6_roleOf 6 = .ok (.iconst 4, 1) := by decide +kernel
theorem dX6_roleOf_7 : decode cX6_roleOf 7 = .ok (.iload_n 1, 1) := by decide +kernel
theorem dX6_roleOf_8 : decode cX6_roleOf 8 = .ok (.imul, 1) := by decide +kernel
theorem dX6_roleOf_9 : decode cX6_roleOf 9 = .ok (.iadd, 1) := by decide +kernel
theorem dX6_roleOf_10 : decode cX6_roleOf 10 = .ok (.iaload, 1) := by decide +kernel
theorem dX6_roleOf_11 : decode cX6_roleOf 11 = .ok (.ireturn, 1) := by decide +kernel
set_option maxRecDepth 20000 in
theorem ggX6_enters_X6_sceneStart : GoodIn wsX6_enters wsX6_sceneStart := goodIn_r _ [6, 1, 7, 8, 9, 10, 11, 12, 13, 14, 15, 16] (by decide +kernel) (by decide +kernel)
set_option maxRecDepth 20000 in
theorem gX6_enters_X6_sceneStart : GoodIn wsX6_enters (wsV RX6 137 RX6 yX6_sceneStart wsX6_sceneStart) := goodIn_app (goodIn_of _ (by decide +kernel)) ggX6_enters_X6_sceneStart
theorem dX6_enters_0 : decode cX6_enters 0 = .ok (.aload_n 0, 1) := by decide +kernel
theorem dX6_enters_1 : decode cX6_enters 1 = .ok (.aload_n 0, 1) := by decide +kernel
theorem dX6_enters_2 : decode cX6_enters 2 = .ok (.getfield 7, 3) := by decide +kernel
end
section
theorem dX6_enters_5 : decode cX6_enters 5 = .ok (.bipush 45, 2) := by decide +kernel
theorem dX6_enters_7 : decode cX6_enters 7 = .ok (.iconst 4, 1) := by decide +kernel
theorem dX6_enters_8 : decode cX6_enters 8 = .ok (.iload_n 1, 1) := by decide +kernel
theorem dX6_enters_9 : decode cX6_enters 9 = .ok (.imul, 1) := by decide +kernel
theorem dX6_enters_10 : decode cX6_enters 10 = .ok (.iadd, 1) := by decide +kernel
theorem dX6_enters_11 : decode cX6_enters 11 = .ok (.iconst 1, 1) := by decide +kernel
theorem dX6_enters_12 : decode cX6_enters 12 = .ok (.iadd, 1) := by decide +kernel
theorem dX6_enters_13 : decode cX6_enters 13 = .ok (.iaload, 1) := by decide +kernel
theorem dX6_enters_14 : decode cX6_enters 14 = .ok (.invokevirtual 137, 3) := by decide +kernel
theorem dX6_enters_17 : decode cX6_enters 17 = .ok (.aload_n 0, 1) := by decide +kernel
theorem dX6_enters_18 : decode cX6_enters 18 = .ok (.getfield 7, 3) := by decide +kernel
theorem dX6_enters_21 : decode cX6_enters 21 = .ok (.bipush 45, 2) := by decide +kernel
theorem dX6_enters_23 : decode cX6_enters 23 = .ok (.iconst 4, 1) := by decide +kernel
theorem dX6_enters_24 : decode cX6_enters 24 = .ok (.iload_n 1, 1) := by decide +kernel
theorem dX6_enters_25 : decode cX6_enters 25 = .ok (.imul, 1) := by decide +kernel
theorem dX6_enters_26 : decode cX6_enters 26 = .ok (.iadd, 1) := by decide +kernel
theorem dX6_enters_27 : decode cX6_enters 27 = .ok (.iconst 2, 1) := by decide +kernel
theorem dX6_enters_28 : decode cX6_enters 28 = .ok (.iadd, 1) := by decide +kernel
theorem dX6_enters_29 : decode cX6_enters 29 = .ok (.iaload, 1) := by decide +kernel
theorem dX6_enters_30 : decode cX6_enters 30 = .ok (.iadd, 1) := by decide +kernel
theorem dX6_enters_31 : decode cX6_enters 31 = .ok (.ireturn, 1) := by decide +kernel
set_option maxRecDepth 20000 in
theorem ggX6_exits_X6_sceneStart : GoodIn wsX6_exits wsX6_sceneStart := goodIn_r _ [6, 1, 7, 8, 9, 10, 11, 12, 13, 14, 15, 16] (by decide +kernel) (by decide +kernel)
set_option maxRecDepth 20000 in
theorem gX6_exits_X6_sceneStart : GoodIn wsX6_exits (wsV RX6 137 RX6 yX6_sceneStart wsX6_sceneStart) := goodIn_app (goodIn_of _ (by decide +kernel)) ggX6_exits_X6_sceneStart
theorem dX6_exits_0 : decode cX6_exits 0 = .ok (.aload_n 0, 1) := by decide +kernel
theorem dX6_exits_1 : decode cX6_exits 1 = .ok (.aload_n 0, 1) := by decide +kernel
theorem dX6_exits_2 : decode cX6_exits 2 = .ok (.getfield 7, 3) := by decide +kernel
theorem dX6_exits_5 : decode cX6_exits 5 = .ok (.bipush 45, 2) := by decide +kernel
theorem dX6_exits_7 : decode cX6_exits 7 = .ok (.iconst 4, 1) := by decide +kernel
theorem dX6_exits_8 : decode cX6_exits 8 = .ok (.iload_n 1, 1) := by decide +kernel
theorem dX6_exits_9 : decode cX6_exits 9 = .ok (.imul, 1) := by decide +kernel
theorem dX6_exits_10 : decode cX6_exits 10 = .ok (.iadd, 1) := by decide +kernel
theorem dX6_exits_11 : decode cX6_exits 11 = .ok (.iconst 1, 1) := by decide +kernel
theorem dX6_exits_12 : decode cX6_exits 12 = .ok (.iadd, 1) := by decide +kernel
theorem dX6_exits_13 : decode cX6_exits 13 = .ok (.iaload, 1) := by decide +kernel
theorem dX6_exits_14 : decode cX6_exits 14 = .ok (.invokevirtual 137, 3) := by decide +kernel
theorem dX6_exits_17 : decode cX6_exits 17 = .ok (.aload_n 0, 1) := by decide +kernel
theorem dX6_exits_18 : decode cX6_exits 18 = .ok (.getfield 7, 3) := by decide +kernel
theorem dX6_exits_21 : decode cX6_exits 21 = .ok (.bipush 45, 2) := by decide +kernel
theorem dX6_exits_23 : decode cX6_exits 23 = .ok (.iconst 4, 1) := by decide +kernel
theorem dX6_exits_24 : decode cX6_exits 24 = .ok (.iload_n 1, 1) := by decide +kernel
theorem dX6_exits_25 : decode cX6_exits 25 = .ok (.imul, 1) := by decide +kernel
theorem dX6_exits_26 : decode cX6_exits 26 = .ok (.iadd, 1) := by decide +kernel
theorem dX6_exits_27 : decode cX6_exits 27 = .ok (.iconst 3, 1) := by decide +kernel
theorem dX6_exits_28 : decode cX6_exits 28 = .ok (.iadd, 1) := by decide +kernel
theorem dX6_exits_29 : decode cX6_exits 29 = .ok (.iaload, 1) := by decide +kernel
theorem dX6_exits_30 : decode cX6_exits 30 = .ok (.iadd, 1) := by decide +kernel
theorem dX6_exits_31 : decode cX6_exits 31 = .ok (.ireturn, 1) := by decide +kernel
set_option maxRecDepth 20000 in
theorem ggX6_rolesAt_X6_enters : GoodIn wsX6_rolesAt wsX6_enters := goodIn_r _ [6, 1, 7, 8, 9, 5, 10, 19, 20, 21, 22, 23, 24, 25, 26, 27, 28] (by decide +kernel) (by decide +kernel)
set_option maxRecDepth 20000 in
theorem gX6_rolesAt_X6_enters : GoodIn wsX6_rolesAt (wsV RX6 140 RX6 yX6_enters wsX6_enters) := goodIn_app (goodIn_of _ (by decide +kernel)) ggX6_rolesAt_X6_enters
set_option maxRecDepth 20000 in
theorem ggX6_rolesAt_X6_exits : GoodIn wsX6_rolesAt wsX6_exits := goodIn_r _ [14, 1, 7, 8, 9, 5, 10, 19, 20, 21, 22, 23, 24, 25, 26, 27, 28] (by decide +kernel) (by decide +kernel)
set_option maxRecDepth 20000 in
theorem gX6_rolesAt_X6_exits : GoodIn wsX6_rolesAt (wsV RX6 143 RX6 yX6_exits wsX6_exits) := goodIn_app (goodIn_of _ (by decide +kernel)) ggX6_rolesAt_X6_exits
set_option maxRecDepth 20000 in
theorem ggX6_rolesAt_X6_roleOf : GoodIn wsX6_rolesAt wsX6_roleOf := goodIn_r _ [18, 1, 19, 20, 21, 22, 23, 24, 25, 26, 27, 28] (by decide +kernel) (by decide +kernel)
set_option maxRecDepth 20000 in
theorem gX6_rolesAt_X6_roleOf : GoodIn wsX6_rolesAt (wsV RX6 146 RX6 yX6_roleOf wsX6_roleOf) := goodIn_app (goodIn_of _ (by decide +kernel)) ggX6_rolesAt_X6_roleOf
theorem dX6_rolesAt_0 : decode cX6_rolesAt 0 = .ok (.iconst 0, 1) := by decide +kernel
theorem dX6_rolesAt_1 : decode cX6_rolesAt 1 = .ok (.istore_n 2, 1) := by decide +kernel
theorem dX6_rolesAt_2 : decode cX6_rolesAt 2 = .ok (.iconst 0, 1) := by decide +kernel
theorem dX6_rolesAt_3 : decode cX6_rolesAt 3 = .ok (.istore_n 3, 1) := by decide +kernel
theorem dX6_rolesAt_4 : decode cX6_rolesAt 4 = .ok (.iload_n 3, 1) := by decide +kernel
theorem dX6_rolesAt_5 : decode cX6_rolesAt 5 = .ok (.aload_n 0, 1) := by decide +kernel
theorem dX6_rolesAt_6 : decode cX6_rolesAt 6 = .ok (.getfield 7, 3) := by decide +kernel
theorem dX6_rolesAt_9 : decode cX6_rolesAt 9 = .ok (.bipush 44, 2) := by decide +kernel
theorem dX6_rolesAt_11 : decode cX6_rolesAt 11 = .ok (.iaload, 1) := by decide +kernel
theorem dX6_rolesAt_12 : decode cX6_rolesAt 12 = .ok (.if_icmp .ge 41, 3) := by decide +kernel
theorem dX6_rolesAt_15 : decode cX6_rolesAt 15 = .ok (.iload_n 2, 1) := by decide +kernel
theorem dX6_rolesAt_16 : decode cX6_rolesAt 16 = .ok (.aload_n 0, 1) := by decide +kernel
theorem dX6_rolesAt_17 : decode cX6_rolesAt 17 = .ok (.iload_n 3, 1) := by decide +kernel
theorem dX6_rolesAt_18 : decode cX6_rolesAt 18 = .ok (.invokevirtual 140, 3) := by decide +kernel
theorem dX6_rolesAt_21 : decode cX6_rolesAt 21 = .ok (.iload_n 1, 1) := by decide +kernel
theorem dX6_rolesAt_22 : decode cX6_rolesAt 22 = .ok (.if_icmp .gt 22, 3) := by decide +kernel
theorem dX6_rolesAt_25 : decode cX6_rolesAt 25 = .ok (.iload_n 1, 1) := by decide +kernel
theorem dX6_rolesAt_26 : decode cX6_rolesAt 26 = .ok (.aload_n 0, 1) := by decide +kernel
theorem dX6_rolesAt_27 : decode cX6_rolesAt 27 = .ok (.iload_n 3, 1) := by decide +kernel
theorem dX6_rolesAt_28 : decode cX6_rolesAt 28 = .ok (.invokevirtual 143, 3) := by decide +kernel
theorem dX6_rolesAt_31 : decode cX6_rolesAt 31 = .ok (.if_icmp .ge 13, 3) := by decide +kernel
theorem dX6_rolesAt_34 : decode cX6_rolesAt 34 = .ok (.iconst 1, 1) := by decide +kernel
theorem dX6_rolesAt_35 : decode cX6_rolesAt 35 = .ok (.aload_n 0, 1) := by decide +kernel
theorem dX6_rolesAt_36 : decode cX6_rolesAt 36 = .ok (.iload_n 3, 1) := by decide +kernel
theorem dX6_rolesAt_37 : decode cX6_rolesAt 37 = .ok (.invokevirtual 146, 3) := by decide +kernel
theorem dX6_rolesAt_40 : decode cX6_rolesAt 40 = .ok (.ishl, 1) := by decide +kernel
theorem dX6_rolesAt_41 : decode cX6_rolesAt 41 = .ok (.goto 4, 3) := by decide +kernel
theorem dX6_rolesAt_44 : decode cX6_rolesAt 44 = .ok (.iconst 0, 1) := by decide +kernel
theorem dX6_rolesAt_45 : decode cX6_rolesAt 45 = .ok (.ior, 1) := by decide +kernel
theorem dX6_rolesAt_46 : decode cX6_rolesAt 46 = .ok (.istore_n 2, 1) := by decide +kernel
theorem dX6_rolesAt_47 : decode cX6_rolesAt 47 = .ok (.iinc 3 1, 3) := by decide +kernel
theorem dX6_rolesAt_50 : decode cX6_rolesAt 50 = .ok (.goto (-46), 3) := by decide +kernel
theorem dX6_rolesAt_53 : decode cX6_rolesAt 53 = .ok (.iload_n 2, 1) := by decide +kernel
theorem dX6_rolesAt_54 : decode cX6_rolesAt 54 = .ok (.ireturn, 1) := by decide +kernel
set_option maxRecDepth 20000 in
theorem ggX6_onStage_X6_playLength : GoodIn wsX6_onStage wsX6_playLength := goodIn_r _ [5, 6, 7, 8, 9, 4, 10, 30, 31, 32, 33, 34, 35, 36, 37, 38, 39] (by decide +kernel) (by decide +kernel)
set_option maxRecDepth 20000 in
theorem gX6_onStage_X6_playLength : GoodIn wsX6_onStage (wsV RX6 149 RX6 yX6_playLength wsX6_playLength) := goodIn_app (goodIn_of _ (by decide +kernel)) ggX6_onStage_X6_playLength
set_option maxRecDepth 20000 in
theorem ggX6_onStage_X6_in : GoodIn wsX6_onStage wsX6_in := goodIn_r _ [13] (by decide +kernel) (by decide +kernel)
set_option maxRecDepth 20000 in
theorem gX6_onStage_X6_in : GoodIn wsX6_onStage (va_wsS RX6 44 yX6_in wsX6_in) := goodIn_app (goodIn_of _ (by decide +kernel)) ggX6_onStage_X6_in
set_option maxRecDepth 20000 in
theorem ggX6_onStage_X6_rolesAt : GoodIn wsX6_onStage wsX6_rolesAt := goodIn_r _ [17, 6, 18, 19, 20, 4, 21, 7, 8, 9, 10, 22, 23, 24, 25, 26, 27, 28, 29, 30, 31, 32, 33, 34, 35, 36, 37, 38, 39] (by decide +kernel) (by decide +kernel)
set_option maxRecDepth 20000 in
theorem gX6_onStage_X6_rolesAt : GoodIn wsX6_onStage (wsV RX6 152 RX6 yX6_rolesAt wsX6_rolesAt) := goodIn_app (goodIn_of _ (by decide +kernel)) ggX6_onStage_X6_rolesAt
theorem dX6_onStage_0 : decode cX6_onStage 0 = .ok (.iload_n 1, 1) := by decide +kernel
theorem dX6_onStage_1 : decode cX6_onStage 1 = .ok (.i2l, 1) := by decide +kernel
theorem dX6_onStage_2 : decode cX6_onStage 2 = .ok (.lconst 0, 1) := by decide +kernel
theorem dX6_onStage_3 : decode cX6_onStage 3 = .ok (.aload_n 0, 1) := by decide +kernel
theorem dX6_onStage_4 : decode cX6_onStage 4 = .ok (.invokevirtual 149, 3) := by decide +kernel
theorem dX6_onStage_7 : decode cX6_onStage 7 = .ok (.iconst 1, 1) := by decide +kernel
theorem dX6_onStage_8 : decode cX6_onStage 8 = .ok (.isub, 1) := by decide +kernel
theorem dX6_onStage_9 : decode cX6_onStage 9 = .ok (.i2l, 1) := by decide +kernel
theorem dX6_onStage_10 : decode cX6_onStage 10 = .ok (.invokestatic 44, 3) := by decide +kernel
theorem dX6_onStage_13 : decode cX6_onStage 13 = .ok (.ifCond .eq 11, 3) := by decide +kernel
theorem dX6_onStage_16 : decode cX6_onStage 16 = .ok (.aload_n 0, 1) := by decide +kernel
theorem dX6_onStage_17 : decode cX6_onStage 17 = .ok (.iload_n 1, 1) := by decide +kernel
theorem dX6_onStage_18 : decode cX6_onStage 18 = .ok (.invokevirtual 152, 3) := by decide +kernel
theorem dX6_onStage_21 : decode cX6_onStage 21 = .ok (.goto 6, 3) := by decide +kernel
theorem dX6_onStage_24 : decode cX6_onStage 24 = .ok (.sipush (-1001), 3) := by decide +kernel
theorem dX6_onStage_27 : decode cX6_onStage 27 = .ok (.ireturn, 1) := by decide +kernel
set_option maxRecDepth 20000 in
theorem ggX6_peak_X6_enters : GoodIn wsX6_peak wsX6_enters := goodIn_r _ [6, 1, 7, 8, 9, 5, 10, 26, 27, 28, 29, 30, 31, 32, 33, 34, 35] (by decide +kernel) (by decide +kernel)
set_option maxRecDepth 20000 in
theorem gX6_peak_X6_enters : GoodIn wsX6_peak (wsV RX6 140 RX6 yX6_enters wsX6_enters) := goodIn_app (goodIn_of _ (by decide +kernel)) ggX6_peak_X6_enters
set_option maxRecDepth 20000 in
theorem ggX6_peak_X6_rolesAt : GoodIn wsX6_peak wsX6_rolesAt := goodIn_r _ [14, 1, 2, 3, 4, 5, 6, 7, 8, 9, 10, 15, 16, 17, 18, 19, 20, 21, 22, 26, 27, 28, 29, 30, 31, 32, 33, 34, 35] (by decide +kernel) (by decide +kernel)
set_option maxRecDepth 20000 in
theorem gX6_peak_X6_rolesAt : GoodIn wsX6_peak (wsV RX6 152 RX6 yX6_rolesAt wsX6_rolesAt) := goodIn_app (goodIn_of _ (by decide +kernel)) ggX6_peak_X6_rolesAt
set_option maxRecDepth 20000 in
theorem ggX6_peak_X6_ones : GoodIn wsX6_peak wsX6_ones := goodIn_r _ [25] (by decide +kernel) (by decide +kernel)
set_option maxRecDepth 20000 in
theorem gX6_peak_X6_ones : GoodIn wsX6_peak (va_wsS RX6 131 yX6_ones wsX6_ones) := goodIn_app (goodIn_of _ (by decide +kernel)) ggX6_peak_X6_ones
theorem dX6_peak_0 : decode cX6_peak 0 = .ok (.iconst 0, 1) := by decide +kernel
theorem dX6_peak_1 : decode cX6_peak 1 = .ok (.istore_n 1, 1) := by decide +kernel
theorem dX6_peak_2 : decode cX6_peak 2 = .ok (.iconst 0, 1) := by decide +kernel
theorem dX6_peak_3 : decode cX6_peak 3 = .ok (.istore_n 2, 1) := by decide +kernel
theorem dX6_peak_4 : decode cX6_peak 4 = .ok (.iload_n 2, 1) := by decide +kernel
theorem dX6_peak_5 : decode cX6_peak 5 = .ok (.aload_n 0, 1) := by decide +kernel
theorem dX6_peak_6 : decode cX6_peak 6 = .ok (.getfield 7, 3) := by decide +kernel
theorem dX6_peak_9 : decode cX6_peak 9 = .ok (.bipush 44, 2) := by decide +kernel
theorem dX6_peak_11 : decode cX6_peak 11 = .ok (.iaload, 1) := by decide +kernel
theorem dX6_peak_12 : decode cX6_peak 12 = .ok (.if_icmp .ge 33, 3) := by decide +kernel
theorem dX6_peak_15 : decode cX6_peak 15 = .ok (.aload_n 0, 1) := by decide +kernel
theorem dX6_peak_16 : decode cX6_peak 16 = .ok (.aload_n 0, 1) := by decide +kernel
theorem dX6_peak_17 : decode cX6_peak 17 = .ok (.iload_n 2, 1) := by decide +kernel
theorem dX6_peak_18 : decode cX6_peak 18 = .ok (.invokevirtual 140, 3) := by decide +kernel
theorem dX6_peak_21 : decode cX6_peak 21 = .ok (.invokevirtual 152, 3) := by decide +kernel
theorem dX6_peak_24 : decode cX6_peak 24 = .ok (.invokestatic 131, 3) := by decide +kernel
theorem dX6_peak_27 : decode cX6_peak 27 = .ok (.istore_n 3, 1) := by decide +kernel
theorem dX6_peak_28 : decode cX6_peak 28 = .ok (.iload_n 3, 1) := by decide +kernel
theorem dX6_peak_29 : decode cX6_peak 29 = .ok (.iload_n 1, 1) := by decide +kernel
theorem dX6_peak_30 : decode cX6_peak 30 = .ok (.if_icmp .le 7, 3) := by decide +kernel
theorem dX6_peak_33 : decode cX6_peak 33 = .ok (.iload_n 3, 1) := by decide +kernel
theorem dX6_peak_34 : decode cX6_peak 34 = .ok (.goto 4, 3) := by decide +kernel
theorem dX6_peak_37 : decode cX6_peak 37 = .ok (.iload_n 1, 1) := by decide +kernel
theorem dX6_peak_38 : decode cX6_peak 38 = .ok (.istore_n 1, 1) := by decide +kernel
theorem dX6_peak_39 : decode cX6_peak 39 = .ok (.iinc 2 1, 3) := by decide +kernel
theorem dX6_peak_42 : decode cX6_peak 42 = .ok (.goto (-38), 3) := by decide +kernel
theorem dX6_peak_45 : decode cX6_peak 45 = .ok (.iload_n 1, 1) := by decide +kernel
theorem dX6_peak_46 : decode cX6_peak 46 = .ok (.ireturn, 1) := by decide +kernel
set_option maxRecDepth 20000 in
theorem ggX6_rolesInScene_X6_isScene : GoodIn wsX6_rolesInScene wsX6_isScene := goodIn_r _ [6, 1, 7, 8, 5, 9, 14, 15, 16, 17, 18, 19, 20, 21, 22, 23] (by decide +kernel) (by decide +kernel)
set_option maxRecDepth 20000 in
theorem gX6_rolesInScene_X6_isScene : GoodIn wsX6_rolesInScene (wsV RX6 113 RX6 yX6_isScene wsX6_isScene) := goodIn_app (goodIn_of _ (by decide +kernel)) ggX6_rolesInScene_X6_isScene
set_option maxRecDepth 20000 in
theorem ggX6_rolesInScene_X6_roleOf : GoodIn wsX6_rolesInScene wsX6_roleOf := goodIn_r _ [13, 1, 14, 15, 16, 17, 18, 19, 20, 21, 22, 23] (by decide +kernel) (by decide +kernel)
set_option maxRecDepth 20000 in
theorem gX6_rolesInScene_X6_roleOf : GoodIn wsX6_rolesInScene (wsV RX6 146 RX6 yX6_roleOf wsX6_roleOf) := goodIn_app (goodIn_of _ (by decide +kernel)) ggX6_rolesInScene_X6_roleOf
theorem dX6_rolesInScene_0 : decode cX6_rolesInScene 0 = .ok (.aload_n 0, 1) := by decide +kernel
theorem dX6_rolesInScene_1 : decode cX6_rolesInScene 1 = .ok (.iload_n 1, 1) := by decide +kernel
theorem dX6_rolesInScene_2 : decode cX6_rolesInScene 2 = .ok (.invokevirtual 113, 3) := by decide +kernel
theorem dX6_rolesInScene_5 : decode cX6_rolesInScene 5 = .ok (.ifCond .ne 7, 3) := by decide +kernel
theorem dX6_rolesInScene_8 : decode cX6_rolesInScene 8 = .ok (.sipush (-1001), 3) := by decide +kernel
theorem dX6_rolesInScene_11 : decode cX6_rolesInScene 11 = .ok (.ireturn, 1) := by decide +kernel
theorem dX6_rolesInScene_12 : decode cX6_rolesInScene 12 = .ok (.iconst 0, 1) := by decide +kernel
theorem dX6_rolesInScene_13 : decode cX6_rolesInScene 13 = .ok (.istore_n 2, 1) := by decide +kernel
theorem dX6_rolesInScene_14 : decode cX6_rolesInScene 14 = .ok (.iconst 0, 1) := by decide +kernel
theorem dX6_rolesInScene_15 : decode cX6_rolesInScene 15 = .ok (.istore_n 3, 1) := by decide +kernel
theorem dX6_rolesInScene_16 : decode cX6_rolesInScene 16 = .ok (.iload_n 3, 1) := by decide +kernel
theorem dX6_rolesInScene_17 : decode cX6_rolesInScene 17 = .ok (.aload_n 0, 1) := by decide +kernel
theorem dX6_rolesInScene_18 : decode cX6_rolesInScene 18 = .ok (.getfield 7, 3) := by decide +kernel
theorem dX6_rolesInScene_21 : decode cX6_rolesInScene 21 = .ok (.bipush 44, 2) := by decide +kernel
theorem dX6_rolesInScene_23 : decode cX6_rolesInScene 23 = .ok (.iaload, 1) := by decide +kernel
theorem dX6_rolesInScene_24 : decode cX6_rolesInScene 24 = .ok (.if_icmp .ge 40, 3) := by decide +kernel
theorem dX6_rolesInScene_27 : decode cX6_rolesInScene 27 = .ok (.iload_n 2, 1) := by decide +kernel
theorem dX6_rolesInScene_28 : decode cX6_rolesInScene 28 = .ok (.aload_n 0, 1) := by decide +kernel
theorem dX6_rolesInScene_29 : decode cX6_rolesInScene 29 = .ok (.getfield 7, 3) := by decide +kernel
theorem dX6_rolesInScene_32 : decode cX6_rolesInScene 32 = .ok (.bipush 45, 2) := by decide +kernel
theorem dX6_rolesInScene_34 : decode cX6_rolesInScene 34 = .ok (.iconst 4, 1) := by decide +kernel
theorem dX6_rolesInScene_35 : decode cX6_rolesInScene 35 = .ok (.iload_n 3, 1) := by decide +kernel
theorem dX6_rolesInScene_36 : decode cX6_rolesInScene 36 = .ok (.imul, 1) := by decide +kernel
theorem dX6_rolesInScene_37 : decode cX6_rolesInScene 37 = .ok (.iadd, 1) := by decide +kernel
theorem dX6_rolesInScene_38 : decode cX6_rolesInScene 38 = .ok (.iconst 1, 1) := by decide +kernel
theorem dX6_rolesInScene_39 : decode cX6_rolesInScene 39 = .ok (.iadd, 1) := by decide +kernel
theorem dX6_rolesInScene_40 : decode cX6_rolesInScene 40 = .ok (.iaload, 1) := by decide +kernel
theorem dX6_rolesInScene_41 : decode cX6_rolesInScene 41 = .ok (.iload_n 1, 1) := by decide +kernel
theorem dX6_rolesInScene_42 : decode cX6_rolesInScene 42 = .ok (.if_icmp .ne 13, 3) := by decide +kernel
theorem dX6_rolesInScene_45 : decode cX6_rolesInScene 45 = .ok (.iconst 1, 1) := by decide +kernel
theorem dX6_rolesInScene_46 : decode cX6_rolesInScene 46 = .ok (.aload_n 0, 1) := by decide +kernel
theorem dX6_rolesInScene_47 : decode cX6_rolesInScene 47 = .ok (.iload_n 3, 1) := by decide +kernel
theorem dX6_rolesInScene_48 : decode cX6_rolesInScene 48 = .ok (.invokevirtual 146, 3) := by decide +kernel
theorem dX6_rolesInScene_51 : decode cX6_rolesInScene 51 = .ok (.ishl, 1) := by decide +kernel
theorem dX6_rolesInScene_52 : decode cX6_rolesInScene 52 = .ok (.goto 4, 3) := by decide +kernel
theorem dX6_rolesInScene_55 : decode cX6_rolesInScene 55 = .ok (.iconst 0, 1) := by decide +kernel
theorem dX6_rolesInScene_56 : decode cX6_rolesInScene 56 = .ok (.ior, 1) := by decide +kernel
theorem dX6_rolesInScene_57 : decode cX6_rolesInScene 57 = .ok (.istore_n 2, 1) := by decide +kernel
theorem dX6_rolesInScene_58 : decode cX6_rolesInScene 58 = .ok (.iinc 3 1, 3) := by decide +kernel
theorem dX6_rolesInScene_61 : decode cX6_rolesInScene 61 = .ok (.goto (-45), 3) := by decide +kernel
theorem dX6_rolesInScene_64 : decode cX6_rolesInScene 64 = .ok (.iload_n 2, 1) := by decide +kernel
theorem dX6_rolesInScene_65 : decode cX6_rolesInScene 65 = .ok (.ireturn, 1) := by decide +kernel
theorem dX6_changeTime_0 : decode cX6_changeTime 0 = .ok (.aload_n 0, 1) := by decide +kernel
theorem dX6_changeTime_1 : decode cX6_changeTime 1 = .ok (.getfield 7, 3) := by decide +kernel
theorem dX6_changeTime_4 : decode cX6_changeTime 4 = .ok (.bipush 20, 2) := by decide +kernel
theorem dX6_changeTime_6 : decode cX6_changeTime 6 = .ok (.iload_n 1, 1) := by decide +kernel
theorem dX6_changeTime_7 : decode cX6_changeTime 7 = .ok (.iadd, 1) := by decide +kernel
theorem dX6_changeTime_8 : decode cX6_changeTime 8 = .ok (.iaload, 1) := by decide +kernel
theorem dX6_changeTime_9 : decode cX6_changeTime 9 = .ok (.aload_n 0, 1) := by decide +kernel
theorem dX6_changeTime_10 : decode cX6_changeTime 10 = .ok (.getfield 7, 3) := by decide +kernel
theorem dX6_changeTime_13 : decode cX6_changeTime 13 = .ok (.bipush 28, 2) := by decide +kernel
theorem dX6_changeTime_15 : decode cX6_changeTime 15 = .ok (.iload_n 2, 1) := by decide +kernel
theorem dX6_changeTime_16 : decode cX6_changeTime 16 = .ok (.iadd, 1) := by decide +kernel
theorem dX6_changeTime_17 : decode cX6_changeTime 17 = .ok (.iaload, 1) := by decide +kernel
theorem dX6_changeTime_18 : decode cX6_changeTime 18 = .ok (.iadd, 1) := by decide +kernel
theorem dX6_changeTime_19 : decode cX6_changeTime 19 = .ok (.iload_n 3, 1) := by decide +kernel
theorem dX6_changeTime_20 : decode cX6_changeTime 20 = .ok (.isub, 1) := by decide +kernel
theorem dX6_changeTime_21 : decode cX6_changeTime 21 = .ok (.istore 4, 2) := by decide +kernel
theorem dX6_changeTime_23 : decode cX6_changeTime 23 = .ok (.iload 4, 2) := by decide +kernel
theorem dX6_changeTime_25 : decode cX6_changeTime 25 = .ok (.ifCond .ge 7, 3) := by decide +kernel
theorem dX6_changeTime_28 : decode cX6_changeTime 28 = .ok (.iconst 0, 1) := by decide +kernel
theorem dX6_changeTime_29 : decode cX6_changeTime 29 = .ok (.goto 5, 3) := by decide +kernel
theorem dX6_changeTime_32 : decode cX6_changeTime 32 = .ok (.iload 4, 2) := by decide +kernel
theorem dX6_changeTime_34 : decode cX6_changeTime 34 = .ok (.ireturn, 1) := by decide +kernel
set_option maxRecDepth 20000 in
theorem ggX6_overlap_X6_roleOf : GoodIn wsX6_overlap wsX6_roleOf := goodIn_r _ [6, 1, 19, 20, 21, 22, 23, 24, 25, 26, 27, 28] (by decide +kernel) (by decide +kernel)
set_option maxRecDepth 20000 in
theorem gX6_overlap_X6_roleOf : GoodIn wsX6_overlap (wsV RX6 146 RX6 yX6_roleOf wsX6_roleOf) := goodIn_app (goodIn_of _ (by decide +kernel)) ggX6_overlap_X6_roleOf
set_option maxRecDepth 20000 in
theorem ggX6_overlap_X6_enters : GoodIn wsX6_overlap wsX6_enters := goodIn_r _ [10, 1, 11, 12, 13, 5, 14, 19, 20, 21, 22, 23, 24, 25, 26, 27, 28] (by decide +kernel) (by decide +kernel)
set_option maxRecDepth 20000 in
theorem gX6_overlap_X6_enters : GoodIn wsX6_overlap (wsV RX6 140 RX6 yX6_enters wsX6_enters) := goodIn_app (goodIn_of _ (by decide +kernel)) ggX6_overlap_X6_enters
set_option maxRecDepth 20000 in
theorem ggX6_overlap_X6_exits : GoodIn wsX6_overlap wsX6_exits := goodIn_r _ [18, 1, 11, 12, 13, 5, 14, 19, 20, 21, 22, 23, 24, 25, 26, 27, 28] (by decide +kernel) (by decide +kernel)
set_option maxRecDepth 20000 in
theorem gX6_overlap_X6_exits : GoodIn wsX6_overlap (wsV RX6 143 RX6 yX6_exits wsX6_exits) := goodIn_app (goodIn_of _ (by decide +kernel)) ggX6_overlap_X6_exits
theorem dX6_overlap_0 : decode cX6_overlap 0 = .ok (.iconst 0, 1) := by decide +kernel
theorem dX6_overlap_1 : decode cX6_overlap 1 = .ok (.istore_n 3, 1) := by decide +kernel
theorem dX6_overlap_2 : decode cX6_overlap 2 = .ok (.iconst 0, 1) := by decide +kernel
theorem dX6_overlap_3 : decode cX6_overlap 3 = .ok (.istore 4, 2) := by decide +kernel
theorem dX6_overlap_5 : decode cX6_overlap 5 = .ok (.iload 4, 2) := by decide +kernel
theorem dX6_overlap_7 : decode cX6_overlap 7 = .ok (.aload_n 0, 1) := by decide +kernel
theorem dX6_overlap_8 : decode cX6_overlap 8 = .ok (.getfield 7, 3) := by decide +kernel
theorem dX6_overlap_11 : decode cX6_overlap 11 = .ok (.bipush 44, 2) := by decide +kernel
theorem dX6_overlap_13 : decode cX6_overlap 13 = .ok (.iaload, 1) := by decide +kernel
theorem dX6_overlap_14 : decode cX6_overlap 14 = .ok (.if_icmp .ge 90, 3) := by decide +kernel
theorem dX6_overlap_17 : decode cX6_overlap 17 = .ok (.iconst 0, 1) := by decide +kernel
theorem dX6_overlap_18 : decode cX6_overlap 18 = .ok (.istore 5, 2) := by decide +kernel
theorem dX6_overlap_20 : decode cX6_overlap 20 = .ok (.iload 5, 2) := by decide +kernel
theorem dX6_overlap_22 : decode cX6_overlap 22 = .ok (.aload_n 0, 1) := by decide +kernel
theorem dX6_overlap_23 : decode cX6_overlap 23 = .ok (.getfield 7, 3) := by decide +kernel
theorem dX6_overlap_26 : decode cX6_overlap 26 = .ok (.bipush 44, 2) := by decide +kernel
theorem dX6_overlap_28 : decode cX6_overlap 28 = .ok (.iaload, 1) := by decide +kernel
theorem dX6_overlap_29 : decode cX6_overlap 29 = .ok (.if_icmp .ge 69, 3) := by decide +kernel
theorem dX6_overlap_32 : decode cX6_overlap 32 = .ok (.iload_n 3, 1) := by decide +kernel
theorem dX6_overlap_33 : decode cX6_overlap 33 = .ok (.ifCond .ne 53, 3) := by decide +kernel
theorem dX6_overlap_36 : decode cX6_overlap 36 = .ok (.aload_n 0, 1) := by decide +kernel
theorem dX6_overlap_37 : decode cX6_overlap 37 = .ok (.iload 4, 2) := by decide +kernel
theorem dX6_overlap_39 : decode cX6_overlap 39 = .ok (.invokevirtual 146, 3) := by decide +kernel
theorem dX6_overlap_42 : decode cX6_overlap 42 = .ok (.iload_n 1, 1) := by decide +kernel
theorem dX6_overlap_43 : decode cX6_overlap 43 = .ok (.if_icmp .ne 47, 3) := by decide +kernel
theorem dX6_overlap_46 : decode cX6_overlap 46 = .ok (.aload_n 0, 1) := by decide +kernel
theorem dX6_overlap_47 : decode cX6_overlap 47 = .ok (.iload 5, 2) := by decide +kernel
theorem dX6_overlap_49 : decode cX6_overlap 49 = .ok (.invokevirtual 146, 3) := by decide +kernel
theorem dX6_overlap_52 : decode cX6_overlap 52 = .ok (.iload_n 2, 1) := by decide +kernel
theorem dX6_overlap_53 : decode cX6_overlap 53 = .ok (.if_icmp .ne 37, 3) := by decide +kernel
theorem dX6_overlap_56 : decode cX6_overlap 56 = .ok (.aload_n 0, 1) := by decide +kernel
theorem dX6_overlap_57 : decode cX6_overlap 57 = .ok (.iload 4, 2) := by decide +kernel
theorem dX6_overlap_59 : decode cX6_overlap 59 = .ok (.invokevirtual 140, 3) := by decide +kernel
theorem dX6_overlap_62 : decode cX6_overlap 62 = .ok (.aload_n 0, 1) := by decide +kernel
theorem dX6_overlap_63 : decode cX6_overlap 63 = .ok (.iload 5, 2) := by decide +kernel
theorem dX6_overlap_65 : decode cX6_overlap 65 = .ok (.invokevirtual 143, 3) := by decide +kernel
theorem dX6_overlap_68 : decode cX6_overlap 68 = .ok (.if_icmp .ge 22, 3) := by decide +kernel
theorem dX6_overlap_71 : decode cX6_overlap 71 = .ok (.aload_n 0, 1) := by decide +kernel
theorem dX6_overlap_72 : decode cX6_overlap 72 = .ok (.iload 5, 2) := by decide +kernel
theorem dX6_overlap_74 : decode cX6_overlap 74 = .ok (.invokevirtual 140, 3) := by decide +kernel
theorem dX6_overlap_77 : decode cX6_overlap 77 = .ok (.aload_n 0, 1) := by decide +kernel
theorem dX6_overlap_78 : decode cX6_overlap 78 = .ok (.iload 4, 2) := by decide +kernel
theorem dX6_overlap_80 : decode cX6_overlap 80 = .ok (.invokevirtual 143, 3) := by decide +kernel
theorem dX6_overlap_83 : decode cX6_overlap 83 = .ok (.if_icmp .ge 7, 3) := by decide +kernel
theorem dX6_overlap_86 : decode cX6_overlap 86 = .ok (.iconst 1, 1) := by decide +kernel
theorem dX6_overlap_87 : decode cX6_overlap 87 = .ok (.goto 4, 3) := by decide +kernel
theorem dX6_overlap_90 : decode cX6_overlap 90 = .ok (.iconst 0, 1) := by decide +kernel
theorem dX6_overlap_91 : decode cX6_overlap 91 = .ok (.istore_n 3, 1) := by decide +kernel
theorem dX6_overlap_92 : decode cX6_overlap 92 = .ok (.iinc 5 1, 3) := by decide +kernel
theorem dX6_overlap_95 : decode cX6_overlap 95 = .ok (.goto (-75), 3) := by decide +kernel
theorem dX6_overlap_98 : decode cX6_overlap 98 = .ok (.iinc 4 1, 3) := by decide +kernel
theorem dX6_overlap_101 : decode cX6_overlap 101 = .ok (.goto (-96), 3) := by decide +kernel
theorem dX6_overlap_104 : decode cX6_overlap 104 = .ok (.iload_n 3, 1) := by decide +kernel
theorem dX6_overlap_105 : decode cX6_overlap 105 = .ok (.ireturn, 1) := by decide +kernel
set_option maxRecDepth 20000 in
theorem ggX6_roomOf_X6_enters : GoodIn wsX6_roomOf wsX6_enters := goodIn_r _ [7, 2, 8, 9, 10, 6, 11, 24, 25, 26, 27, 28, 29, 30, 31, 32, 33] (by decide +kernel) (by decide +kernel)
set_option maxRecDepth 20000 in
theorem gX6_roomOf_X6_enters : GoodIn wsX6_roomOf (wsV RX6 140 RX6 yX6_enters wsX6_enters) := goodIn_app (goodIn_of _ (by decide +kernel)) ggX6_roomOf_X6_enters
set_option maxRecDepth 20000 in
theorem ggX6_roomOf_X6_exits : GoodIn wsX6_roomOf wsX6_exits := goodIn_r _ [15, 2, 8, 9, 10, 6, 11, 24, 25, 26, 27, 28, 29, 30, 31, 32, 33] (by decide +kernel) (by decide +kernel)
set_option maxRecDepth 20000 in
theorem gX6_roomOf_X6_exits : GoodIn wsX6_roomOf (wsV RX6 143 RX6 yX6_exits wsX6_exits) := goodIn_app (goodIn_of _ (by decide +kernel)) ggX6_roomOf_X6_exits
set_option maxRecDepth 20000 in
theorem ggX6_roomOf_X6_roleOf : GoodIn wsX6_roomOf wsX6_roleOf := goodIn_r _ [19, 2, 24, 25, 26, 27, 28, 29, 30, 31, 32, 33] (by decide +kernel) (by decide +kernel)
set_option maxRecDepth 20000 in
theorem gX6_roomOf_X6_roleOf : GoodIn wsX6_roomOf (wsV RX6 146 RX6 yX6_roleOf wsX6_roleOf) := goodIn_app (goodIn_of _ (by decide +kernel)) ggX6_roomOf_X6_roleOf
set_option maxRecDepth 20000 in
theorem ggX6_roomOf_X6_changeTime : GoodIn wsX6_roomOf wsX6_changeTime := goodIn_r _ [23, 2, 24, 25, 26, 27, 28, 29, 30, 31, 32, 33] (by decide +kernel) (by decide +kernel)
set_option maxRecDepth 20000 in
theorem gX6_roomOf_X6_changeTime : GoodIn wsX6_roomOf (wsV RX6 156 RX6 yX6_changeTime wsX6_changeTime) := goodIn_app (goodIn_of _ (by decide +kernel)) ggX6_roomOf_X6_changeTime
theorem dX6_roomOf_0 : decode cX6_roomOf 0 = .ok (.ldc 155, 2) := by decide +kernel
theorem dX6_roomOf_2 : decode cX6_roomOf 2 = .ok (.istore 4, 2) := by decide +kernel
theorem dX6_roomOf_4 : decode cX6_roomOf 4 = .ok (.iconst 0, 1) := by decide +kernel
theorem dX6_roomOf_5 : decode cX6_roomOf 5 = .ok (.istore 5, 2) := by decide +kernel
theorem dX6_roomOf_7 : decode cX6_roomOf 7 = .ok (.iload 5, 2) := by decide +kernel
theorem dX6_roomOf_9 : decode cX6_roomOf 9 = .ok (.aload_n 0, 1) := by decide +kernel
theorem dX6_roomOf_10 : decode cX6_roomOf 10 = .ok (.getfield 7, 3) := by decide +kernel
theorem dX6_roomOf_13 : decode cX6_roomOf 13 = .ok (.bipush 44, 2) := by decide +kernel
theorem dX6_roomOf_15 : decode cX6_roomOf 15 = .ok (.iaload, 1) := by decide +kernel
theorem dX6_roomOf_16 : decode cX6_roomOf 16 = .ok (.if_icmp .ge 98, 3) := by decide +kernel
theorem dX6_roomOf_19 : decode cX6_roomOf 19 = .ok (.iconst 0, 1) := by decide +kernel
theorem dX6_roomOf_20 : decode cX6_roomOf 20 = .ok (.istore 6, 2) := by decide +kernel
theorem dX6_roomOf_22 : decode cX6_roomOf 22 = .ok (.iload 6, 2) := by decide +kernel
theorem dX6_roomOf_24 : decode cX6_roomOf 24 = .ok (.aload_n 0, 1) := by decide +kernel
theorem dX6_roomOf_25 : decode cX6_roomOf 25 = .ok (.getfield 7, 3) := by decide +kernel
theorem dX6_roomOf_28 : decode cX6_roomOf 28 = .ok (.bipush 44, 2) := by decide +kernel
theorem dX6_roomOf_30 : decode cX6_roomOf 30 = .ok (.iaload, 1) := by decide +kernel
theorem dX6_roomOf_31 : decode cX6_roomOf 31 = .ok (.if_icmp .ge 77, 3) := by decide +kernel
theorem dX6_roomOf_34 : decode cX6_roomOf 34 = .ok (.aload_n 0, 1) := by decide +kernel
theorem dX6_roomOf_35 : decode cX6_roomOf 35 = .ok (.iload 6, 2) := by decide +kernel
theorem dX6_roomOf_37 : decode cX6_roomOf 37 = .ok (.invokevirtual 140, 3) := by decide +kernel
theorem dX6_roomOf_40 : decode cX6_roomOf 40 = .ok (.aload_n 0, 1) := by decide +kernel
theorem dX6_roomOf_41 : decode cX6_roomOf 41 = .ok (.iload 5, 2) := by decide +kernel
theorem dX6_roomOf_43 : decode cX6_roomOf 43 = .ok (.invokevirtual 143, 3) := by decide +kernel
theorem dX6_roomOf_46 : decode cX6_roomOf 46 = .ok (.isub, 1) := by decide +kernel
theorem dX6_roomOf_47 : decode cX6_roomOf 47 = .ok (.istore 7, 2) := by decide +kernel
theorem dX6_roomOf_49 : decode cX6_roomOf 49 = .ok (.aload_n 0, 1) := by decide +kernel
theorem dX6_roomOf_50 : decode cX6_roomOf 50 = .ok (.iload 5, 2) := by decide +kernel
theorem dX6_roomOf_52 : decode cX6_roomOf 52 = .ok (.invokevirtual 146, 3) := by decide +kernel
theorem dX6_roomOf_55 : decode cX6_roomOf 55 = .ok (.iload_n 1, 1) := by decide +kernel
theorem dX6_roomOf_56 : decode cX6_roomOf 56 = .ok (.if_icmp .ne 46, 3) := by decide +kernel
theorem dX6_roomOf_59 : decode cX6_roomOf 59 = .ok (.aload_n 0, 1) := by decide +kernel
theorem dX6_roomOf_60 : decode cX6_roomOf 60 = .ok (.iload 6, 2) := by decide +kernel
theorem dX6_roomOf_62 : decode cX6_roomOf 62 = .ok (.invokevirtual 146, 3) := by decide +kernel
theorem dX6_roomOf_65 : decode cX6_roomOf 65 = .ok (.iload_n 2, 1) := by decide +kernel
theorem dX6_roomOf_66 : decode cX6_roomOf 66 = .ok (.if_icmp .ne 36, 3) := by decide +kernel
theorem dX6_roomOf_69 : decode cX6_roomOf 69 = .ok (.iload 7, 2) := by decide +kernel
theorem dX6_roomOf_71 : decode cX6_roomOf 71 = .ok (.ifCond .lt 31, 3) := by decide +kernel
theorem dX6_roomOf_74 : decode cX6_roomOf 74 = .ok (.iload 7, 2) := by decide +kernel
theorem dX6_roomOf_76 : decode cX6_roomOf 76 = .ok (.aload_n 0, 1) := by decide +kernel
theorem dX6_roomOf_77 : decode cX6_roomOf 77 = .ok (.iload_n 1, 1) := by decide +kernel
theorem dX6_roomOf_78 : decode cX6_roomOf 78 = .ok (.iload_n 2, 1) := by decide +kernel
theorem dX6_roomOf_79 : decode cX6_roomOf 79 = .ok (.iload_n 3, 1) := by decide +kernel
theorem dX6_roomOf_80 : decode cX6_roomOf 80 = .ok (.invokevirtual 156, 3) := by decide +kernel
theorem dX6_roomOf_83 : decode cX6_roomOf 83 = .ok (.isub, 1) := by decide +kernel
theorem dX6_roomOf_84 : decode cX6_roomOf 84 = .ok (.istore 8, 2) := by decide +kernel
theorem dX6_roomOf_86 : decode cX6_roomOf 86 = .ok (.iload 8, 2) := by decide +kernel
theorem dX6_roomOf_88 : decode cX6_roomOf 88 = .ok (.iload 4, 2) := by decide +kernel
theorem dX6_roomOf_90 : decode cX6_roomOf 90 = .ok (.if_icmp .ge 8, 3) := by decide +kernel
theorem dX6_roomOf_93 : decode cX6_roomOf 93 = .ok (.iload 8, 2) := by decide +kernel
theorem dX6_roomOf_95 : decode cX6_roomOf 95 = .ok (.goto 5, 3) := by decide +kernel
theorem dX6_roomOf_98 : decode cX6_roomOf 98 = .ok (.iload 4, 2) := by decide +kernel
theorem dX6_roomOf_100 : decode cX6_roomOf 100 = .ok (.istore 4, 2) := by decide +kernel
theorem dX6_roomOf_102 : decode cX6_roomOf 102 = .ok (.iinc 6 1, 3) := by decide +kernel
theorem dX6_roomOf_105 : decode cX6_roomOf 105 = .ok (.goto (-83), 3) := by decide +kernel
theorem dX6_roomOf_108 : decode cX6_roomOf 108 = .ok (.iinc 5 1, 3) := by decide +kernel
theorem dX6_roomOf_111 : decode cX6_roomOf 111 = .ok (.goto (-104), 3) := by decide +kernel
theorem dX6_roomOf_114 : decode cX6_roomOf 114 = .ok (.iload 4, 2) := by decide +kernel
theorem dX6_roomOf_116 : decode cX6_roomOf 116 = .ok (.ireturn, 1) := by decide +kernel
set_option maxRecDepth 20000 in
theorem ggX6_reasonOf_X6_overlap : GoodIn wsX6_reasonOf wsX6_overlap := goodIn_r _ [6, 1, 7, 8, 9, 5, 10, 11, 12, 13, 14, 15, 16, 17, 18, 19, 20, 21, 22, 32, 33, 34, 35, 36, 37, 38, 39, 40, 41] (by decide +kernel) (by decide +kernel)
set_option maxRecDepth 20000 in
theorem gX6_reasonOf_X6_overlap : GoodIn wsX6_reasonOf (wsV RX6 160 RX6 yX6_overlap wsX6_overlap) := goodIn_app (goodIn_of _ (by decide +kernel)) ggX6_reasonOf_X6_overlap
set_option maxRecDepth 20000 in
theorem ggX6_reasonOf_X6_roomOf : GoodIn wsX6_reasonOf wsX6_roomOf := goodIn_r _ [26, 27, 1, 11, 12, 13, 5, 14, 15, 16, 17, 18, 19, 20, 21, 22, 7, 8, 9, 10, 28, 29, 30, 31, 32, 33, 34, 35, 36, 37, 38, 39, 40, 41] (by decide +kernel) (by decide +kernel)
set_option maxRecDepth 20000 in
theorem gX6_reasonOf_X6_roomOf : GoodIn wsX6_reasonOf (wsV RX6 164 RX6 yX6_roomOf wsX6_roomOf) := goodIn_app (goodIn_of _ (by decide +kernel)) ggX6_reasonOf_X6_roomOf
theorem dX6_reasonOf_0 : decode cX6_reasonOf 0 = .ok (.aload_n 0, 1) := by decide +kernel
theorem dX6_reasonOf_1 : decode cX6_reasonOf 1 = .ok (.getfield 7, 3) := by decide +kernel
theorem dX6_reasonOf_4 : decode cX6_reasonOf 4 = .ok (.bipush 12, 2) := by decide +kernel
theorem dX6_reasonOf_6 : decode cX6_reasonOf 6 = .ok (.iload_n 1, 1) := by decide +kernel
theorem dX6_reasonOf_7 : decode cX6_reasonOf 7 = .ok (.iadd, 1) := by decide +kernel
theorem dX6_reasonOf_8 : decode cX6_reasonOf 8 = .ok (.iaload, 1) := by decide +kernel
theorem dX6_reasonOf_9 : decode cX6_reasonOf 9 = .ok (.aload_n 0, 1) := by decide +kernel
theorem dX6_reasonOf_10 : decode cX6_reasonOf 10 = .ok (.getfield 7, 3) := by decide +kernel
theorem dX6_reasonOf_13 : decode cX6_reasonOf 13 = .ok (.bipush 12, 2) := by decide +kernel
theorem dX6_reasonOf_15 : decode cX6_reasonOf 15 = .ok (.iload_n 2, 1) := by decide +kernel
theorem dX6_reasonOf_16 : decode cX6_reasonOf 16 = .ok (.iadd, 1) := by decide +kernel
theorem dX6_reasonOf_17 : decode cX6_reasonOf 17 = .ok (.iaload, 1) := by decide +kernel
theorem dX6_reasonOf_18 : decode cX6_reasonOf 18 = .ok (.if_icmp .eq 5, 3) := by decide +kernel
theorem dX6_reasonOf_21 : decode cX6_reasonOf 21 = .ok (.iconst 1, 1) := by decide +kernel
theorem dX6_reasonOf_22 : decode cX6_reasonOf 22 = .ok (.ireturn, 1) := by decide +kernel
theorem dX6_reasonOf_23 : decode cX6_reasonOf 23 = .ok (.aload_n 0, 1) := by decide +kernel
theorem dX6_reasonOf_24 : decode cX6_reasonOf 24 = .ok (.iload_n 1, 1) := by decide +kernel
theorem dX6_reasonOf_25 : decode cX6_reasonOf 25 = .ok (.iload_n 2, 1) := by decide +kernel
theorem dX6_reasonOf_26 : decode cX6_reasonOf 26 = .ok (.invokevirtual 160, 3) := by decide +kernel
theorem dX6_reasonOf_29 : decode cX6_reasonOf 29 = .ok (.ifCond .eq 5, 3) := by decide +kernel
theorem dX6_reasonOf_32 : decode cX6_reasonOf 32 = .ok (.iconst 2, 1) := by decide +kernel
theorem dX6_reasonOf_33 : decode cX6_reasonOf 33 = .ok (.ireturn, 1) := by decide +kernel
theorem dX6_reasonOf_34 : decode cX6_reasonOf 34 = .ok (.aload_n 0, 1) := by decide +kernel
theorem dX6_reasonOf_35 : decode cX6_reasonOf 35 = .ok (.iload_n 1, 1) := by decide +kernel
theorem dX6_reasonOf_36 : decode cX6_reasonOf 36 = .ok (.iload_n 2, 1) := by decide +kernel
theorem dX6_reasonOf_37 : decode cX6_reasonOf 37 = .ok (.iload_n 3, 1) := by decide +kernel
theorem dX6_reasonOf_38 : decode cX6_reasonOf 38 = .ok (.invokevirtual 164, 3) := by decide +kernel
theorem dX6_reasonOf_41 : decode cX6_reasonOf 41 = .ok (.ifCond .lt 13, 3) := by decide +kernel
theorem dX6_reasonOf_44 : decode cX6_reasonOf 44 = .ok (.aload_n 0, 1) := by decide +kernel
theorem dX6_reasonOf_45 : decode cX6_reasonOf 45 = .ok (.iload_n 2, 1) := by decide +kernel
theorem dX6_reasonOf_46 : decode cX6_reasonOf 46 = .ok (.iload_n 1, 1) := by decide +kernel
theorem dX6_reasonOf_47 : decode cX6_reasonOf 47 = .ok (.iload_n 3, 1) := by decide +kernel
theorem dX6_reasonOf_48 : decode cX6_reasonOf 48 = .ok (.invokevirtual 164, 3) := by decide +kernel
theorem dX6_reasonOf_51 : decode cX6_reasonOf 51 = .ok (.ifCond .ge 7, 3) := by decide +kernel
theorem dX6_reasonOf_54 : decode cX6_reasonOf 54 = .ok (.iconst 3, 1) := by decide +kernel
theorem dX6_reasonOf_55 : decode cX6_reasonOf 55 = .ok (.goto 4, 3) := by decide +kernel
theorem dX6_reasonOf_58 : decode cX6_reasonOf 58 = .ok (.iconst 0, 1) := by decide +kernel
theorem dX6_reasonOf_59 : decode cX6_reasonOf 59 = .ok (.ireturn, 1) := by decide +kernel
set_option maxRecDepth 20000 in
theorem ggX6_layConflicts_X6_reasonOf : GoodIn wsX6_layConflicts wsX6_reasonOf := goodIn_r _ [7, 1, 8, 9, 10, 6, 11, 12, 13, 14, 15, 16, 17, 18, 19, 20, 21, 22, 23, 24, 25, 26, 27, 28, 29, 30, 31, 32, 33, 34, 35, 36, 37, 38, 39, 40, 41, 42, 43, 44, 45, 46] (by decide +kernel) (by decide +kernel)
set_option maxRecDepth 20000 in
theorem gX6_layConflicts_X6_reasonOf : GoodIn wsX6_layConflicts (wsV RX6 167 RX6 yX6_reasonOf wsX6_reasonOf) := goodIn_app (goodIn_of _ (by decide +kernel)) ggX6_layConflicts_X6_reasonOf
theorem dX6_layConflicts_0 : decode cX6_layConflicts 0 = .ok (.iconst 0, 1) := by decide +kernel
theorem dX6_layConflicts_1 : decode cX6_layConflicts 1 = .ok (.istore_n 2, 1) := by decide +kernel
theorem dX6_layConflicts_2 : decode cX6_layConflicts 2 = .ok (.iload_n 2, 1) := by decide +kernel
theorem dX6_layConflicts_3 : decode cX6_layConflicts 3 = .ok (.aload_n 0, 1) := by decide +kernel
theorem dX6_layConflicts_4 : decode cX6_layConflicts 4 = .ok (.getfield 7, 3) := by decide +kernel
theorem dX6_layConflicts_7 : decode cX6_layConflicts 7 = .ok (.bipush 11, 2) := by decide +kernel
theorem dX6_layConflicts_9 : decode cX6_layConflicts 9 = .ok (.iaload, 1) := by decide +kernel
theorem dX6_layConflicts_10 : decode cX6_layConflicts 10 = .ok (.if_icmp .ge 66, 3) := by decide +kernel
theorem dX6_layConflicts_13 : decode cX6_layConflicts 13 = .ok (.aload_n 0, 1) := by decide +kernel
theorem dX6_layConflicts_14 : decode cX6_layConflicts 14 = .ok (.getfield 22, 3) := by decide +kernel
theorem dX6_layConflicts_17 : decode cX6_layConflicts 17 = .ok (.iload_n 2, 1) := by decide +kernel
theorem dX6_layConflicts_18 : decode cX6_layConflicts 18 = .ok (.iconst 0, 1) := by decide +kernel
theorem dX6_layConflicts_19 : decode cX6_layConflicts 19 = .ok (.iastore, 1) := by decide +kernel
theorem dX6_layConflicts_20 : decode cX6_layConflicts 20 = .ok (.iconst 0, 1) := by decide +kernel
theorem dX6_layConflicts_21 : decode cX6_layConflicts 21 = .ok (.istore_n 3, 1) := by decide +kernel
theorem dX6_layConflicts_22 : decode cX6_layConflicts 22 = .ok (.iload_n 3, 1) := by decide +kernel
theorem dX6_layConflicts_23 : decode cX6_layConflicts 23 = .ok (.aload_n 0, 1) := by decide +kernel
theorem dX6_layConflicts_24 : decode cX6_layConflicts 24 = .ok (.getfield 7, 3) := by decide +kernel
theorem dX6_layConflicts_27 : decode cX6_layConflicts 27 = .ok (.bipush 11, 2) := by decide +kernel
theorem dX6_layConflicts_29 : decode cX6_layConflicts 29 = .ok (.iaload, 1) := by decide +kernel
theorem dX6_layConflicts_30 : decode cX6_layConflicts 30 = .ok (.if_icmp .ge 40, 3) := by decide +kernel
theorem dX6_layConflicts_33 : decode cX6_layConflicts 33 = .ok (.aload_n 0, 1) := by decide +kernel
theorem dX6_layConflicts_34 : decode cX6_layConflicts 34 = .ok (.getfield 22, 3) := by decide +kernel
theorem dX6_layConflicts_37 : decode cX6_layConflicts 37 = .ok (.iload_n 2, 1) := by decide +kernel
theorem dX6_layConflicts_38 : decode cX6_layConflicts 38 = .ok (.dup2, 1) := by decide +kernel
theorem dX6_layConflicts_39 : decode cX6_layConflicts 39 = .ok (.iaload, 1) := by decide +kernel
theorem dX6_layConflicts_40 : decode cX6_layConflicts 40 = .ok (.iload_n 2, 1) := by decide +kernel
theorem dX6_layConflicts_41 : decode cX6_layConflicts 41 = .ok (.iload_n 3, 1) := by decide +kernel
theorem dX6_layConflicts_42 : decode cX6_layConflicts 42 = .ok (.if_icmp .eq 19, 3) := by decide +kernel
theorem dX6_layConflicts_45 : decode cX6_layConflicts 45 = .ok (.aload_n 0, 1) := by decide +kernel
theorem dX6_layConflicts_46 : decode cX6_layConflicts 46 = .ok (.iload_n 2, 1) := by decide +kernel
theorem dX6_layConflicts_47 : decode cX6_layConflicts 47 = .ok (.iload_n 3, 1) := by decide +kernel
theorem dX6_layConflicts_48 : decode cX6_layConflicts 48 = .ok (.iload_n 1, 1) := by decide +kernel
theorem dX6_layConflicts_49 : decode cX6_layConflicts 49 = .ok (.invokevirtual 167, 3) := by decide +kernel
theorem dX6_layConflicts_52 : decode cX6_layConflicts 52 = .ok (.ifCond .eq 9, 3) := by decide +kernel
theorem dX6_layConflicts_55 : decode cX6_layConflicts 55 = .ok (.iconst 1, 1) := by decide +kernel
theorem dX6_layConflicts_56 : decode cX6_layConflicts 56 = .ok (.iload_n 3, 1) := by decide +kernel
theorem dX6_layConflicts_57 : decode cX6_layConflicts 57 = .ok (.ishl, 1) := by decide +kernel
theorem dX6_layConflicts_58 : decode cX6_layConflicts 58 = .ok (.goto 4, 3) := by decide +kernel
theorem dX6_layConflicts_61 : decode cX6_layConflicts 61 = .ok (.iconst 0, 1) := by decide +kernel
theorem dX6_layConflicts_62 : decode cX6_layConflicts 62 = .ok (.ior, 1) := by decide +kernel
theorem dX6_layConflicts_63 : decode cX6_layConflicts 63 = .ok (.iastore, 1) := by decide +kernel
theorem dX6_layConflicts_64 : decode cX6_layConflicts 64 = .ok (.iinc 3 1, 3) := by decide +kernel
theorem dX6_layConflicts_67 : decode cX6_layConflicts 67 = .ok (.goto (-45), 3) := by decide +kernel
theorem dX6_layConflicts_70 : decode cX6_layConflicts 70 = .ok (.iinc 2 1, 3) := by decide +kernel
theorem dX6_layConflicts_73 : decode cX6_layConflicts 73 = .ok (.goto (-71), 3) := by decide +kernel
theorem dX6_layConflicts_76 : decode cX6_layConflicts 76 = .ok (.return_, 1) := by decide +kernel
set_option maxRecDepth 20000 in
theorem ggX6_areTwo_X6_isRole : GoodIn wsX6_areTwo wsX6_isRole := goodIn_r _ [5, 6, 7, 8, 4, 9, 10, 11, 12, 13, 14, 15, 16, 17, 18, 19] (by decide +kernel) (by decide +kernel)
set_option maxRecDepth 20000 in
theorem gX6_areTwo_X6_isRole : GoodIn wsX6_areTwo (wsV RX6 109 RX6 yX6_isRole wsX6_isRole) := goodIn_app (goodIn_of _ (by decide +kernel)) ggX6_areTwo_X6_isRole
theorem dX6_areTwo_0 : decode cX6_areTwo 0 = .ok (.aload_n 0, 1) := by decide +kernel
theorem dX6_areTwo_1 : decode cX6_areTwo 1 = .ok (.iload_n 1, 1) := by decide +kernel
theorem dX6_areTwo_2 : decode cX6_areTwo 2 = .ok (.invokevirtual 109, 3) := by decide +kernel
theorem dX6_areTwo_5 : decode cX6_areTwo 5 = .ok (.ifCond .eq 20, 3) := by decide +kernel
theorem dX6_areTwo_8 : decode cX6_areTwo 8 = .ok (.aload_n 0, 1) := by decide +kernel
theorem dX6_areTwo_9 : decode cX6_areTwo 9 = .ok (.iload_n 2, 1) := by decide +kernel
theorem dX6_areTwo_10 : decode cX6_areTwo 10 = .ok (.invokevirtual 109, 3) := by decide +kernel
theorem dX6_areTwo_13 : decode cX6_areTwo 13 = .ok (.ifCond .eq 12, 3) := by decide +kernel
theorem dX6_areTwo_16 : decode cX6_areTwo 16 = .ok (.iload_n 1, 1) := by decide +kernel
theorem dX6_areTwo_17 : decode cX6_areTwo 17 = .ok (.iload_n 2, 1) := by decide +kernel
theorem dX6_areTwo_18 : decode cX6_areTwo 18 = .ok (.if_icmp .eq 7, 3) := by decide +kernel
theorem dX6_areTwo_21 : decode cX6_areTwo 21 = .ok (.iconst 1, 1) := by decide +kernel
theorem dX6_areTwo_22 : decode cX6_areTwo 22 = .ok (.goto 4, 3) := by decide +kernel
theorem dX6_areTwo_25 : decode cX6_areTwo 25 = .ok (.iconst 0, 1) := by decide +kernel
theorem dX6_areTwo_26 : decode cX6_areTwo 26 = .ok (.ireturn, 1) := by decide +kernel
set_option maxRecDepth 20000 in
theorem ggX6_conflict_X6_areTwo : GoodIn wsX6_conflict wsX6_areTwo := goodIn_r _ [5, 6, 7, 8, 4, 9, 10, 11, 12, 13, 47, 48, 49, 50, 51, 52, 53, 54, 55, 56] (by decide +kernel) (by decide +kernel)
set_option maxRecDepth 20000 in
theorem gX6_conflict_X6_areTwo : GoodIn wsX6_conflict (wsV RX6 170 RX6 yX6_areTwo wsX6_areTwo) := goodIn_app (goodIn_of _ (by decide +kernel)) ggX6_conflict_X6_areTwo
set_option maxRecDepth 20000 in
theorem ggX6_conflict_X6_reasonOf : GoodIn wsX6_conflict wsX6_reasonOf := goodIn_r _ [17, 10, 18, 19, 20, 4, 21, 22, 23, 24, 25, 26, 27, 28, 29, 30, 31, 32, 33, 34, 35, 36, 37, 38, 39, 40, 41, 42, 43, 44, 45, 46, 47, 48, 49, 50, 51, 52, 53, 54, 55, 56] (by decide +kernel) (by decide +kernel)
set_option maxRecDepth 20000 in
theorem gX6_conflict_X6_reasonOf : GoodIn wsX6_conflict (wsV RX6 167 RX6 yX6_reasonOf wsX6_reasonOf) := goodIn_app (goodIn_of _ (by decide +kernel)) ggX6_conflict_X6_reasonOf
theorem dX6_conflict_0 : decode cX6_conflict 0 = .ok (.aload_n 0, 1) := by decide +kernel
theorem dX6_conflict_1 : decode cX6_conflict 1 = .ok (.iload_n 1, 1) := by decide +kernel
theorem dX6_conflict_2 : decode cX6_conflict 2 = .ok (.iload_n 2, 1) := by decide +kernel
theorem dX6_conflict_3 : decode cX6_conflict 3 = .ok (.invokevirtual 170, 3) := by decide +kernel
theorem dX6_conflict_6 : decode cX6_conflict 6 = .ok (.ifCond .eq 13, 3) := by decide +kernel
theorem dX6_conflict_9 : decode cX6_conflict 9 = .ok (.aload_n 0, 1) := by decide +kernel
theorem dX6_conflict_10 : decode cX6_conflict 10 = .ok (.iload_n 1, 1) := by decide +kernel
theorem dX6_conflict_11 : decode cX6_conflict 11 = .ok (.iload_n 2, 1) := by decide +kernel
theorem dX6_conflict_12 : decode cX6_conflict 12 = .ok (.iconst 0, 1) := by decide +kernel
theorem dX6_conflict_13 : decode cX6_conflict 13 = .ok (.invokevirtual 167, 3) := by decide +kernel
theorem dX6_conflict_16 : decode cX6_conflict 16 = .ok (.goto 6, 3) := by decide +kernel
theorem dX6_conflict_19 : decode cX6_conflict 19 = .ok (.sipush (-1001), 3) := by decide +kernel
theorem dX6_conflict_22 : decode cX6_conflict 22 = .ok (.ireturn, 1) := by decide +kernel
set_option maxRecDepth 20000 in
theorem ggX6_conflictCount_X6_layConflicts : GoodIn wsX6_conflictCount wsX6_layConflicts := goodIn_r _ [7, 1, 2, 8, 9, 10, 6, 11, 12, 13, 14, 15, 16, 17, 18, 19, 20, 21, 22, 23, 24, 25, 26, 27, 28, 29, 30, 31, 32, 33, 34, 35, 36, 37, 38, 39, 40, 44, 45, 46, 47, 48, 49, 50, 51, 52, 53] (by decide +kernel) (by decide +kernel)
set_option maxRecDepth 20000 in
theorem gX6_conflictCount_X6_layConflicts : GoodIn wsX6_conflictCount (wsV RX6 106 RX6 yX6_layConflicts wsX6_layConflicts) := goodIn_app (goodIn_of _ (by decide +kernel)) ggX6_conflictCount_X6_layConflicts
set_option maxRecDepth 20000 in
theorem ggX6_conflictCount_X6_ones : GoodIn wsX6_conflictCount wsX6_ones := goodIn_r _ [43] (by decide +kernel) (by decide +kernel)
set_option maxRecDepth 20000 in
theorem gX6_conflictCount_X6_ones : GoodIn wsX6_conflictCount (va_wsS RX6 131 yX6_ones wsX6_ones) := goodIn_app (goodIn_of _ (by decide +kernel)) ggX6_conflictCount_X6_ones
theorem dX6_conflictCount_0 : decode cX6_conflictCount 0 = .ok (.aload_n 0, 1) := by decide +kernel
theorem dX6_conflictCount_1 : decode cX6_conflictCount 1 = .ok (.iconst 0, 1) := by decide +kernel
theorem dX6_conflictCount_2 : decode cX6_conflictCount 2 = .ok (.invokevirtual 106, 3) := by decide +kernel
theorem dX6_conflictCount_5 : decode cX6_conflictCount 5 = .ok (.iconst 0, 1) := by decide +kernel
theorem dX6_conflictCount_6 : decode cX6_conflictCount 6 = .ok (.istore_n 1, 1) := by decide +kernel
theorem dX6_conflictCount_7 : decode cX6_conflictCount 7 = .ok (.iconst 0, 1) := by decide +kernel
theorem dX6_conflictCount_8 : decode cX6_conflictCount 8 = .ok (.istore_n 2, 1) := by decide +kernel
theorem dX6_conflictCount_9 : decode cX6_conflictCount 9 = .ok (.iload_n 2, 1) := by decide +kernel
theorem dX6_conflictCount_10 : decode cX6_conflictCount 10 = .ok (.aload_n 0, 1) := by decide +kernel
theorem dX6_conflictCount_11 : decode cX6_conflictCount 11 = .ok (.getfield 7, 3) := by decide +kernel
theorem dX6_conflictCount_14 : decode cX6_conflictCount 14 = .ok (.bipush 11, 2) := by decide +kernel
theorem dX6_conflictCount_16 : decode cX6_conflictCount 16 = .ok (.iaload, 1) := by decide +kernel
theorem dX6_conflictCount_17 : decode cX6_conflictCount 17 = .ok (.if_icmp .ge 21, 3) := by decide +kernel
theorem dX6_conflictCount_20 : decode cX6_conflictCount 20 = .ok (.iload_n 1, 1) := by decide +kernel
theorem dX6_conflictCount_21 : decode cX6_conflictCount 21 = .ok (.aload_n 0, 1) := by decide +kernel
theorem dX6_conflictCount_22 : decode cX6_conflictCount 22 = .ok (.getfield 22, 3) := by decide +kernel
theorem dX6_conflictCount_25 : decode cX6_conflictCount 25 = .ok (.iload_n 2, 1) := by decide +kernel
theorem dX6_conflictCount_26 : decode cX6_conflictCount 26 = .ok (.iaload, 1) := by decide +kernel
theorem dX6_conflictCount_27 : decode cX6_conflictCount 27 = .ok (.invokestatic 131, 3) := by decide +kernel
theorem dX6_conflictCount_30 : decode cX6_conflictCount 30 = .ok (.iadd, 1) := by decide +kernel
theorem dX6_conflictCount_31 : decode cX6_conflictCount 31 = .ok (.istore_n 1, 1) := by decide +kernel
theorem dX6_conflictCount_32 : decode cX6_conflictCount 32 = .ok (.iinc 2 1, 3) := by decide +kernel
theorem dX6_conflictCount_35 : decode cX6_conflictCount 35 = .ok (.goto (-26), 3) := by decide +kernel
theorem dX6_conflictCount_38 : decode cX6_conflictCount 38 = .ok (.iload_n 1, 1) := by decide +kernel
theorem dX6_conflictCount_39 : decode cX6_conflictCount 39 = .ok (.iconst 2, 1) := by decide +kernel
theorem dX6_conflictCount_40 : decode cX6_conflictCount 40 = .ok (.idiv, 1) := by decide +kernel
theorem dX6_conflictCount_41 : decode cX6_conflictCount 41 = .ok (.ireturn, 1) := by decide +kernel
set_option maxRecDepth 20000 in
theorem ggX6_slackOf_X6_roomOf : GoodIn wsX6_slackOf wsX6_roomOf := goodIn_r _ [5, 6, 7, 8, 9, 10, 4, 11, 12, 13, 14, 15, 16, 17, 18, 19, 20, 21, 22, 23, 24, 25, 26, 27, 28, 29, 30, 31, 32, 33, 34, 35, 36, 37] (by decide +kernel) (by decide +kernel)
set_option maxRecDepth 20000 in
theorem gX6_slackOf_X6_roomOf : GoodIn wsX6_slackOf (wsV RX6 164 RX6 yX6_roomOf wsX6_roomOf) := goodIn_app (goodIn_of _ (by decide +kernel)) ggX6_slackOf_X6_roomOf
theorem dX6_slackOf_0 : decode cX6_slackOf 0 = .ok (.aload_n 0, 1) := by decide +kernel
theorem dX6_slackOf_1 : decode cX6_slackOf 1 = .ok (.iload_n 1, 1) := by decide +kernel
theorem dX6_slackOf_2 : decode cX6_slackOf 2 = .ok (.iload_n 2, 1) := by decide +kernel
theorem dX6_slackOf_3 : decode cX6_slackOf 3 = .ok (.iconst 0, 1) := by decide +kernel
theorem dX6_slackOf_4 : decode cX6_slackOf 4 = .ok (.invokevirtual 164, 3) := by decide +kernel
theorem dX6_slackOf_7 : decode cX6_slackOf 7 = .ok (.istore_n 3, 1) := by decide +kernel
theorem dX6_slackOf_8 : decode cX6_slackOf 8 = .ok (.aload_n 0, 1) := by decide +kernel
theorem dX6_slackOf_9 : decode cX6_slackOf 9 = .ok (.iload_n 2, 1) := by decide +kernel
theorem dX6_slackOf_10 : decode cX6_slackOf 10 = .ok (.iload_n 1, 1) := by decide +kernel
theorem dX6_slackOf_11 : decode cX6_slackOf 11 = .ok (.iconst 0, 1) := by decide +kernel
theorem dX6_slackOf_12 : decode cX6_slackOf 12 = .ok (.invokevirtual 164, 3) := by decide +kernel
theorem dX6_slackOf_15 : decode cX6_slackOf 15 = .ok (.istore 4, 2) := by decide +kernel
theorem dX6_slackOf_17 : decode cX6_slackOf 17 = .ok (.iload_n 3, 1) := by decide +kernel
theorem dX6_slackOf_18 : decode cX6_slackOf 18 = .ok (.iload 4, 2) := by decide +kernel
theorem dX6_slackOf_20 : decode cX6_slackOf 20 = .ok (.if_icmp .ge 7, 3) := by decide +kernel
theorem dX6_slackOf_23 : decode cX6_slackOf 23 = .ok (.iload_n 3, 1) := by decide +kernel
theorem dX6_slackOf_24 : decode cX6_slackOf 24 = .ok (.goto 5, 3) := by decide +kernel
theorem dX6_slackOf_27 : decode cX6_slackOf 27 = .ok (.iload 4, 2) := by decide +kernel
theorem dX6_slackOf_29 : decode cX6_slackOf 29 = .ok (.ireturn, 1) := by decide +kernel
set_option maxRecDepth 20000 in
theorem ggX6_slack_X6_areTwo : GoodIn wsX6_slack wsX6_areTwo := goodIn_r _ [6, 7, 8, 9, 5, 10, 11, 12, 13, 14, 47, 48, 49, 50, 51, 52, 53, 54, 55, 56] (by decide +kernel) (by decide +kernel)
set_option maxRecDepth 20000 in
theorem gX6_slack_X6_areTwo : GoodIn wsX6_slack (wsV RX6 170 RX6 yX6_areTwo wsX6_areTwo) := goodIn_app (goodIn_of _ (by decide +kernel)) ggX6_slack_X6_areTwo
set_option maxRecDepth 20000 in
theorem ggX6_slack_X6_overlap : GoodIn wsX6_slack wsX6_overlap := goodIn_r _ [18, 11, 19, 20, 21, 5, 22, 23, 24, 25, 26, 27, 28, 29, 30, 31, 32, 33, 34, 47, 48, 49, 50, 51, 52, 53, 54, 55, 56] (by decide +kernel) (by decide +kernel)
set_option maxRecDepth 20000 in
theorem gX6_slack_X6_overlap : GoodIn wsX6_slack (wsV RX6 160 RX6 yX6_overlap wsX6_overlap) := goodIn_app (goodIn_of _ (by decide +kernel)) ggX6_slack_X6_overlap
set_option maxRecDepth 20000 in
theorem ggX6_slack_X6_slackOf : GoodIn wsX6_slack wsX6_slackOf := goodIn_r _ [38, 39, 40, 41, 5, 42, 1, 11, 23, 24, 25, 26, 27, 28, 29, 30, 31, 32, 33, 34, 19, 20, 21, 22, 43, 44, 45, 46, 47, 48, 49, 50, 51, 52, 53, 54, 55, 56] (by decide +kernel) (by decide +kernel)
set_option maxRecDepth 20000 in
theorem gX6_slack_X6_slackOf : GoodIn wsX6_slack (wsV RX6 173 RX6 yX6_slackOf wsX6_slackOf) := goodIn_app (goodIn_of _ (by decide +kernel)) ggX6_slack_X6_slackOf
theorem dX6_slack_0 : decode cX6_slack 0 = .ok (.aload_n 0, 1) := by decide +kernel
theorem dX6_slack_1 : decode cX6_slack 1 = .ok (.iload_n 1, 1) := by decide +kernel
theorem dX6_slack_2 : decode cX6_slack 2 = .ok (.iload_n 2, 1) := by decide +kernel
theorem dX6_slack_3 : decode cX6_slack 3 = .ok (.invokevirtual 170, 3) := by decide +kernel
theorem dX6_slack_6 : decode cX6_slack 6 = .ok (.ifCond .ne 7, 3) := by decide +kernel
theorem dX6_slack_9 : decode cX6_slack 9 = .ok (.sipush (-1001), 3) := by decide +kernel
theorem dX6_slack_12 : decode cX6_slack 12 = .ok (.ireturn, 1) := by decide +kernel
theorem dX6_slack_13 : decode cX6_slack 13 = .ok (.aload_n 0, 1) := by decide +kernel
theorem dX6_slack_14 : decode cX6_slack 14 = .ok (.iload_n 1, 1) := by decide +kernel
theorem dX6_slack_15 : decode cX6_slack 15 = .ok (.iload_n 2, 1) := by decide +kernel
theorem dX6_slack_16 : decode cX6_slack 16 = .ok (.invokevirtual 160, 3) := by decide +kernel
theorem dX6_slack_19 : decode cX6_slack 19 = .ok (.ifCond .eq 7, 3) := by decide +kernel
theorem dX6_slack_22 : decode cX6_slack 22 = .ok (.sipush (-1002), 3) := by decide +kernel
theorem dX6_slack_25 : decode cX6_slack 25 = .ok (.ireturn, 1) := by decide +kernel
theorem dX6_slack_26 : decode cX6_slack 26 = .ok (.aload_n 0, 1) := by decide +kernel
theorem dX6_slack_27 : decode cX6_slack 27 = .ok (.iload_n 1, 1) := by decide +kernel
theorem dX6_slack_28 : decode cX6_slack 28 = .ok (.iload_n 2, 1) := by decide +kernel
theorem dX6_slack_29 : decode cX6_slack 29 = .ok (.invokevirtual 173, 3) := by decide +kernel
theorem dX6_slack_32 : decode cX6_slack 32 = .ok (.istore_n 3, 1) := by decide +kernel
theorem dX6_slack_33 : decode cX6_slack 33 = .ok (.iload_n 3, 1) := by decide +kernel
theorem dX6_slack_34 : decode cX6_slack 34 = .ok (.ldc 155, 2) := by decide +kernel
theorem dX6_slack_36 : decode cX6_slack 36 = .ok (.if_icmp .ne 9, 3) := by decide +kernel
theorem dX6_slack_39 : decode cX6_slack 39 = .ok (.sipush (-1004), 3) := by decide +kernel
theorem dX6_slack_42 : decode cX6_slack 42 = .ok (.goto 4, 3) := by decide +kernel
theorem dX6_slack_45 : decode cX6_slack 45 = .ok (.iload_n 3, 1) := by decide +kernel
theorem dX6_slack_46 : decode cX6_slack 46 = .ok (.ireturn, 1) := by decide +kernel
set_option maxRecDepth 20000 in
theorem ggX6_actorOf_X6_isRole : GoodIn wsX6_actorOf wsX6_isRole := goodIn_r _ [6, 1, 7, 8, 5, 9, 10, 11, 12, 13, 14, 15, 16, 17, 18, 19] (by decide +kernel) (by decide +kernel)
set_option maxRecDepth 20000 in
theorem gX6_actorOf_X6_isRole : GoodIn wsX6_actorOf (wsV RX6 109 RX6 yX6_isRole wsX6_isRole) := goodIn_app (goodIn_of _ (by decide +kernel)) ggX6_actorOf_X6_isRole
theorem dX6_actorOf_0 : decode cX6_actorOf 0 = .ok (.aload_n 0, 1) := by decide +kernel
theorem dX6_actorOf_1 : decode cX6_actorOf 1 = .ok (.iload_n 1, 1) := by decide +kernel
theorem dX6_actorOf_2 : decode cX6_actorOf 2 = .ok (.invokevirtual 109, 3) := by decide +kernel
theorem dX6_actorOf_5 : decode cX6_actorOf 5 = .ok (.ifCond .ne 7, 3) := by decide +kernel
theorem dX6_actorOf_8 : decode cX6_actorOf 8 = .ok (.sipush (-1001), 3) := by decide +kernel
theorem dX6_actorOf_11 : decode cX6_actorOf 11 = .ok (.ireturn, 1) := by decide +kernel
theorem dX6_actorOf_12 : decode cX6_actorOf 12 = .ok (.aload_n 0, 1) := by decide +kernel
theorem dX6_actorOf_13 : decode cX6_actorOf 13 = .ok (.getfield 7, 3) := by decide +kernel
theorem dX6_actorOf_16 : decode cX6_actorOf 16 = .ok (.bipush 36, 2) := by decide +kernel
theorem dX6_actorOf_18 : decode cX6_actorOf 18 = .ok (.iload_n 1, 1) := by decide +kernel
theorem dX6_actorOf_19 : decode cX6_actorOf 19 = .ok (.iadd, 1) := by decide +kernel
theorem dX6_actorOf_20 : decode cX6_actorOf 20 = .ok (.iaload, 1) := by decide +kernel
theorem dX6_actorOf_21 : decode cX6_actorOf 21 = .ok (.iconst (-1), 1) := by decide +kernel
theorem dX6_actorOf_22 : decode cX6_actorOf 22 = .ok (.if_icmp .ne 9, 3) := by decide +kernel
theorem dX6_actorOf_25 : decode cX6_actorOf 25 = .ok (.sipush (-1004), 3) := by decide +kernel
theorem dX6_actorOf_28 : decode cX6_actorOf 28 = .ok (.goto 12, 3) := by decide +kernel
theorem dX6_actorOf_31 : decode cX6_actorOf 31 = .ok (.aload_n 0, 1) := by decide +kernel
theorem dX6_actorOf_32 : decode cX6_actorOf 32 = .ok (.getfield 7, 3) := by decide +kernel
theorem dX6_actorOf_35 : decode cX6_actorOf 35 = .ok (.bipush 36, 2) := by decide +kernel
theorem dX6_actorOf_37 : decode cX6_actorOf 37 = .ok (.iload_n 1, 1) := by decide +kernel
theorem dX6_actorOf_38 : decode cX6_actorOf 38 = .ok (.iadd, 1) := by decide +kernel
theorem dX6_actorOf_39 : decode cX6_actorOf 39 = .ok (.iaload, 1) := by decide +kernel
theorem dX6_actorOf_40 : decode cX6_actorOf 40 = .ok (.ireturn, 1) := by decide +kernel
set_option maxRecDepth 20000 in
theorem ggX6_rolesOf_X6_isActor : GoodIn wsX6_rolesOf wsX6_isActor := goodIn_r _ [4, 5, 6, 7, 3, 8] (by decide +kernel) (by decide +kernel)
set_option maxRecDepth 20000 in
theorem gX6_rolesOf_X6_isActor : GoodIn wsX6_rolesOf (va_wsS RX6 124 yX6_isActor wsX6_isActor) := goodIn_app (goodIn_of _ (by decide +kernel)) ggX6_rolesOf_X6_isActor
set_option maxRecDepth 20000 in
theorem ggX6_rolesOf_X6_castBy : GoodIn wsX6_rolesOf wsX6_castBy := goodIn_r _ [12, 13, 14, 15, 16, 17, 18, 19, 20, 21, 22, 23] (by decide +kernel) (by decide +kernel)
set_option maxRecDepth 20000 in
theorem gX6_rolesOf_X6_castBy : GoodIn wsX6_rolesOf (wsV RX6 127 RX6 yX6_castBy wsX6_castBy) := goodIn_app (goodIn_of _ (by decide +kernel)) ggX6_rolesOf_X6_castBy
theorem dX6_rolesOf_0 : decode cX6_rolesOf 0 = .ok (.iload_n 1, 1) := by decide +kernel
theorem dX6_rolesOf_1 : decode cX6_rolesOf 1 = .ok (.invokestatic 124, 3) := by decide +kernel
theorem dX6_rolesOf_4 : decode cX6_rolesOf 4 = .ok (.ifCond .eq 11, 3) := by decide +kernel
theorem dX6_rolesOf_7 : decode cX6_rolesOf 7 = .ok (.aload_n 0, 1) := by decide +kernel
theorem dX6_rolesOf_8 : decode cX6_rolesOf 8 = .ok (.iload_n 1, 1) := by decide +kernel
theorem dX6_rolesOf_9 : decode cX6_rolesOf 9 = .ok (.invokevirtual 127, 3) := by decide +kernel
theorem dX6_rolesOf_12 : decode cX6_rolesOf 12 = .ok (.goto 6, 3) := by decide +kernel
theorem dX6_rolesOf_15 : decode cX6_rolesOf 15 = .ok (.sipush (-1001), 3) := by decide +kernel
theorem dX6_rolesOf_18 : decode cX6_rolesOf 18 = .ok (.ireturn, 1) := by decide +kernel
set_option maxRecDepth 20000 in
theorem ggX6_tightestChange_X6_isActor : GoodIn wsX6_tightestChange wsX6_isActor := goodIn_r _ [6, 7, 8, 9, 5, 10] (by decide +kernel) (by decide +kernel)
set_option maxRecDepth 20000 in
theorem gX6_tightestChange_X6_isActor : GoodIn wsX6_tightestChange (va_wsS RX6 124 yX6_isActor wsX6_isActor) := goodIn_app (goodIn_of _ (by decide +kernel)) ggX6_tightestChange_X6_isActor
set_option maxRecDepth 20000 in
theorem ggX6_tightestChange_X6_slackOf : GoodIn wsX6_tightestChange wsX6_slackOf := goodIn_r _ [14, 15, 16, 17, 5, 18, 1, 2, 19, 20, 21, 22, 23, 24, 25, 26, 27, 28, 29, 30, 31, 32, 33, 34, 35, 36, 37, 38, 39, 40, 41, 42, 43, 44, 45, 46, 47, 48] (by decide +kernel) (by decide +kernel)
set_option maxRecDepth 20000 in
theorem gX6_tightestChange_X6_slackOf : GoodIn wsX6_tightestChange (wsV RX6 173 RX6 yX6_slackOf wsX6_slackOf) := goodIn_app (goodIn_of _ (by decide +kernel)) ggX6_tightestChange_X6_slackOf
theorem dX6_tightestChange_0 : decode cX6_tightestChange 0 = .ok (.iload_n 1, 1) := by decide +kernel
theorem dX6_tightestChange_1 : decode cX6_tightestChange 1 = .ok (.invokestatic 124, 3) := by decide +kernel
theorem dX6_tightestChange_4 : decode cX6_tightestChange 4 = .ok (.ifCond .ne 7, 3) := by decide +kernel
theorem dX6_tightestChange_7 : decode cX6_tightestChange 7 = .ok (.sipush (-1001), 3) := by decide +kernel
theorem dX6_tightestChange_10 : decode cX6_tightestChange 10 = .ok (.ireturn, 1) := by decide +kernel
theorem dX6_tightestChange_11 : decode cX6_tightestChange 11 = .ok (.ldc 155, 2) := by decide +kernel
theorem dX6_tightestChange_13 : decode cX6_tightestChange 13 = .ok (.istore_n 2, 1) := by decide +kernel
theorem dX6_tightestChange_14 : decode cX6_tightestChange 14 = .ok (.iconst 0, 1) := by decide +kernel
theorem dX6_tightestChange_15 : decode cX6_tightestChange 15 = .ok (.istore_n 3, 1) := by decide +kernel
theorem dX6_tightestChange_16 : decode cX6_tightestChange 16 = .ok (.iload_n 3, 1) := by decide +kernel
theorem dX6_tightestChange_17 : decode cX6_tightestChange 17 = .ok (.aload_n 0, 1) := by decide +kernel
theorem dX6_tightestChange_18 : decode cX6_tightestChange 18 = .ok (.getfield 7, 3) := by decide +kernel
theorem dX6_tightestChange_21 : decode cX6_tightestChange 21 = .ok (.bipush 11, 2) := by decide +kernel
theorem dX6_tightestChange_23 : decode cX6_tightestChange 23 = .ok (.iaload, 1) := by decide +kernel
theorem dX6_tightestChange_24 : decode cX6_tightestChange 24 = .ok (.if_icmp .ge 73, 3) := by decide +kernel
theorem dX6_tightestChange_27 : decode cX6_tightestChange 27 = .ok (.iconst 0, 1) := by decide +kernel
theorem dX6_tightestChange_28 : decode cX6_tightestChange 28 = .ok (.istore 4, 2) := by decide +kernel
theorem dX6_tightestChange_30 : decode cX6_tightestChange 30 = .ok (.iload 4, 2) := by decide +kernel
theorem dX6_tightestChange_32 : decode cX6_tightestChange 32 = .ok (.iload_n 3, 1) := by decide +kernel
theorem dX6_tightestChange_33 : decode cX6_tightestChange 33 = .ok (.if_icmp .ge 58, 3) := by decide +kernel
theorem dX6_tightestChange_36 : decode cX6_tightestChange 36 = .ok (.aload_n 0, 1) := by decide +kernel
theorem dX6_tightestChange_37 : decode cX6_tightestChange 37 = .ok (.getfield 7, 3) := by decide +kernel
theorem dX6_tightestChange_40 : decode cX6_tightestChange 40 = .ok (.bipush 36, 2) := by decide +kernel
theorem dX6_tightestChange_42 : decode cX6_tightestChange 42 = .ok (.iload_n 3, 1) := by decide +kernel
theorem dX6_tightestChange_43 : decode cX6_tightestChange 43 = .ok (.iadd, 1) := by decide +kernel
theorem dX6_tightestChange_44 : decode cX6_tightestChange 44 = .ok (.iaload, 1) := by decide +kernel
theorem dX6_tightestChange_45 : decode cX6_tightestChange 45 = .ok (.iload_n 1, 1) := by decide +kernel
theorem dX6_tightestChange_46 : decode cX6_tightestChange 46 = .ok (.if_icmp .ne 39, 3) := by decide +kernel
theorem dX6_tightestChange_49 : decode cX6_tightestChange 49 = .ok (.aload_n 0, 1) := by decide +kernel
theorem dX6_tightestChange_50 : decode cX6_tightestChange 50 = .ok (.getfield 7, 3) := by decide +kernel
theorem dX6_tightestChange_53 : decode cX6_tightestChange 53 = .ok (.bipush 36, 2) := by decide +kernel
theorem dX6_tightestChange_55 : decode cX6_tightestChange 55 = .ok (.iload 4, 2) := by decide +kernel
theorem dX6_tightestChange_57 : decode cX6_tightestChange 57 = .ok (.iadd, 1) := by decide +kernel
theorem dX6_tightestChange_58 : decode cX6_tightestChange 58 = .ok (.iaload, 1) := by decide +kernel
theorem dX6_tightestChange_59 : decode cX6_tightestChange 59 = .ok (.iload_n 1, 1) := by decide +kernel
theorem dX6_tightestChange_60 : decode cX6_tightestChange 60 = .ok (.if_icmp .ne 25, 3) := by decide +kernel
theorem dX6_tightestChange_63 : decode cX6_tightestChange 63 = .ok (.aload_n 0, 1) := by decide +kernel
theorem dX6_tightestChange_64 : decode cX6_tightestChange 64 = .ok (.iload_n 3, 1) := by decide +kernel
theorem dX6_tightestChange_65 : decode cX6_tightestChange 65 = .ok (.iload 4, 2) := by decide +kernel
theorem dX6_tightestChange_67 : decode cX6_tightestChange 67 = .ok (.invokevirtual 173, 3) := by decide +kernel
theorem dX6_tightestChange_70 : decode cX6_tightestChange 70 = .ok (.istore 5, 2) := by decide +kernel
theorem dX6_tightestChange_72 : decode cX6_tightestChange 72 = .ok (.iload 5, 2) := by decide +kernel
theorem dX6_tightestChange_74 : decode cX6_tightestChange 74 = .ok (.iload_n 2, 1) := by decide +kernel
theorem dX6_tightestChange_75 : decode cX6_tightestChange 75 = .ok (.if_icmp .ge 8, 3) := by decide +kernel
theorem dX6_tightestChange_78 : decode cX6_tightestChange 78 = .ok (.iload 5, 2) := by decide +kernel
theorem dX6_tightestChange_80 : decode cX6_tightestChange 80 = .ok (.goto 4, 3) := by decide +kernel
theorem dX6_tightestChange_83 : decode cX6_tightestChange 83 = .ok (.iload_n 2, 1) := by decide +kernel
theorem dX6_tightestChange_84 : decode cX6_tightestChange 84 = .ok (.istore_n 2, 1) := by decide +kernel
theorem dX6_tightestChange_85 : decode cX6_tightestChange 85 = .ok (.iinc 4 1, 3) := by decide +kernel
theorem dX6_tightestChange_88 : decode cX6_tightestChange 88 = .ok (.goto (-58), 3) := by decide +kernel
theorem dX6_tightestChange_91 : decode cX6_tightestChange 91 = .ok (.iinc 3 1, 3) := by decide +kernel
theorem dX6_tightestChange_94 : decode cX6_tightestChange 94 = .ok (.goto (-78), 3) := by decide +kernel
theorem dX6_tightestChange_97 : decode cX6_tightestChange 97 = .ok (.iload_n 2, 1) := by decide +kernel
theorem dX6_tightestChange_98 : decode cX6_tightestChange 98 = .ok (.ldc 155, 2) := by decide +kernel
theorem dX6_tightestChange_100 : decode cX6_tightestChange 100 = .ok (.if_icmp .ne 9, 3) := by decide +kernel
theorem dX6_tightestChange_103 : decode cX6_tightestChange 103 = .ok (.sipush (-1004), 3) := by decide +kernel
theorem dX6_tightestChange_106 : decode cX6_tightestChange 106 = .ok (.goto 4, 3) := by decide +kernel
theorem dX6_tightestChange_109 : decode cX6_tightestChange 109 = .ok (.iload_n 2, 1) := by decide +kernel
theorem dX6_tightestChange_110 : decode cX6_tightestChange 110 = .ok (.ireturn, 1) := by decide +kernel
set_option maxRecDepth 20000 in
theorem ggX6_cliqueNumber_X6_layConflicts : GoodIn wsX6_cliqueNumber wsX6_layConflicts := goodIn_r _ [7, 1, 2, 8, 9, 10, 6, 11, 12, 13, 14, 15, 16, 17, 18, 19, 20, 21, 22, 23, 24, 25, 26, 27, 28, 29, 30, 31, 32, 33, 34, 35, 36, 37, 38, 39, 40, 44, 45, 46, 47, 48, 49, 50, 51, 52, 53] (by decide +kernel) (by decide +kernel)
set_option maxRecDepth 20000 in
theorem gX6_cliqueNumber_X6_layConflicts : GoodIn wsX6_cliqueNumber (wsV RX6 106 RX6 yX6_layConflicts wsX6_layConflicts) := goodIn_app (goodIn_of _ (by decide +kernel)) ggX6_cliqueNumber_X6_layConflicts
set_option maxRecDepth 20000 in
theorem ggX6_cliqueNumber_X6_ones : GoodIn wsX6_cliqueNumber wsX6_ones := goodIn_r _ [43] (by decide +kernel) (by decide +kernel)
set_option maxRecDepth 20000 in
theorem gX6_cliqueNumber_X6_ones : GoodIn wsX6_cliqueNumber (va_wsS RX6 131 yX6_ones wsX6_ones) := goodIn_app (goodIn_of _ (by decide +kernel)) ggX6_cliqueNumber_X6_ones
theorem dX6_cliqueNumber_0 : decode cX6_cliqueNumber 0 = .ok (.aload_n 0, 1) := by decide +kernel
theorem dX6_cliqueNumber_1 : decode cX6_cliqueNumber 1 = .ok (.iconst 0, 1) := by decide +kernel
theorem dX6_cliqueNumber_2 : decode cX6_cliqueNumber 2 = .ok (.invokevirtual 106, 3) := by decide +kernel
theorem dX6_cliqueNumber_5 : decode cX6_cliqueNumber 5 = .ok (.iconst 0, 1) := by decide +kernel
theorem dX6_cliqueNumber_6 : decode cX6_cliqueNumber 6 = .ok (.istore_n 1, 1) := by decide +kernel
theorem dX6_cliqueNumber_7 : decode cX6_cliqueNumber 7 = .ok (.iconst 0, 1) := by decide +kernel
theorem dX6_cliqueNumber_8 : decode cX6_cliqueNumber 8 = .ok (.istore_n 2, 1) := by decide +kernel
theorem dX6_cliqueNumber_9 : decode cX6_cliqueNumber 9 = .ok (.iload_n 2, 1) := by decide +kernel
theorem dX6_cliqueNumber_10 : decode cX6_cliqueNumber 10 = .ok (.iconst 1, 1) := by decide +kernel
theorem dX6_cliqueNumber_11 : decode cX6_cliqueNumber 11 = .ok (.aload_n 0, 1) := by decide +kernel
theorem dX6_cliqueNumber_12 : decode cX6_cliqueNumber 12 = .ok (.getfield 7, 3) := by decide +kernel
theorem dX6_cliqueNumber_15 : decode cX6_cliqueNumber 15 = .ok (.bipush 11, 2) := by decide +kernel
theorem dX6_cliqueNumber_17 : decode cX6_cliqueNumber 17 = .ok (.iaload, 1) := by decide +kernel
theorem dX6_cliqueNumber_18 : decode cX6_cliqueNumber 18 = .ok (.ishl, 1) := by decide +kernel
theorem dX6_cliqueNumber_19 : decode cX6_cliqueNumber 19 = .ok (.if_icmp .ge 90, 3) := by decide +kernel
theorem dX6_cliqueNumber_22 : decode cX6_cliqueNumber 22 = .ok (.iconst 1, 1) := by decide +kernel
theorem dX6_cliqueNumber_23 : decode cX6_cliqueNumber 23 = .ok (.istore_n 3, 1) := by decide +kernel
theorem dX6_cliqueNumber_24 : decode cX6_cliqueNumber 24 = .ok (.iconst 0, 1) := by decide +kernel
theorem dX6_cliqueNumber_25 : decode cX6_cliqueNumber 25 = .ok (.istore 4, 2) := by decide +kernel
theorem dX6_cliqueNumber_27 : decode cX6_cliqueNumber 27 = .ok (.iload 4, 2) := by decide +kernel
theorem dX6_cliqueNumber_29 : decode cX6_cliqueNumber 29 = .ok (.aload_n 0, 1) := by decide +kernel
theorem dX6_cliqueNumber_30 : decode cX6_cliqueNumber 30 = .ok (.getfield 7, 3) := by decide +kernel
theorem dX6_cliqueNumber_33 : decode cX6_cliqueNumber 33 = .ok (.bipush 11, 2) := by decide +kernel
theorem dX6_cliqueNumber_35 : decode cX6_cliqueNumber 35 = .ok (.iaload, 1) := by decide +kernel
theorem dX6_cliqueNumber_36 : decode cX6_cliqueNumber 36 = .ok (.if_icmp .ge 46, 3) := by decide +kernel
theorem dX6_cliqueNumber_39 : decode cX6_cliqueNumber 39 = .ok (.iload_n 3, 1) := by decide +kernel
theorem dX6_cliqueNumber_40 : decode cX6_cliqueNumber 40 = .ok (.ifCond .eq 34, 3) := by decide +kernel
theorem dX6_cliqueNumber_43 : decode cX6_cliqueNumber 43 = .ok (.iload_n 2, 1) := by decide +kernel
theorem dX6_cliqueNumber_44 : decode cX6_cliqueNumber 44 = .ok (.iload 4, 2) := by decide +kernel
theorem dX6_cliqueNumber_46 : decode cX6_cliqueNumber 46 = .ok (.ishr, 1) := by decide +kernel
theorem dX6_cliqueNumber_47 : decode cX6_cliqueNumber 47 = .ok (.iconst 1, 1) := by decide +kernel
theorem dX6_cliqueNumber_48 : decode cX6_cliqueNumber 48 = .ok (.iand, 1) := by decide +kernel
theorem dX6_cliqueNumber_49 : decode cX6_cliqueNumber 49 = .ok (.ifCond .eq 21, 3) := by decide +kernel
theorem dX6_cliqueNumber_52 : decode cX6_cliqueNumber 52 = .ok (.iload_n 2, 1) := by decide +kernel
theorem dX6_cliqueNumber_53 : decode cX6_cliqueNumber 53 = .ok (.aload_n 0, 1) := by decide +kernel
theorem dX6_cliqueNumber_54 : decode cX6_cliqueNumber 54 = .ok (.getfield 22, 3) := by decide +kernel
theorem dX6_cliqueNumber_57 : decode cX6_cliqueNumber 57 = .ok (.iload 4, 2) := by decide +kernel
theorem dX6_cliqueNumber_59 : decode cX6_cliqueNumber 59 = .ok (.iaload, 1) := by decide +kernel
theorem dX6_cliqueNumber_60 : decode cX6_cliqueNumber 60 = .ok (.iconst (-1), 1) := by decide +kernel
theorem dX6_cliqueNumber_61 : decode cX6_cliqueNumber 61 = .ok (.ixor, 1) := by decide +kernel
theorem dX6_cliqueNumber_62 : decode cX6_cliqueNumber 62 = .ok (.iand, 1) := by decide +kernel
theorem dX6_cliqueNumber_63 : decode cX6_cliqueNumber 63 = .ok (.iconst 1, 1) := by decide +kernel
theorem dX6_cliqueNumber_64 : decode cX6_cliqueNumber 64 = .ok (.iload 4, 2) := by decide +kernel
theorem dX6_cliqueNumber_66 : decode cX6_cliqueNumber 66 = .ok (.ishl, 1) := by decide +kernel
theorem dX6_cliqueNumber_67 : decode cX6_cliqueNumber 67 = .ok (.if_icmp .ne 7, 3) := by decide +kernel
theorem dX6_cliqueNumber_70 : decode cX6_cliqueNumber 70 = .ok (.iconst 1, 1) := by decide +kernel
theorem dX6_cliqueNumber_71 : decode cX6_cliqueNumber 71 = .ok (.goto 4, 3) := by decide +kernel
theorem dX6_cliqueNumber_74 : decode cX6_cliqueNumber 74 = .ok (.iconst 0, 1) := by decide +kernel
theorem dX6_cliqueNumber_75 : decode cX6_cliqueNumber 75 = .ok (.istore_n 3, 1) := by decide +kernel
theorem dX6_cliqueNumber_76 : decode cX6_cliqueNumber 76 = .ok (.iinc 4 1, 3) := by decide +kernel
theorem dX6_cliqueNumber_79 : decode cX6_cliqueNumber 79 = .ok (.goto (-52), 3) := by decide +kernel
theorem dX6_cliqueNumber_82 : decode cX6_cliqueNumber 82 = .ok (.iload_n 3, 1) := by decide +kernel
theorem dX6_cliqueNumber_83 : decode cX6_cliqueNumber 83 = .ok (.ifCond .eq 18, 3) := by decide +kernel
theorem dX6_cliqueNumber_86 : decode cX6_cliqueNumber 86 = .ok (.iload_n 2, 1) := by decide +kernel
theorem dX6_cliqueNumber_87 : decode cX6_cliqueNumber 87 = .ok (.invokestatic 131, 3) := by decide +kernel
theorem dX6_cliqueNumber_90 : decode cX6_cliqueNumber 90 = .ok (.iload_n 1, 1) := by decide +kernel
theorem dX6_cliqueNumber_91 : decode cX6_cliqueNumber 91 = .ok (.if_icmp .le 10, 3) := by decide +kernel
theorem dX6_cliqueNumber_94 : decode cX6_cliqueNumber 94 = .ok (.iload_n 2, 1) := by decide +kernel
theorem dX6_cliqueNumber_95 : decode cX6_cliqueNumber 95 = .ok (.invokestatic 131, 3) := by decide +kernel
theorem dX6_cliqueNumber_98 : decode cX6_cliqueNumber 98 = .ok (.goto 4, 3) := by decide +kernel
theorem dX6_cliqueNumber_101 : decode cX6_cliqueNumber 101 = .ok (.iload_n 1, 1) := by decide +kernel
theorem dX6_cliqueNumber_102 : decode cX6_cliqueNumber 102 = .ok (.istore_n 1, 1) := by decide +kernel
theorem dX6_cliqueNumber_103 : decode cX6_cliqueNumber 103 = .ok (.iinc 2 1, 3) := by decide +kernel
theorem dX6_cliqueNumber_106 : decode cX6_cliqueNumber 106 = .ok (.goto (-97), 3) := by decide +kernel
theorem dX6_cliqueNumber_109 : decode cX6_cliqueNumber 109 = .ok (.iload_n 1, 1) := by decide +kernel
theorem dX6_cliqueNumber_110 : decode cX6_cliqueNumber 110 = .ok (.ireturn, 1) := by decide +kernel
theorem dX6_mayHave_0 : decode cX6_mayHave 0 = .ok (.iconst 1, 1) := by decide +kernel
theorem dX6_mayHave_1 : decode cX6_mayHave 1 = .ok (.istore_n 3, 1) := by decide +kernel
theorem dX6_mayHave_2 : decode cX6_mayHave 2 = .ok (.iconst 0, 1) := by decide +kernel
theorem dX6_mayHave_3 : decode cX6_mayHave 3 = .ok (.istore 4, 2) := by decide +kernel
theorem dX6_mayHave_5 : decode cX6_mayHave 5 = .ok (.iload 4, 2) := by decide +kernel
theorem dX6_mayHave_7 : decode cX6_mayHave 7 = .ok (.iload_n 1, 1) := by decide +kernel
theorem dX6_mayHave_8 : decode cX6_mayHave 8 = .ok (.if_icmp .ge 44, 3) := by decide +kernel
theorem dX6_mayHave_11 : decode cX6_mayHave 11 = .ok (.iload_n 3, 1) := by decide +kernel
theorem dX6_mayHave_12 : decode cX6_mayHave 12 = .ok (.ifCond .eq 32, 3) := by decide +kernel
theorem dX6_mayHave_15 : decode cX6_mayHave 15 = .ok (.aload_n 0, 1) := by decide +kernel
theorem dX6_mayHave_16 : decode cX6_mayHave 16 = .ok (.getfield 25, 3) := by decide +kernel
theorem dX6_mayHave_19 : decode cX6_mayHave 19 = .ok (.iload 4, 2) := by decide +kernel
theorem dX6_mayHave_21 : decode cX6_mayHave 21 = .ok (.iaload, 1) := by decide +kernel
theorem dX6_mayHave_22 : decode cX6_mayHave 22 = .ok (.iload_n 2, 1) := by decide +kernel
theorem dX6_mayHave_23 : decode cX6_mayHave 23 = .ok (.if_icmp .ne 17, 3) := by decide +kernel
theorem dX6_mayHave_26 : decode cX6_mayHave 26 = .ok (.aload_n 0, 1) := by decide +kernel
theorem dX6_mayHave_27 : decode cX6_mayHave 27 = .ok (.getfield 22, 3) := by decide +kernel
theorem dX6_mayHave_30 : decode cX6_mayHave 30 = .ok (.iload_n 1, 1) := by decide +kernel
theorem dX6_mayHave_31 : decode cX6_mayHave 31 = .ok (.iaload, 1) := by decide +kernel
theorem dX6_mayHave_32 : decode cX6_mayHave 32 = .ok (.iload 4, 2) := by decide +kernel
theorem dX6_mayHave_34 : decode cX6_mayHave 34 = .ok (.ishr, 1) := by decide +kernel
theorem dX6_mayHave_35 : decode cX6_mayHave 35 = .ok (.iconst 1, 1) := by decide +kernel
theorem dX6_mayHave_36 : decode cX6_mayHave 36 = .ok (.iand, 1) := by decide +kernel
theorem dX6_mayHave_37 : decode cX6_mayHave 37 = .ok (.ifCond .ne 7, 3) := by decide +kernel
theorem dX6_mayHave_40 : decode cX6_mayHave 40 = .ok (.iconst 1, 1) := by decide +kernel
theorem dX6_mayHave_41 : decode cX6_mayHave 41 = .ok (.goto 4, 3) := by decide +kernel
theorem dX6_mayHave_44 : decode cX6_mayHave 44 = .ok (.iconst 0, 1) := by decide +kernel
theorem dX6_mayHave_45 : decode cX6_mayHave 45 = .ok (.istore_n 3, 1) := by decide +kernel
theorem dX6_mayHave_46 : decode cX6_mayHave 46 = .ok (.iinc 4 1, 3) := by decide +kernel
theorem dX6_mayHave_49 : decode cX6_mayHave 49 = .ok (.goto (-44), 3) := by decide +kernel
theorem dX6_mayHave_52 : decode cX6_mayHave 52 = .ok (.iload_n 3, 1) := by decide +kernel
theorem dX6_mayHave_53 : decode cX6_mayHave 53 = .ok (.ireturn, 1) := by decide +kernel
set_option maxRecDepth 20000 in
theorem ggX6_isGiven_X6_mayHave : GoodIn wsX6_isGiven wsX6_mayHave := goodIn_r _ [7, 1, 8, 9, 10, 11, 12, 13, 14, 15, 16, 17, 18] (by decide +kernel) (by decide +kernel)
set_option maxRecDepth 20000 in
theorem gX6_isGiven_X6_mayHave : GoodIn wsX6_isGiven (wsV RX6 177 RX6 yX6_mayHave wsX6_mayHave) := goodIn_app (goodIn_of _ (by decide +kernel)) ggX6_isGiven_X6_mayHave
theorem dX6_isGiven_0 : decode cX6_isGiven 0 = .ok (.iconst 0, 1) := by decide +kernel
theorem dX6_isGiven_1 : decode cX6_isGiven 1 = .ok (.istore_n 2, 1) := by decide +kernel
theorem dX6_isGiven_2 : decode cX6_isGiven 2 = .ok (.aload_n 0, 1) := by decide +kernel
theorem dX6_isGiven_3 : decode cX6_isGiven 3 = .ok (.getfield 25, 3) := by decide +kernel
theorem dX6_isGiven_6 : decode cX6_isGiven 6 = .ok (.iconst 0, 1) := by decide +kernel
theorem dX6_isGiven_7 : decode cX6_isGiven 7 = .ok (.iconst (-1), 1) := by decide +kernel
theorem dX6_isGiven_8 : decode cX6_isGiven 8 = .ok (.iastore, 1) := by decide +kernel
theorem dX6_isGiven_9 : decode cX6_isGiven 9 = .ok (.iload_n 2, 1) := by decide +kernel
theorem dX6_isGiven_10 : decode cX6_isGiven 10 = .ok (.ifCond .lt 101, 3) := by decide +kernel
theorem dX6_isGiven_13 : decode cX6_isGiven 13 = .ok (.iload_n 2, 1) := by decide +kernel
theorem dX6_isGiven_14 : decode cX6_isGiven 14 = .ok (.aload_n 0, 1) := by decide +kernel
theorem dX6_isGiven_15 : decode cX6_isGiven 15 = .ok (.getfield 7, 3) := by decide +kernel
theorem dX6_isGiven_18 : decode cX6_isGiven 18 = .ok (.bipush 11, 2) := by decide +kernel
theorem dX6_isGiven_20 : decode cX6_isGiven 20 = .ok (.iaload, 1) := by decide +kernel
theorem dX6_isGiven_21 : decode cX6_isGiven 21 = .ok (.if_icmp .ge 90, 3) := by decide +kernel
theorem dX6_isGiven_24 : decode cX6_isGiven 24 = .ok (.aload_n 0, 1) := by decide +kernel
theorem dX6_isGiven_25 : decode cX6_isGiven 25 = .ok (.getfield 25, 3) := by decide +kernel
theorem dX6_isGiven_28 : decode cX6_isGiven 28 = .ok (.iload_n 2, 1) := by decide +kernel
theorem dX6_isGiven_29 : decode cX6_isGiven 29 = .ok (.dup2, 1) := by decide +kernel
theorem dX6_isGiven_30 : decode cX6_isGiven 30 = .ok (.iaload, 1) := by decide +kernel
theorem dX6_isGiven_31 : decode cX6_isGiven 31 = .ok (.iconst 1, 1) := by decide +kernel
theorem dX6_isGiven_32 : decode cX6_isGiven 32 = .ok (.iadd, 1) := by decide +kernel
theorem dX6_isGiven_33 : decode cX6_isGiven 33 = .ok (.iastore, 1) := by decide +kernel
theorem dX6_isGiven_34 : decode cX6_isGiven 34 = .ok (.aload_n 0, 1) := by decide +kernel
theorem dX6_isGiven_35 : decode cX6_isGiven 35 = .ok (.getfield 25, 3) := by decide +kernel
theorem dX6_isGiven_38 : decode cX6_isGiven 38 = .ok (.iload_n 2, 1) := by decide +kernel
theorem dX6_isGiven_39 : decode cX6_isGiven 39 = .ok (.iaload, 1) := by decide +kernel
theorem dX6_isGiven_40 : decode cX6_isGiven 40 = .ok (.iload_n 1, 1) := by decide +kernel
theorem dX6_isGiven_41 : decode cX6_isGiven 41 = .ok (.if_icmp .ge 30, 3) := by decide +kernel
theorem dX6_isGiven_44 : decode cX6_isGiven 44 = .ok (.aload_n 0, 1) := by decide +kernel
theorem dX6_isGiven_45 : decode cX6_isGiven 45 = .ok (.iload_n 2, 1) := by decide +kernel
theorem dX6_isGiven_46 : decode cX6_isGiven 46 = .ok (.aload_n 0, 1) := by decide +kernel
theorem dX6_isGiven_47 : decode cX6_isGiven 47 = .ok (.getfield 25, 3) := by decide +kernel
theorem dX6_isGiven_50 : decode cX6_isGiven 50 = .ok (.iload_n 2, 1) := by decide +kernel
theorem dX6_isGiven_51 : decode cX6_isGiven 51 = .ok (.iaload, 1) := by decide +kernel
theorem dX6_isGiven_52 : decode cX6_isGiven 52 = .ok (.invokevirtual 177, 3) := by decide +kernel
theorem dX6_isGiven_55 : decode cX6_isGiven 55 = .ok (.ifCond .ne 16, 3) := by decide +kernel
theorem dX6_isGiven_58 : decode cX6_isGiven 58 = .ok (.aload_n 0, 1) := by decide +kernel
theorem dX6_isGiven_59 : decode cX6_isGiven 59 = .ok (.getfield 25, 3) := by decide +kernel
theorem dX6_isGiven_62 : decode cX6_isGiven 62 = .ok (.iload_n 2, 1) := by decide +kernel
theorem dX6_isGiven_63 : decode cX6_isGiven 63 = .ok (.dup2, 1) := by decide +kernel
theorem dX6_isGiven_64 : decode cX6_isGiven 64 = .ok (.iaload, 1) := by decide +kernel
theorem dX6_isGiven_65 : decode cX6_isGiven 65 = .ok (.iconst 1, 1) := by decide +kernel
theorem dX6_isGiven_66 : decode cX6_isGiven 66 = .ok (.iadd, 1) := by decide +kernel
theorem dX6_isGiven_67 : decode cX6_isGiven 67 = .ok (.iastore, 1) := by decide +kernel
theorem dX6_isGiven_68 : decode cX6_isGiven 68 = .ok (.goto (-34), 3) := by decide +kernel
theorem dX6_isGiven_71 : decode cX6_isGiven 71 = .ok (.aload_n 0, 1) := by decide +kernel
theorem dX6_isGiven_72 : decode cX6_isGiven 72 = .ok (.getfield 25, 3) := by decide +kernel
theorem dX6_isGiven_75 : decode cX6_isGiven 75 = .ok (.iload_n 2, 1) := by decide +kernel
theorem dX6_isGiven_76 : decode cX6_isGiven 76 = .ok (.iaload, 1) := by decide +kernel
theorem dX6_isGiven_77 : decode cX6_isGiven 77 = .ok (.iload_n 1, 1) := by decide +kernel
theorem dX6_isGiven_78 : decode cX6_isGiven 78 = .ok (.if_icmp .ge 27, 3) := by decide +kernel
theorem dX6_isGiven_81 : decode cX6_isGiven 81 = .ok (.iinc 2 1, 3) := by decide +kernel
theorem dX6_isGiven_84 : decode cX6_isGiven 84 = .ok (.iload_n 2, 1) := by decide +kernel
theorem dX6_isGiven_85 : decode cX6_isGiven 85 = .ok (.aload_n 0, 1) := by decide +kernel
theorem dX6_isGiven_86 : decode cX6_isGiven 86 = .ok (.getfield 7, 3) := by decide +kernel
theorem dX6_isGiven_89 : decode cX6_isGiven 89 = .ok (.bipush 11, 2) := by decide +kernel
theorem dX6_isGiven_91 : decode cX6_isGiven 91 = .ok (.iaload, 1) := by decide +kernel
theorem dX6_isGiven_92 : decode cX6_isGiven 92 = .ok (.if_icmp .ge (-83), 3) := by decide +kernel
theorem dX6_isGiven_95 : decode cX6_isGiven 95 = .ok (.aload_n 0, 1) := by decide +kernel
theorem dX6_isGiven_96 : decode cX6_isGiven 96 = .ok (.getfield 25, 3) := by decide +kernel
theorem dX6_isGiven_99 : decode cX6_isGiven 99 = .ok (.iload_n 2, 1) := by decide +kernel
theorem dX6_isGiven_100 : decode cX6_isGiven 100 = .ok (.iconst (-1), 1) := by decide +kernel
theorem dX6_isGiven_101 : decode cX6_isGiven 101 = .ok (.iastore, 1) := by decide +kernel
theorem dX6_isGiven_102 : decode cX6_isGiven 102 = .ok (.goto (-93), 3) := by decide +kernel
theorem dX6_isGiven_105 : decode cX6_isGiven 105 = .ok (.iinc 2 (-1), 3) := by decide +kernel
theorem dX6_isGiven_108 : decode cX6_isGiven 108 = .ok (.goto (-99), 3) := by decide +kernel
theorem dX6_isGiven_111 : decode cX6_isGiven 111 = .ok (.iload_n 2, 1) := by decide +kernel
theorem dX6_isGiven_112 : decode cX6_isGiven 112 = .ok (.ifCond .le 7, 3) := by decide +kernel
theorem dX6_isGiven_115 : decode cX6_isGiven 115 = .ok (.iconst 1, 1) := by decide +kernel
theorem dX6_isGiven_116 : decode cX6_isGiven 116 = .ok (.goto 4, 3) := by decide +kernel
theorem dX6_isGiven_119 : decode cX6_isGiven 119 = .ok (.iconst 0, 1) := by decide +kernel
theorem dX6_isGiven_120 : decode cX6_isGiven 120 = .ok (.ireturn, 1) := by decide +kernel
set_option maxRecDepth 20000 in
theorem ggX6_leastFor_X6_layConflicts : GoodIn wsX6_leastFor wsX6_layConflicts := goodIn_r _ [5, 6, 7, 8, 9, 10, 4, 11, 12, 13, 14, 15, 16, 17, 18, 19, 20, 21, 22, 23, 24, 25, 26, 27, 28, 29, 30, 31, 32, 33, 34, 35, 36, 37, 38, 39, 40, 50, 51, 52, 53, 54, 55, 56, 57, 58, 59] (by decide +kernel) (by decide +kernel)
set_option maxRecDepth 20000 in
theorem gX6_leastFor_X6_layConflicts : GoodIn wsX6_leastFor (wsV RX6 106 RX6 yX6_layConflicts wsX6_layConflicts) := goodIn_app (goodIn_of _ (by decide +kernel)) ggX6_leastFor_X6_layConflicts
set_option maxRecDepth 20000 in
theorem ggX6_leastFor_X6_isGiven : GoodIn wsX6_leastFor wsX6_isGiven := goodIn_r _ [44, 45, 6, 46, 47, 48, 4, 49, 7, 50, 51, 52, 53, 54, 55, 56, 57, 58, 59] (by decide +kernel) (by decide +kernel)
set_option maxRecDepth 20000 in
theorem gX6_leastFor_X6_isGiven : GoodIn wsX6_leastFor (wsV RX6 180 RX6 yX6_isGiven wsX6_isGiven) := goodIn_app (goodIn_of _ (by decide +kernel)) ggX6_leastFor_X6_isGiven
theorem dX6_leastFor_0 : decode cX6_leastFor 0 = .ok (.aload_n 0, 1) := by decide +kernel
theorem dX6_leastFor_1 : decode cX6_leastFor 1 = .ok (.iload_n 1, 1) := by decide +kernel
theorem dX6_leastFor_2 : decode cX6_leastFor 2 = .ok (.invokevirtual 106, 3) := by decide +kernel
theorem dX6_leastFor_5 : decode cX6_leastFor 5 = .ok (.iconst 1, 1) := by decide +kernel
theorem dX6_leastFor_6 : decode cX6_leastFor 6 = .ok (.istore_n 2, 1) := by decide +kernel
theorem dX6_leastFor_7 : decode cX6_leastFor 7 = .ok (.aload_n 0, 1) := by decide +kernel
theorem dX6_leastFor_8 : decode cX6_leastFor 8 = .ok (.iload_n 2, 1) := by decide +kernel
theorem dX6_leastFor_9 : decode cX6_leastFor 9 = .ok (.invokevirtual 180, 3) := by decide +kernel
theorem dX6_leastFor_12 : decode cX6_leastFor 12 = .ok (.ifCond .ne 9, 3) := by decide +kernel
theorem dX6_leastFor_15 : decode cX6_leastFor 15 = .ok (.iinc 2 1, 3) := by decide +kernel
theorem dX6_leastFor_18 : decode cX6_leastFor 18 = .ok (.goto (-11), 3) := by decide +kernel
theorem dX6_leastFor_21 : decode cX6_leastFor 21 = .ok (.iload_n 2, 1) := by decide +kernel
theorem dX6_leastFor_22 : decode cX6_leastFor 22 = .ok (.ireturn, 1) := by decide +kernel
set_option maxRecDepth 20000 in
theorem ggX6_leastCast_X6_leastFor : GoodIn wsX6_leastCast wsX6_leastFor := goodIn_r _ [5, 6, 7, 8, 4, 9, 10, 11, 12, 13, 14, 15, 16, 17, 18, 19, 20, 21, 22, 23, 24, 25, 26, 27, 28, 29, 30, 31, 32, 33, 34, 35, 36, 37, 38, 39, 40, 41, 42, 43, 44, 45, 46, 47, 48, 49, 50, 51, 52, 53, 54, 55, 56, 57, 58, 59, 60, 61, 62, 63] (by decide +kernel) (by decide +kernel)
set_option maxRecDepth 20000 in
theorem gX6_leastCast_X6_leastFor : GoodIn wsX6_leastCast (wsV RX6 134 RX6 yX6_leastFor wsX6_leastFor) := goodIn_app (goodIn_of _ (by decide +kernel)) ggX6_leastCast_X6_leastFor
theorem dX6_leastCast_0 : decode cX6_leastCast 0 = .ok (.aload_n 0, 1) := by decide +kernel
theorem dX6_leastCast_1 : decode cX6_leastCast 1 = .ok (.iconst 0, 1) := by decide +kernel
theorem dX6_leastCast_2 : decode cX6_leastCast 2 = .ok (.invokevirtual 134, 3) := by decide +kernel
theorem dX6_leastCast_5 : decode cX6_leastCast 5 = .ok (.ireturn, 1) := by decide +kernel
set_option maxRecDepth 20000 in
theorem ggX6_firstCastActor_X6_isRole : GoodIn wsX6_firstCastActor wsX6_isRole := goodIn_r _ [6, 7, 8, 9, 5, 10, 61, 62, 63, 64, 65, 66, 67, 68, 69, 70] (by decide +kernel) (by decide +kernel)
set_option maxRecDepth 20000 in
theorem gX6_firstCastActor_X6_isRole : GoodIn wsX6_firstCastActor (wsV RX6 109 RX6 yX6_isRole wsX6_isRole) := goodIn_app (goodIn_of _ (by decide +kernel)) ggX6_firstCastActor_X6_isRole
set_option maxRecDepth 20000 in
theorem ggX6_firstCastActor_X6_leastFor : GoodIn wsX6_firstCastActor wsX6_leastFor := goodIn_r _ [14, 15, 16, 17, 5, 18, 7, 19, 20, 21, 22, 23, 24, 25, 26, 27, 28, 29, 30, 31, 32, 33, 34, 35, 36, 37, 38, 39, 40, 41, 42, 43, 44, 45, 46, 47, 48, 49, 50, 51, 52, 53, 54, 55, 56, 1, 57, 58, 59, 60, 61, 62, 63, 64, 65, 66, 67, 68, 69, 70] (by decide +kernel) (by decide +kernel)
set_option maxRecDepth 20000 in
theorem gX6_firstCastActor_X6_leastFor : GoodIn wsX6_firstCastActor (wsV RX6 134 RX6 yX6_leastFor wsX6_leastFor) := goodIn_app (goodIn_of _ (by decide +kernel)) ggX6_firstCastActor_X6_leastFor
theorem dX6_firstCastActor_0 : decode cX6_firstCastActor 0 = .ok (.aload_n 0, 1) := by decide +kernel
theorem dX6_firstCastActor_1 : decode cX6_firstCastActor 1 = .ok (.iload_n 1, 1) := by decide +kernel
theorem dX6_firstCastActor_2 : decode cX6_firstCastActor 2 = .ok (.invokevirtual 109, 3) := by decide +kernel
theorem dX6_firstCastActor_5 : decode cX6_firstCastActor 5 = .ok (.ifCond .ne 7, 3) := by decide +kernel
theorem dX6_firstCastActor_8 : decode cX6_firstCastActor 8 = .ok (.sipush (-1001), 3) := by decide +kernel
theorem dX6_firstCastActor_11 : decode cX6_firstCastActor 11 = .ok (.ireturn, 1) := by decide +kernel
theorem dX6_firstCastActor_12 : decode cX6_firstCastActor 12 = .ok (.aload_n 0, 1) := by decide +kernel
theorem dX6_firstCastActor_13 : decode cX6_firstCastActor 13 = .ok (.iconst 0, 1) := by decide +kernel
theorem dX6_firstCastActor_14 : decode cX6_firstCastActor 14 = .ok (.invokevirtual 134, 3) := by decide +kernel
theorem dX6_firstCastActor_17 : decode cX6_firstCastActor 17 = .ok (.pop, 1) := by decide +kernel
theorem dX6_firstCastActor_18 : decode cX6_firstCastActor 18 = .ok (.aload_n 0, 1) := by decide +kernel
theorem dX6_firstCastActor_19 : decode cX6_firstCastActor 19 = .ok (.getfield 25, 3) := by decide +kernel
theorem dX6_firstCastActor_22 : decode cX6_firstCastActor 22 = .ok (.iload_n 1, 1) := by decide +kernel
theorem dX6_firstCastActor_23 : decode cX6_firstCastActor 23 = .ok (.iaload, 1) := by decide +kernel
theorem dX6_firstCastActor_24 : decode cX6_firstCastActor 24 = .ok (.ireturn, 1) := by decide +kernel
set_option maxRecDepth 20000 in
theorem ggX6_greedyCast_X6_layConflicts : GoodIn wsX6_greedyCast wsX6_layConflicts := goodIn_r _ [7, 1, 8, 9, 10, 11, 6, 12, 13, 14, 15, 16, 17, 18, 19, 20, 21, 22, 23, 24, 25, 26, 27, 28, 29, 30, 31, 32, 33, 34, 35, 36, 37, 38, 39, 40, 41, 46, 47, 48, 49, 50, 51, 52, 53, 54, 55] (by decide +kernel) (by decide +kernel)
set_option maxRecDepth 20000 in
theorem gX6_greedyCast_X6_layConflicts : GoodIn wsX6_greedyCast (wsV RX6 106 RX6 yX6_layConflicts wsX6_layConflicts) := goodIn_app (goodIn_of _ (by decide +kernel)) ggX6_greedyCast_X6_layConflicts
set_option maxRecDepth 20000 in
theorem ggX6_greedyCast_X6_mayHave : GoodIn wsX6_greedyCast wsX6_mayHave := goodIn_r _ [45, 2, 8, 46, 47, 48, 49, 50, 51, 52, 53, 54, 55] (by decide +kernel) (by decide +kernel)
set_option maxRecDepth 20000 in
theorem gX6_greedyCast_X6_mayHave : GoodIn wsX6_greedyCast (wsV RX6 177 RX6 yX6_mayHave wsX6_mayHave) := goodIn_app (goodIn_of _ (by decide +kernel)) ggX6_greedyCast_X6_mayHave
theorem dX6_greedyCast_0 : decode cX6_greedyCast 0 = .ok (.aload_n 0, 1) := by decide +kernel
theorem dX6_greedyCast_1 : decode cX6_greedyCast 1 = .ok (.iconst 0, 1) := by decide +kernel
theorem dX6_greedyCast_2 : decode cX6_greedyCast 2 = .ok (.invokevirtual 106, 3) := by decide +kernel
theorem dX6_greedyCast_5 : decode cX6_greedyCast 5 = .ok (.iconst 0, 1) := by decide +kernel
theorem dX6_greedyCast_6 : decode cX6_greedyCast 6 = .ok (.istore_n 1, 1) := by decide +kernel
theorem dX6_greedyCast_7 : decode cX6_greedyCast 7 = .ok (.iconst 0, 1) := by decide +kernel
theorem dX6_greedyCast_8 : decode cX6_greedyCast 8 = .ok (.istore_n 2, 1) := by decide +kernel
theorem dX6_greedyCast_9 : decode cX6_greedyCast 9 = .ok (.iload_n 2, 1) := by decide +kernel
theorem dX6_greedyCast_10 : decode cX6_greedyCast 10 = .ok (.aload_n 0, 1) := by decide +kernel
theorem dX6_greedyCast_11 : decode cX6_greedyCast 11 = .ok (.getfield 7, 3) := by decide +kernel
theorem dX6_greedyCast_14 : decode cX6_greedyCast 14 = .ok (.bipush 11, 2) := by decide +kernel
theorem dX6_greedyCast_16 : decode cX6_greedyCast 16 = .ok (.iaload, 1) := by decide +kernel
theorem dX6_greedyCast_17 : decode cX6_greedyCast 17 = .ok (.if_icmp .ge 68, 3) := by decide +kernel
theorem dX6_greedyCast_20 : decode cX6_greedyCast 20 = .ok (.aload_n 0, 1) := by decide +kernel
theorem dX6_greedyCast_21 : decode cX6_greedyCast 21 = .ok (.getfield 25, 3) := by decide +kernel
theorem dX6_greedyCast_24 : decode cX6_greedyCast 24 = .ok (.iload_n 2, 1) := by decide +kernel
theorem dX6_greedyCast_25 : decode cX6_greedyCast 25 = .ok (.iconst 0, 1) := by decide +kernel
theorem dX6_greedyCast_26 : decode cX6_greedyCast 26 = .ok (.iastore, 1) := by decide +kernel
theorem dX6_greedyCast_27 : decode cX6_greedyCast 27 = .ok (.aload_n 0, 1) := by decide +kernel
theorem dX6_greedyCast_28 : decode cX6_greedyCast 28 = .ok (.iload_n 2, 1) := by decide +kernel
theorem dX6_greedyCast_29 : decode cX6_greedyCast 29 = .ok (.aload_n 0, 1) := by decide +kernel
theorem dX6_greedyCast_30 : decode cX6_greedyCast 30 = .ok (.getfield 25, 3) := by decide +kernel
theorem dX6_greedyCast_33 : decode cX6_greedyCast 33 = .ok (.iload_n 2, 1) := by decide +kernel
theorem dX6_greedyCast_34 : decode cX6_greedyCast 34 = .ok (.iaload, 1) := by decide +kernel
theorem dX6_greedyCast_35 : decode cX6_greedyCast 35 = .ok (.invokevirtual 177, 3) := by decide +kernel
theorem dX6_greedyCast_38 : decode cX6_greedyCast 38 = .ok (.ifCond .ne 16, 3) := by decide +kernel
theorem dX6_greedyCast_41 : decode cX6_greedyCast 41 = .ok (.aload_n 0, 1) := by decide +kernel
theorem dX6_greedyCast_42 : decode cX6_greedyCast 42 = .ok (.getfield 25, 3) := by decide +kernel
theorem dX6_greedyCast_45 : decode cX6_greedyCast 45 = .ok (.iload_n 2, 1) := by decide +kernel
theorem dX6_greedyCast_46 : decode cX6_greedyCast 46 = .ok (.dup2, 1) := by decide +kernel
theorem dX6_greedyCast_47 : decode cX6_greedyCast 47 = .ok (.iaload, 1) := by decide +kernel
theorem dX6_greedyCast_48 : decode cX6_greedyCast 48 = .ok (.iconst 1, 1) := by decide +kernel
theorem dX6_greedyCast_49 : decode cX6_greedyCast 49 = .ok (.iadd, 1) := by decide +kernel
theorem dX6_greedyCast_50 : decode cX6_greedyCast 50 = .ok (.iastore, 1) := by decide +kernel
theorem dX6_greedyCast_51 : decode cX6_greedyCast 51 = .ok (.goto (-24), 3) := by decide +kernel
theorem dX6_greedyCast_54 : decode cX6_greedyCast 54 = .ok (.aload_n 0, 1) := by decide +kernel
theorem dX6_greedyCast_55 : decode cX6_greedyCast 55 = .ok (.getfield 25, 3) := by decide +kernel
theorem dX6_greedyCast_58 : decode cX6_greedyCast 58 = .ok (.iload_n 2, 1) := by decide +kernel
theorem dX6_greedyCast_59 : decode cX6_greedyCast 59 = .ok (.iaload, 1) := by decide +kernel
theorem dX6_greedyCast_60 : decode cX6_greedyCast 60 = .ok (.iconst 1, 1) := by decide +kernel
theorem dX6_greedyCast_61 : decode cX6_greedyCast 61 = .ok (.iadd, 1) := by decide +kernel
theorem dX6_greedyCast_62 : decode cX6_greedyCast 62 = .ok (.iload_n 1, 1) := by decide +kernel
theorem dX6_greedyCast_63 : decode cX6_greedyCast 63 = .ok (.if_icmp .le 14, 3) := by decide +kernel
theorem dX6_greedyCast_66 : decode cX6_greedyCast 66 = .ok (.aload_n 0, 1) := by decide +kernel
theorem dX6_greedyCast_67 : decode cX6_greedyCast 67 = .ok (.getfield 25, 3) := by decide +kernel
theorem dX6_greedyCast_70 : decode cX6_greedyCast 70 = .ok (.iload_n 2, 1) := by decide +kernel
theorem dX6_greedyCast_71 : decode cX6_greedyCast 71 = .ok (.iaload, 1) := by decide +kernel
theorem dX6_greedyCast_72 : decode cX6_greedyCast 72 = .ok (.iconst 1, 1) := by decide +kernel
theorem dX6_greedyCast_73 : decode cX6_greedyCast 73 = .ok (.iadd, 1) := by decide +kernel
theorem dX6_greedyCast_74 : decode cX6_greedyCast 74 = .ok (.goto 4, 3) := by decide +kernel
theorem dX6_greedyCast_77 : decode cX6_greedyCast 77 = .ok (.iload_n 1, 1) := by decide +kernel
theorem dX6_greedyCast_78 : decode cX6_greedyCast 78 = .ok (.istore_n 1, 1) := by decide +kernel
theorem dX6_greedyCast_79 : decode cX6_greedyCast 79 = .ok (.iinc 2 1, 3) := by decide +kernel
theorem dX6_greedyCast_82 : decode cX6_greedyCast 82 = .ok (.goto (-73), 3) := by decide +kernel
theorem dX6_greedyCast_85 : decode cX6_greedyCast 85 = .ok (.iload_n 1, 1) := by decide +kernel
theorem dX6_greedyCast_86 : decode cX6_greedyCast 86 = .ok (.ireturn, 1) := by decide +kernel
set_option maxRecDepth 20000 in
theorem ggX6_leastCastIfFaster_X6_in : GoodIn wsX6_leastCastIfFaster wsX6_in := goodIn_r _ [5] (by decide +kernel) (by decide +kernel)
set_option maxRecDepth 20000 in
theorem gX6_leastCastIfFaster_X6_in : GoodIn wsX6_leastCastIfFaster (va_wsS RX6 44 yX6_in wsX6_in) := goodIn_app (goodIn_of _ (by decide +kernel)) ggX6_leastCastIfFaster_X6_in
set_option maxRecDepth 20000 in
theorem ggX6_leastCastIfFaster_X6_leastFor : GoodIn wsX6_leastCastIfFaster wsX6_leastFor := goodIn_r _ [9, 10, 11, 12, 4, 13, 14, 15, 16, 17, 18, 19, 20, 21, 22, 23, 24, 25, 26, 27, 28, 29, 30, 31, 32, 33, 34, 35, 36, 37, 38, 39, 40, 41, 42, 43, 44, 45, 46, 47, 48, 49, 50, 51, 52, 53, 54, 55, 56, 57, 58, 59, 60, 61, 62, 63, 64, 65, 66, 67] (by decide +kernel) (by decide +kernel)
set_option maxRecDepth 20000 in
theorem gX6_leastCastIfFaster_X6_leastFor : GoodIn wsX6_leastCastIfFaster (wsV RX6 134 RX6 yX6_leastFor wsX6_leastFor) := goodIn_app (goodIn_of _ (by decide +kernel)) ggX6_leastCastIfFaster_X6_leastFor
theorem dX6_leastCastIfFaster_0 : decode cX6_leastCastIfFaster 0 = .ok (.iload_n 1, 1) := by decide +kernel
theorem dX6_leastCastIfFaster_1 : decode cX6_leastCastIfFaster 1 = .ok (.i2l, 1) := by decide +kernel
theorem dX6_leastCastIfFaster_2 : decode cX6_leastCastIfFaster 2 = .ok (.lconst 0, 1) := by decide +kernel
theorem dX6_leastCastIfFaster_3 : decode cX6_leastCastIfFaster 3 = .ok (.ldc2_w 183, 3) := by decide +kernel
theorem dX6_leastCastIfFaster_6 : decode cX6_leastCastIfFaster 6 = .ok (.invokestatic 44, 3) := by decide +kernel
theorem dX6_leastCastIfFaster_9 : decode cX6_leastCastIfFaster 9 = .ok (.ifCond .eq 11, 3) := by decide +kernel
theorem dX6_leastCastIfFaster_12 : decode cX6_leastCastIfFaster 12 = .ok (.aload_n 0, 1) := by decide +kernel
theorem dX6_leastCastIfFaster_13 : decode cX6_leastCastIfFaster 13 = .ok (.iload_n 1, 1) := by decide +kernel
theorem dX6_leastCastIfFaster_14 : decode cX6_leastCastIfFaster 14 = .ok (.invokevirtual 134, 3) := by decide +kernel
theorem dX6_leastCastIfFaster_17 : decode cX6_leastCastIfFaster 17 = .ok (.goto 6, 3) := by decide +kernel
theorem dX6_leastCastIfFaster_20 : decode cX6_leastCastIfFaster 20 = .ok (.sipush (-1001), 3) := by decide +kernel
theorem dX6_leastCastIfFaster_23 : decode cX6_leastCastIfFaster 23 = .ok (.ireturn, 1) := by decide +kernel
set_option maxRecDepth 20000 in
theorem ggX6_speedUpFor_X6_in : GoodIn wsX6_speedUpFor wsX6_in := goodIn_r _ [5] (by decide +kernel) (by decide +kernel)
set_option maxRecDepth 20000 in
theorem gX6_speedUpFor_X6_in : GoodIn wsX6_speedUpFor (va_wsS RX6 44 yX6_in wsX6_in) := goodIn_app (goodIn_of _ (by decide +kernel)) ggX6_speedUpFor_X6_in
set_option maxRecDepth 20000 in
theorem ggX6_speedUpFor_X6_layConflicts : GoodIn wsX6_speedUpFor wsX6_layConflicts := goodIn_r _ [9, 10, 11, 12, 13, 14, 4, 15, 16, 17, 18, 19, 20, 21, 22, 23, 24, 25, 26, 27, 28, 29, 30, 31, 32, 33, 34, 35, 36, 37, 38, 39, 40, 41, 42, 43, 44, 54, 55, 56, 57, 58, 59, 60, 61, 62, 63] (by decide +kernel) (by decide +kernel)
set_option maxRecDepth 20000 in
theorem gX6_speedUpFor_X6_layConflicts : GoodIn wsX6_speedUpFor (wsV RX6 106 RX6 yX6_layConflicts wsX6_layConflicts) := goodIn_app (goodIn_of _ (by decide +kernel)) ggX6_speedUpFor_X6_layConflicts
set_option maxRecDepth 20000 in
theorem ggX6_speedUpFor_X6_isGiven : GoodIn wsX6_speedUpFor wsX6_isGiven := goodIn_r _ [48, 49, 10, 50, 51, 52, 4, 53, 11, 54, 55, 56, 57, 58, 59, 60, 61, 62, 63] (by decide +kernel) (by decide +kernel)
set_option maxRecDepth 20000 in
theorem gX6_speedUpFor_X6_isGiven : GoodIn wsX6_speedUpFor (wsV RX6 180 RX6 yX6_isGiven wsX6_isGiven) := goodIn_app (goodIn_of _ (by decide +kernel)) ggX6_speedUpFor_X6_isGiven
theorem dX6_speedUpFor_0 : decode cX6_speedUpFor 0 = .ok (.iload_n 1, 1) := by decide +kernel
theorem dX6_speedUpFor_1 : decode cX6_speedUpFor 1 = .ok (.i2l, 1) := by decide +kernel
theorem dX6_speedUpFor_2 : decode cX6_speedUpFor 2 = .ok (.lconst 1, 1) := by decide +kernel
theorem dX6_speedUpFor_3 : decode cX6_speedUpFor 3 = .ok (.ldc2_w 185, 3) := by decide +kernel
theorem dX6_speedUpFor_6 : decode cX6_speedUpFor 6 = .ok (.invokestatic 44, 3) := by decide +kernel
theorem dX6_speedUpFor_9 : decode cX6_speedUpFor 9 = .ok (.ifCond .ne 7, 3) := by decide +kernel
theorem dX6_speedUpFor_12 : decode cX6_speedUpFor 12 = .ok (.sipush (-1001), 3) := by decide +kernel
theorem dX6_speedUpFor_15 : decode cX6_speedUpFor 15 = .ok (.ireturn, 1) := by decide +kernel
theorem dX6_speedUpFor_16 : decode cX6_speedUpFor 16 = .ok (.iconst 0, 1) := by decide +kernel
theorem dX6_speedUpFor_17 : decode cX6_speedUpFor 17 = .ok (.istore_n 2, 1) := by decide +kernel
theorem dX6_speedUpFor_18 : decode cX6_speedUpFor 18 = .ok (.iload_n 2, 1) := by decide +kernel
theorem dX6_speedUpFor_19 : decode cX6_speedUpFor 19 = .ok (.bipush 120, 2) := by decide +kernel
theorem dX6_speedUpFor_21 : decode cX6_speedUpFor 21 = .ok (.if_icmp .gt 24, 3) := by decide +kernel
theorem dX6_speedUpFor_24 : decode cX6_speedUpFor 24 = .ok (.aload_n 0, 1) := by decide +kernel
theorem dX6_speedUpFor_25 : decode cX6_speedUpFor 25 = .ok (.iload_n 2, 1) := by decide +kernel
theorem dX6_speedUpFor_26 : decode cX6_speedUpFor 26 = .ok (.invokevirtual 106, 3) := by decide +kernel
theorem dX6_speedUpFor_29 : decode cX6_speedUpFor 29 = .ok (.aload_n 0, 1) := by decide +kernel
theorem dX6_speedUpFor_30 : decode cX6_speedUpFor 30 = .ok (.iload_n 1, 1) := by decide +kernel
theorem dX6_speedUpFor_31 : decode cX6_speedUpFor 31 = .ok (.invokevirtual 180, 3) := by decide +kernel
theorem dX6_speedUpFor_34 : decode cX6_speedUpFor 34 = .ok (.ifCond .eq 5, 3) := by decide +kernel
theorem dX6_speedUpFor_37 : decode cX6_speedUpFor 37 = .ok (.iload_n 2, 1) := by decide +kernel
theorem dX6_speedUpFor_38 : decode cX6_speedUpFor 38 = .ok (.ireturn, 1) := by decide +kernel
theorem dX6_speedUpFor_39 : decode cX6_speedUpFor 39 = .ok (.iinc 2 1, 3) := by decide +kernel
theorem dX6_speedUpFor_42 : decode cX6_speedUpFor 42 = .ok (.goto (-24), 3) := by decide +kernel
theorem dX6_speedUpFor_45 : decode cX6_speedUpFor 45 = .ok (.sipush (-1004), 3) := by decide +kernel
theorem dX6_speedUpFor_48 : decode cX6_speedUpFor 48 = .ok (.ireturn, 1) := by decide +kernel
theorem dJ6_bitCount_0f7a4_0 : decode cJ6_bitCount_0f7a4 0 = .ok (.iload_n 0, 1) := by decide +kernel
theorem dJ6_bitCount_0f7a4_1 : decode cJ6_bitCount_0f7a4 1 = .ok (.iload_n 0, 1) := by decide +kernel
theorem dJ6_bitCount_0f7a4_2 : decode cJ6_bitCount_0f7a4 2 = .ok (.iconst 1, 1) := by decide +kernel
theorem dJ6_bitCount_0f7a4_3 : decode cJ6_bitCount_0f7a4 3 = .ok (.iushr, 1) := by decide +kernel
theorem dJ6_bitCount_0f7a4_4 : decode cJ6_bitCount_0f7a4 4 = .ok (.ldc_w 265, 3) := by decide +kernel
theorem dJ6_bitCount_0f7a4_7 : decode cJ6_bitCount_0f7a4 7 = .ok (.iand, 1) := by decide +kernel
theorem dJ6_bitCount_0f7a4_8 : decode cJ6_bitCount_0f7a4 8 = .ok (.isub, 1) := by decide +kernel
theorem dJ6_bitCount_0f7a4_9 : decode cJ6_bitCount_0f7a4 9 = .ok (.istore_n 0, 1) := by decide +kernel
theorem dJ6_bitCount_0f7a4_10 : decode cJ6_bitCount_0f7a4 10 = .ok (.iload_n 0, 1) := by decide +kernel
theorem dJ6_bitCount_0f7a4_11 : decode cJ6_bitCount_0f7a4 11 = .ok (.ldc_w 266, 3) := by decide +kernel
theorem dJ6_bitCount_0f7a4_14 : decode cJ6_bitCount_0f7a4 14 = .ok (.iand, 1) := by decide +kernel
theorem dJ6_bitCount_0f7a4_15 : decode cJ6_bitCount_0f7a4 15 = .ok (.iload_n 0, 1) := by decide +kernel
theorem dJ6_bitCount_0f7a4_16 : decode cJ6_bitCount_0f7a4 16 = .ok (.iconst 2, 1) := by decide +kernel
theorem dJ6_bitCount_0f7a4_17 : decode cJ6_bitCount_0f7a4 17 = .ok (.iushr, 1) := by decide +kernel
theorem dJ6_bitCount_0f7a4_18 : decode cJ6_bitCount_0f7a4 18 = .ok (.ldc_w 266, 3) := by decide +kernel
theorem dJ6_bitCount_0f7a4_21 : decode cJ6_bitCount_0f7a4 21 = .ok (.iand, 1) := by decide +kernel
theorem dJ6_bitCount_0f7a4_22 : decode cJ6_bitCount_0f7a4 22 = .ok (.iadd, 1) := by decide +kernel
theorem dJ6_bitCount_0f7a4_23 : decode cJ6_bitCount_0f7a4 23 = .ok (.istore_n 0, 1) := by decide +kernel
theorem dJ6_bitCount_0f7a4_24 : decode cJ6_bitCount_0f7a4 24 = .ok (.iload_n 0, 1) := by decide +kernel
theorem dJ6_bitCount_0f7a4_25 : decode cJ6_bitCount_0f7a4 25 = .ok (.iload_n 0, 1) := by decide +kernel
theorem dJ6_bitCount_0f7a4_26 : decode cJ6_bitCount_0f7a4 26 = .ok (.iconst 4, 1) := by decide +kernel
theorem dJ6_bitCount_0f7a4_27 : decode cJ6_bitCount_0f7a4 27 = .ok (.iushr, 1) := by decide +kernel
theorem dJ6_bitCount_0f7a4_28 : decode cJ6_bitCount_0f7a4 28 = .ok (.iadd, 1) := by decide +kernel
theorem dJ6_bitCount_0f7a4_29 : decode cJ6_bitCount_0f7a4 29 = .ok (.ldc_w 267, 3) := by decide +kernel
theorem dJ6_bitCount_0f7a4_32 : decode cJ6_bitCount_0f7a4 32 = .ok (.iand, 1) := by decide +kernel
theorem dJ6_bitCount_0f7a4_33 : decode cJ6_bitCount_0f7a4 33 = .ok (.istore_n 0, 1) := by decide +kernel
theorem dJ6_bitCount_0f7a4_34 : decode cJ6_bitCount_0f7a4 34 = .ok (.iload_n 0, 1) := by decide +kernel
theorem dJ6_bitCount_0f7a4_35 : decode cJ6_bitCount_0f7a4 35 = .ok (.iload_n 0, 1) := by decide +kernel
theorem dJ6_bitCount_0f7a4_36 : decode cJ6_bitCount_0f7a4 36 = .ok (.bipush 8, 2) := by decide +kernel
theorem dJ6_bitCount_0f7a4_38 : decode cJ6_bitCount_0f7a4 38 = .ok (.iushr, 1) := by decide +kernel
theorem dJ6_bitCount_0f7a4_39 : decode cJ6_bitCount_0f7a4 39 = .ok (.iadd, 1) := by decide +kernel
theorem dJ6_bitCount_0f7a4_40 : decode cJ6_bitCount_0f7a4 40 = .ok (.istore_n 0, 1) := by decide +kernel
theorem dJ6_bitCount_0f7a4_41 : decode cJ6_bitCount_0f7a4 41 = .ok (.iload_n 0, 1) := by decide +kernel
theorem dJ6_bitCount_0f7a4_42 : decode cJ6_bitCount_0f7a4 42 = .ok (.iload_n 0, 1) := by decide +kernel
theorem dJ6_bitCount_0f7a4_43 : decode cJ6_bitCount_0f7a4 43 = .ok (.bipush 16, 2) := by decide +kernel
theorem dJ6_bitCount_0f7a4_45 : decode cJ6_bitCount_0f7a4 45 = .ok (.iushr, 1) := by decide +kernel
theorem dJ6_bitCount_0f7a4_46 : decode cJ6_bitCount_0f7a4 46 = .ok (.iadd, 1) := by decide +kernel
theorem dJ6_bitCount_0f7a4_47 : decode cJ6_bitCount_0f7a4 47 = .ok (.istore_n 0, 1) := by decide +kernel
theorem dJ6_bitCount_0f7a4_48 : decode cJ6_bitCount_0f7a4 48 = .ok (.iload_n 0, 1) := by decide +kernel
theorem dJ6_bitCount_0f7a4_49 : decode cJ6_bitCount_0f7a4 49 = .ok (.bipush 63, 2) := by decide +kernel
theorem dJ6_bitCount_0f7a4_51 : decode cJ6_bitCount_0f7a4 51 = .ok (.iand, 1) := by decide +kernel
theorem dJ6_bitCount_0f7a4_52 : decode cJ6_bitCount_0f7a4 52 = .ok (.ireturn, 1) := by decide +kernel
theorem dJ9_max_7cf53_0 : decode cJ9_max_7cf53 0 = .ok (.iload_n 0, 1) := by decide +kernel
theorem dJ9_max_7cf53_1 : decode cJ9_max_7cf53 1 = .ok (.iload_n 1, 1) := by decide +kernel
theorem dJ9_max_7cf53_2 : decode cJ9_max_7cf53 2 = .ok (.if_icmp .lt 7, 3) := by decide +kernel
theorem dJ9_max_7cf53_5 : decode cJ9_max_7cf53 5 = .ok (.iload_n 0, 1) := by decide +kernel
theorem dJ9_max_7cf53_6 : decode cJ9_max_7cf53 6 = .ok (.goto 4, 3) := by decide +kernel
theorem dJ9_max_7cf53_9 : decode cJ9_max_7cf53 9 = .ok (.iload_n 1, 1) := by decide +kernel
theorem dJ9_max_7cf53_10 : decode cJ9_max_7cf53 10 = .ok (.ireturn, 1) := by decide +kernel
theorem dJ9_min_7cf53_0 : decode cJ9_min_7cf53 0 = .ok (.iload_n 0, 1) := by decide +kernel
theorem dJ9_min_7cf53_1 : decode cJ9_min_7cf53 1 = .ok (.iload_n 1, 1) := by decide +kernel
theorem dJ9_min_7cf53_2 : decode cJ9_min_7cf53 2 = .ok (.if_icmp .gt 7, 3) := by decide +kernel
theorem dJ9_min_7cf53_5 : decode cJ9_min_7cf53 5 = .ok (.iload_n 0, 1) := by decide +kernel
theorem dJ9_min_7cf53_6 : decode cJ9_min_7cf53 6 = .ok (.goto 4, 3) := by decide +kernel
theorem dJ9_min_7cf53_9 : decode cJ9_min_7cf53 9 = .ok (.iload_n 1, 1) := by decide +kernel
theorem dJ9_min_7cf53_10 : decode cJ9_min_7cf53 10 = .ok (.ireturn, 1) := by decide +kernel
set_option maxRecDepth 20000 in
theorem ggJ0_length_8abf5_J0_coder_7d493 : GoodIn wsJ0_length_8abf5 wsJ0_coder_7d493 := goodIn_r _ [6, 7, 8] (by decide +kernel) (by decide +kernel)
set_option maxRecDepth 20000 in
theorem gJ0_length_8abf5_J0_coder_7d493 : GoodIn wsJ0_length_8abf5 (wsV RJ0 335 RJ0 yJ0_coder_7d493 wsJ0_coder_7d493) := goodIn_app (goodIn_of _ (by decide +kernel)) ggJ0_length_8abf5_J0_coder_7d493
theorem dJ0_length_8abf5_0 : decode cJ0_length_8abf5 0 = .ok (.aload_n 0, 1) := by decide +kernel
theorem dJ0_length_8abf5_1 : decode cJ0_length_8abf5 1 = .ok (.getfield 9, 3) := by decide +kernel
theorem dJ0_length_8abf5_4 : decode cJ0_length_8abf5 4 = .ok (.arraylength, 1) := by decide +kernel
theorem dJ0_length_8abf5_5 : decode cJ0_length_8abf5 5 = .ok (.aload_n 0, 1) := by decide +kernel
theorem dJ0_length_8abf5_6 : decode cJ0_length_8abf5 6 = .ok (.invokevirtual 335, 3) := by decide +kernel
theorem dJ0_length_8abf5_9 : decode cJ0_length_8abf5 9 = .ok (.ishr, 1) := by decide +kernel
theorem dJ0_length_8abf5_10 : decode cJ0_length_8abf5 10 = .ok (.ireturn, 1) := by decide +kernel
set_option maxRecDepth 20000 in
theorem ggJ0_charAt_5068e_J0_isLatin1_aae02 : GoodIn wsJ0_charAt_5068e wsJ0_isLatin1_aae02 := goodIn_r _ [6, 7, 8] (by decide +kernel) (by decide +kernel)
set_option maxRecDepth 20000 in
theorem gJ0_charAt_5068e_J0_isLatin1_aae02 : GoodIn wsJ0_charAt_5068e (wsV RJ0 492 RJ0 yJ0_isLatin1_aae02 wsJ0_isLatin1_aae02) := goodIn_app (goodIn_of _ (by decide +kernel)) ggJ0_charAt_5068e_J0_isLatin1_aae02
set_option maxRecDepth 20000 in
theorem ggJ0_charAt_5068e_J1_charAt_3b067 : GoodIn wsJ0_charAt_5068e wsJ1_charAt_3b067 := goodIn_r _ [12, 13, 14, 5, 15, 16, 17, 18, 19, 20] (by decide +kernel) (by decide +kernel)
set_option maxRecDepth 20000 in
theorem gJ0_charAt_5068e_J1_charAt_3b067 : GoodIn wsJ0_charAt_5068e (va_wsS RJ0 495 yJ1_charAt_3b067 wsJ1_charAt_3b067) := goodIn_app (goodIn_of _ (by decide +kernel)) ggJ0_charAt_5068e_J1_charAt_3b067
set_option maxRecDepth 20000 in
theorem ggJ0_charAt_5068e_J2_charAt_3b067 : GoodIn wsJ0_charAt_5068e wsJ2_charAt_3b067 := goodIn_r _ [24, 25, 26, 23, 27, 28, 29, 30, 31, 14, 5, 15, 16, 17, 18, 19, 20, 32, 33, 34, 35, 36, 37] (by decide +kernel) (by decide +kernel)
set_option maxRecDepth 20000 in
theorem gJ0_charAt_5068e_J2_charAt_3b067 : GoodIn wsJ0_charAt_5068e (va_wsS RJ0 498 yJ2_charAt_3b067 wsJ2_charAt_3b067) := goodIn_app (goodIn_of _ (by decide +kernel)) ggJ0_charAt_5068e_J2_charAt_3b067
theorem dJ0_charAt_5068e_0 : decode cJ0_charAt_5068e 0 = .ok (.aload_n 0, 1) := by decide +kernel
theorem dJ0_charAt_5068e_1 : decode cJ0_charAt_5068e 1 = .ok (.invokevirtual 492, 3) := by decide +kernel
theorem dJ0_charAt_5068e_4 : decode cJ0_charAt_5068e 4 = .ok (.ifCond .eq 12, 3) := by decide +kernel
theorem dJ0_charAt_5068e_7 : decode cJ0_charAt_5068e 7 = .ok (.aload_n 0, 1) := by decide +kernel
theorem dJ0_charAt_5068e_8 : decode cJ0_charAt_5068e 8 = .ok (.getfield 9, 3) := by decide +kernel
theorem dJ0_charAt_5068e_11 : decode cJ0_charAt_5068e 11 = .ok (.iload_n 1, 1) := by decide +kernel
theorem dJ0_charAt_5068e_12 : decode cJ0_charAt_5068e 12 = .ok (.invokestatic 495, 3) := by decide +kernel
theorem dJ0_charAt_5068e_15 : decode cJ0_charAt_5068e 15 = .ok (.ireturn, 1) := by decide +kernel
theorem dJ0_charAt_5068e_16 : decode cJ0_charAt_5068e 16 = .ok (.aload_n 0, 1) := by decide +kernel
theorem dJ0_charAt_5068e_17 : decode cJ0_charAt_5068e 17 = .ok (.getfield 9, 3) := by decide +kernel
theorem dJ0_charAt_5068e_20 : decode cJ0_charAt_5068e 20 = .ok (.iload_n 1, 1) := by decide +kernel
theorem dJ0_charAt_5068e_21 : decode cJ0_charAt_5068e 21 = .ok (.invokestatic 498, 3) := by decide +kernel
theorem dJ0_charAt_5068e_24 : decode cJ0_charAt_5068e 24 = .ok (.ireturn, 1) := by decide +kernel
theorem dJ0_coder_7d493_0 : decode cJ0_coder_7d493 0 = .ok (.getstatic 38, 3) := by decide +kernel
theorem dJ0_coder_7d493_3 : decode cJ0_coder_7d493 3 = .ok (.ifCond .eq 10, 3) := by decide +kernel
theorem dJ0_coder_7d493_6 : decode cJ0_coder_7d493 6 = .ok (.aload_n 0, 1) := by decide +kernel
theorem dJ0_coder_7d493_7 : decode cJ0_coder_7d493 7 = .ok (.getfield 15, 3) := by decide +kernel
theorem dJ0_coder_7d493_10 : decode cJ0_coder_7d493 10 = .ok (.goto 4, 3) := by decide +kernel
theorem dJ0_coder_7d493_13 : decode cJ0_coder_7d493 13 = .ok (.iconst 1, 1) := by decide +kernel
theorem dJ0_coder_7d493_14 : decode cJ0_coder_7d493 14 = .ok (.ireturn, 1) := by decide +kernel
theorem dJ0_isLatin1_aae02_0 : decode cJ0_isLatin1_aae02 0 = .ok (.getstatic 38, 3) := by decide +kernel
theorem dJ0_isLatin1_aae02_3 : decode cJ0_isLatin1_aae02 3 = .ok (.ifCond .eq 14, 3) := by decide +kernel
theorem dJ0_isLatin1_aae02_6 : decode cJ0_isLatin1_aae02 6 = .ok (.aload_n 0, 1) := by decide +kernel
theorem dJ0_isLatin1_aae02_7 : decode cJ0_isLatin1_aae02 7 = .ok (.getfield 15, 3) := by decide +kernel
theorem dJ0_isLatin1_aae02_10 : decode cJ0_isLatin1_aae02 10 = .ok (.ifCond .ne 7, 3) := by decide +kernel
theorem dJ0_isLatin1_aae02_13 : decode cJ0_isLatin1_aae02 13 = .ok (.iconst 1, 1) := by decide +kernel
theorem dJ0_isLatin1_aae02_14 : decode cJ0_isLatin1_aae02 14 = .ok (.goto 4, 3) := by decide +kernel
theorem dJ0_isLatin1_aae02_17 : decode cJ0_isLatin1_aae02 17 = .ok (.iconst 0, 1) := by decide +kernel
theorem dJ0_isLatin1_aae02_18 : decode cJ0_isLatin1_aae02 18 = .ok (.ireturn, 1) := by decide +kernel
set_option maxRecDepth 20000 in
theorem ggJ0_checkIndex_df160_J3_checkIndex_8e157 : GoodIn wsJ0_checkIndex_df160 wsJ3_checkIndex_8e157 := goodIn_r _ [5] (by decide +kernel) (by decide +kernel)
set_option maxRecDepth 20000 in
theorem gJ0_checkIndex_df160_J3_checkIndex_8e157 : GoodIn wsJ0_checkIndex_df160 (va_wsS RJ0 1059 yJ3_checkIndex_8e157 wsJ3_checkIndex_8e157) := goodIn_app (goodIn_of _ (by decide +kernel)) ggJ0_checkIndex_df160_J3_checkIndex_8e157
theorem dJ0_checkIndex_df160_0 : decode cJ0_checkIndex_df160 0 = .ok (.iload_n 0, 1) := by decide +kernel
theorem dJ0_checkIndex_df160_1 : decode cJ0_checkIndex_df160 1 = .ok (.iload_n 1, 1) := by decide +kernel
theorem dJ0_checkIndex_df160_2 : decode cJ0_checkIndex_df160 2 = .ok (.getstatic 1053, 3) := by decide +kernel
theorem dJ0_checkIndex_df160_5 : decode cJ0_checkIndex_df160 5 = .ok (.invokestatic 1059, 3) := by decide +kernel
theorem dJ0_checkIndex_df160_8 : decode cJ0_checkIndex_df160 8 = .ok (.pop, 1) := by decide +kernel
theorem dJ0_checkIndex_df160_9 : decode cJ0_checkIndex_df160 9 = .ok (.return_, 1) := by decide +kernel
set_option maxRecDepth 20000 in
theorem ggJ1_charAt_3b067_J0_checkIndex_df160 : GoodIn wsJ1_charAt_3b067 wsJ0_checkIndex_df160 := goodIn_r _ [4, 5, 6, 7, 8, 9] (by decide +kernel) (by decide +kernel)
set_option maxRecDepth 20000 in
theorem gJ1_charAt_3b067_J0_checkIndex_df160 : GoodIn wsJ1_charAt_3b067 (va_wsS RJ1 9 yJ0_checkIndex_df160 wsJ0_checkIndex_df160) := goodIn_app (goodIn_of _ (by decide +kernel)) ggJ1_charAt_3b067_J0_checkIndex_df160
theorem dJ1_charAt_3b067_0 : decode cJ1_charAt_3b067 0 = .ok (.iload_n 1, 1) := by decide +kernel
theorem dJ1_charAt_3b067_1 : decode cJ1_charAt_3b067 1 = .ok (.aload_n 0, 1) := by decide +kernel
theorem dJ1_charAt_3b067_2 : decode cJ1_charAt_3b067 2 = .ok (.arraylength, 1) := by decide +kernel
theorem dJ1_charAt_3b067_3 : decode cJ1_charAt_3b067 3 = .ok (.invokestatic 9, 3) := by decide +kernel
theorem dJ1_charAt_3b067_6 : decode cJ1_charAt_3b067 6 = .ok (.aload_n 0, 1) := by decide +kernel
theorem dJ1_charAt_3b067_7 : decode cJ1_charAt_3b067 7 = .ok (.iload_n 1, 1) := by decide +kernel
theorem dJ1_charAt_3b067_8 : decode cJ1_charAt_3b067 8 = .ok (.baload, 1) := by decide +kernel
theorem dJ1_charAt_3b067_9 : decode cJ1_charAt_3b067 9 = .ok (.sipush 255, 3) := by decide +kernel
theorem dJ1_charAt_3b067_12 : decode cJ1_charAt_3b067 12 = .ok (.iand, 1) := by decide +kernel
theorem dJ1_charAt_3b067_13 : decode cJ1_charAt_3b067 13 = .ok (.i2c, 1) := by decide +kernel
theorem dJ1_charAt_3b067_14 : decode cJ1_charAt_3b067 14 = .ok (.ireturn, 1) := by decide +kernel
set_option maxRecDepth 20000 in
theorem ggJ2_getChar_3b067_J2_length_9d52b : GoodIn wsJ2_getChar_3b067 wsJ2_length_9d52b := goodIn_r _ [7] (by decide +kernel) (by decide +kernel)
set_option maxRecDepth 20000 in
theorem gJ2_getChar_3b067_J2_length_9d52b : GoodIn wsJ2_getChar_3b067 (va_wsS RJ2 48 yJ2_length_9d52b wsJ2_length_9d52b) := goodIn_app (goodIn_of _ (by decide +kernel)) ggJ2_getChar_3b067_J2_length_9d52b
theorem dJ2_getChar_3b067_0 : decode cJ2_getChar_3b067 0 = .ok (.getstatic 44, 3) := by decide +kernel
theorem dJ2_getChar_3b067_3 : decode cJ2_getChar_3b067 3 = .ok (.ifCond .ne 25, 3) := by decide +kernel
theorem dJ2_getChar_3b067_6 : decode cJ2_getChar_3b067 6 = .ok (.iload_n 1, 1) := by decide +kernel
theorem dJ2_getChar_3b067_7 : decode cJ2_getChar_3b067 7 = .ok (.ifCond .lt 11, 3) := by decide +kernel
theorem dJ2_getChar_3b067_10 : decode cJ2_getChar_3b067 10 = .ok (.iload_n 1, 1) := by decide +kernel
theorem dJ2_getChar_3b067_11 : decode cJ2_getChar_3b067 11 = .ok (.aload_n 0, 1) := by decide +kernel
theorem dJ2_getChar_3b067_12 : decode cJ2_getChar_3b067 12 = .ok (.invokestatic 48, 3) := by decide +kernel
theorem dJ2_getChar_3b067_15 : decode cJ2_getChar_3b067 15 = .ok (.if_icmp .lt 13, 3) := by decide +kernel
theorem dJ2_getChar_3b067_18 : decode cJ2_getChar_3b067 18 = .ok (.new 52, 3) := by decide +kernel
theorem dJ2_getChar_3b067_21 : decode cJ2_getChar_3b067 21 = .ok (.dup, 1) := by decide +kernel
theorem dJ2_getChar_3b067_22 : decode cJ2_getChar_3b067 22 = .ok (.ldc 54, 2) := by decide +kernel
theorem dJ2_getChar_3b067_24 : decode cJ2_getChar_3b067 24 = .ok (.invokespecial 56, 3) := by decide +kernel
theorem dJ2_getChar_3b067_27 : decode cJ2_getChar_3b067 27 = .ok (.athrow, 1) := by decide +kernel
theorem dJ2_getChar_3b067_28 : decode cJ2_getChar_3b067 28 = .ok (.iload_n 1, 1) := by decide +kernel
theorem dJ2_getChar_3b067_29 : decode cJ2_getChar_3b067 29 = .ok (.iconst 1, 1) := by decide +kernel
theorem dJ2_getChar_3b067_30 : decode cJ2_getChar_3b067 30 = .ok (.ishl, 1) := by decide +kernel
theorem dJ2_getChar_3b067_31 : decode cJ2_getChar_3b067 31 = .ok (.istore_n 1, 1) := by decide +kernel
theorem dJ2_getChar_3b067_32 : decode cJ2_getChar_3b067 32 = .ok (.aload_n 0, 1) := by decide +kernel
theorem dJ2_getChar_3b067_33 : decode cJ2_getChar_3b067 33 = .ok (.iload_n 1, 1) := by decide +kernel
theorem dJ2_getChar_3b067_34 : decode cJ2_getChar_3b067 34 = .ok (.iinc 1 1, 3) := by decide +kernel
theorem dJ2_getChar_3b067_37 : decode cJ2_getChar_3b067 37 = .ok (.baload, 1) := by decide +kernel
theorem dJ2_getChar_3b067_38 : decode cJ2_getChar_3b067 38 = .ok (.sipush 255, 3) := by decide +kernel
theorem dJ2_getChar_3b067_41 : decode cJ2_getChar_3b067 41 = .ok (.iand, 1) := by decide +kernel
theorem dJ2_getChar_3b067_42 : decode cJ2_getChar_3b067 42 = .ok (.getstatic 59, 3) := by decide +kernel
theorem dJ2_getChar_3b067_45 : decode cJ2_getChar_3b067 45 = .ok (.ishl, 1) := by decide +kernel
theorem dJ2_getChar_3b067_46 : decode cJ2_getChar_3b067 46 = .ok (.aload_n 0, 1) := by decide +kernel
theorem dJ2_getChar_3b067_47 : decode cJ2_getChar_3b067 47 = .ok (.iload_n 1, 1) := by decide +kernel
theorem dJ2_getChar_3b067_48 : decode cJ2_getChar_3b067 48 = .ok (.baload, 1) := by decide +kernel
theorem dJ2_getChar_3b067_49 : decode cJ2_getChar_3b067 49 = .ok (.sipush 255, 3) := by decide +kernel
theorem dJ2_getChar_3b067_52 : decode cJ2_getChar_3b067 52 = .ok (.iand, 1) := by decide +kernel
theorem dJ2_getChar_3b067_53 : decode cJ2_getChar_3b067 53 = .ok (.getstatic 63, 3) := by decide +kernel
theorem dJ2_getChar_3b067_56 : decode cJ2_getChar_3b067 56 = .ok (.ishl, 1) := by decide +kernel
theorem dJ2_getChar_3b067_57 : decode cJ2_getChar_3b067 57 = .ok (.ior, 1) := by decide +kernel
theorem dJ2_getChar_3b067_58 : decode cJ2_getChar_3b067 58 = .ok (.i2c, 1) := by decide +kernel
theorem dJ2_getChar_3b067_59 : decode cJ2_getChar_3b067 59 = .ok (.ireturn, 1) := by decide +kernel
theorem dJ2_length_9d52b_0 : decode cJ2_length_9d52b 0 = .ok (.aload_n 0, 1) := by decide +kernel
theorem dJ2_length_9d52b_1 : decode cJ2_length_9d52b 1 = .ok (.arraylength, 1) := by decide +kernel
theorem dJ2_length_9d52b_2 : decode cJ2_length_9d52b 2 = .ok (.iconst 1, 1) := by decide +kernel
theorem dJ2_length_9d52b_3 : decode cJ2_length_9d52b 3 = .ok (.ishr, 1) := by decide +kernel
theorem dJ2_length_9d52b_4 : decode cJ2_length_9d52b 4 = .ok (.ireturn, 1) := by decide +kernel
set_option maxRecDepth 20000 in
theorem ggJ2_charAt_3b067_J2_checkIndex_2214a : GoodIn wsJ2_charAt_3b067 wsJ2_checkIndex_2214a := goodIn_r _ [4, 5, 6, 3, 7, 8, 9, 10, 11, 12, 13, 14, 15, 16] (by decide +kernel) (by decide +kernel)
set_option maxRecDepth 20000 in
theorem gJ2_charAt_3b067_J2_checkIndex_2214a : GoodIn wsJ2_charAt_3b067 (va_wsS RJ2 67 yJ2_checkIndex_2214a wsJ2_checkIndex_2214a) := goodIn_app (goodIn_of _ (by decide +kernel)) ggJ2_charAt_3b067_J2_checkIndex_2214a
set_option maxRecDepth 20000 in
theorem ggJ2_charAt_3b067_J2_getChar_3b067 : GoodIn wsJ2_charAt_3b067 wsJ2_getChar_3b067 := goodIn_r _ [19, 20, 21, 22, 5, 6, 3, 7] (by decide +kernel) (by decide +kernel)
set_option maxRecDepth 20000 in
theorem gJ2_charAt_3b067_J2_getChar_3b067 : GoodIn wsJ2_charAt_3b067 (va_wsS RJ2 71 yJ2_getChar_3b067 wsJ2_getChar_3b067) := goodIn_app (goodIn_of _ (by decide +kernel)) ggJ2_charAt_3b067_J2_getChar_3b067
theorem dJ2_charAt_3b067_0 : decode cJ2_charAt_3b067 0 = .ok (.iload_n 1, 1) := by decide +kernel
theorem dJ2_charAt_3b067_1 : decode cJ2_charAt_3b067 1 = .ok (.aload_n 0, 1) := by decide +kernel
theorem dJ2_charAt_3b067_2 : decode cJ2_charAt_3b067 2 = .ok (.invokestatic 67, 3) := by decide +kernel
theorem dJ2_charAt_3b067_5 : decode cJ2_charAt_3b067 5 = .ok (.aload_n 0, 1) := by decide +kernel
theorem dJ2_charAt_3b067_6 : decode cJ2_charAt_3b067 6 = .ok (.iload_n 1, 1) := by decide +kernel
theorem dJ2_charAt_3b067_7 : decode cJ2_charAt_3b067 7 = .ok (.invokestatic 71, 3) := by decide +kernel
theorem dJ2_charAt_3b067_10 : decode cJ2_charAt_3b067 10 = .ok (.ireturn, 1) := by decide +kernel
set_option maxRecDepth 20000 in
theorem ggJ2_checkIndex_2214a_J2_length_9d52b : GoodIn wsJ2_checkIndex_2214a wsJ2_length_9d52b := goodIn_r _ [4] (by decide +kernel) (by decide +kernel)
set_option maxRecDepth 20000 in
theorem gJ2_checkIndex_2214a_J2_length_9d52b : GoodIn wsJ2_checkIndex_2214a (va_wsS RJ2 48 yJ2_length_9d52b wsJ2_length_9d52b) := goodIn_app (goodIn_of _ (by decide +kernel)) ggJ2_checkIndex_2214a_J2_length_9d52b
set_option maxRecDepth 20000 in
theorem ggJ2_checkIndex_2214a_J0_checkIndex_df160 : GoodIn wsJ2_checkIndex_2214a wsJ0_checkIndex_df160 := goodIn_r _ [8, 9, 10, 11, 12, 13] (by decide +kernel) (by decide +kernel)
set_option maxRecDepth 20000 in
theorem gJ2_checkIndex_2214a_J0_checkIndex_df160 : GoodIn wsJ2_checkIndex_2214a (va_wsS RJ2 414 yJ0_checkIndex_df160 wsJ0_checkIndex_df160) := goodIn_app (goodIn_of _ (by decide +kernel)) ggJ2_checkIndex_2214a_J0_checkIndex_df160
theorem dJ2_checkIndex_2214a_0 : decode cJ2_checkIndex_2214a 0 = .ok (.iload_n 0, 1) := by decide +kernel
theorem dJ2_checkIndex_2214a_1 : decode cJ2_checkIndex_2214a 1 = .ok (.aload_n 1, 1) := by decide +kernel
theorem dJ2_checkIndex_2214a_2 : decode cJ2_checkIndex_2214a 2 = .ok (.invokestatic 48, 3) := by decide +kernel
theorem dJ2_checkIndex_2214a_5 : decode cJ2_checkIndex_2214a 5 = .ok (.invokestatic 414, 3) := by decide +kernel
theorem dJ2_checkIndex_2214a_8 : decode cJ2_checkIndex_2214a 8 = .ok (.return_, 1) := by decide +kernel
theorem dJ3_checkIndex_8e157_0 : decode cJ3_checkIndex_8e157 0 = .ok (.iload_n 0, 1) := by decide +kernel
theorem dJ3_checkIndex_8e157_1 : decode cJ3_checkIndex_8e157 1 = .ok (.ifCond .lt 8, 3) := by decide +kernel
theorem dJ3_checkIndex_8e157_4 : decode cJ3_checkIndex_8e157 4 = .ok (.iload_n 0, 1) := by decide +kernel
theorem dJ3_checkIndex_8e157_5 : decode cJ3_checkIndex_8e157 5 = .ok (.iload_n 1, 1) := by decide +kernel
theorem dJ3_checkIndex_8e157_6 : decode cJ3_checkIndex_8e157 6 = .ok (.if_icmp .lt 10, 3) := by decide +kernel
theorem dJ3_checkIndex_8e157_9 : decode cJ3_checkIndex_8e157 9 = .ok (.aload_n 2, 1) := by decide +kernel
theorem dJ3_checkIndex_8e157_10 : decode cJ3_checkIndex_8e157 10 = .ok (.iload_n 0, 1) := by decide +kernel
theorem dJ3_checkIndex_8e157_11 : decode cJ3_checkIndex_8e157 11 = .ok (.iload_n 1, 1) := by decide +kernel
theorem dJ3_checkIndex_8e157_12 : decode cJ3_checkIndex_8e157 12 = .ok (.invokestatic 95, 3) := by decide +kernel
theorem dJ3_checkIndex_8e157_15 : decode cJ3_checkIndex_8e157 15 = .ok (.athrow, 1) := by decide +kernel
theorem dJ3_checkIndex_8e157_16 : decode cJ3_checkIndex_8e157 16 = .ok (.iload_n 0, 1) := by decide +kernel
theorem dJ3_checkIndex_8e157_17 : decode cJ3_checkIndex_8e157 17 = .ok (.ireturn, 1) := by decide +kernel
end
section
/-! ===== the base: ints of the machine as Int ===== -/
def iI (z : Int) : Int32 := Int32.ofInt z
abbrev inR (z : Int) : Prop := -2147483648 ≤ z ∧ z < 2147483648
theorem iI_toInt {z : Int} (h : inR z) : (iI z).toInt = z := by
  unfold iI
  exact Int32.toInt_ofInt_of_le (by omega) (by omega)
theorem iI_lt {a b : Int} (ha : inR a) (hb : inR b) : iI a < iI b ↔ a < b := by
  rw [Int32.lt_iff_toInt_lt, iI_toInt ha, iI_toInt hb]
theorem iI_le {a b : Int} (ha : inR a) (hb : inR b) : iI a ≤ iI b ↔ a ≤ b := by
  rw [Int32.le_iff_toInt_le, iI_toInt ha, iI_toInt hb]
theorem iI_eq {a b : Int} (ha : inR a) (hb : inR b) : iI a = iI b ↔ a = b := by
  constructor
  · intro h
    have h2 := congrArg Int32.toInt h
    rwa [iI_toInt ha, iI_toInt hb] at h2
  · intro h
    rw [h]
theorem iI_add (a b : Int) : iI a + iI b = iI (a + b) := (Int32.ofInt_add a b).symm
theorem iI_sub (a b : Int) : iI a - iI b = iI (a - b) := (Int32.ofInt_sub a b).symm
theorem iI_mul (a b : Int) : iI a * iI b = iI (a * b) := (Int32.ofInt_mul a b).symm
theorem iI_0 : (0 : Int32) = iI 0 := by decide
theorem iI_1 : (1 : Int32) = iI 1 := by decide
theorem iI_nat (n : Nat) : iI (n : Int) = nI n := Int32.ofInt_eq_ofNat
theorem iI_self (x : Int32) : x = iI x.toInt := (Int32.ofInt_toInt x).symm
theorem inR_toInt (x : Int32) : inR x.toInt := ⟨by have := Int32.le_toInt x; omega, by have := Int32.toInt_lt x; omega⟩
theorem iI_clamp {k : Nat} (h : k < 2147483648) : (iI (k : Int)).toNatClampNeg = k := by
  rw [iI_nat]
  exact nI_clamp (by omega)
theorem iI_in {k n : Nat} (h : k < n) (hn : n < 2147483648) : vp_in (iI (k : Int)) n := by
  rw [iI_nat]
  exact vp_in_nI h (by omega)
theorem iI_div {a d : Nat} (ha : a < 2147483648) (h0 : 0 < d) (hd : d < 2147483648) : iI (a : Int) / iI (d : Int) = iI ((a / d : Nat) : Int) := by
  rw [iI_nat, iI_nat, iI_nat]
  exact pk_div (by omega) h0 (by omega)
/-! ===== the base: worlds ===== -/
abbrev XT : Type := va_G × (Nat → ClassId) × (Nat → Nat) × (Nat → Nat)
def zA (g : Nat → Int) : Nat → Int32 := fun k => iI (g k)
def uI (g : Nat → Int) (k : Nat) (z : Int) : Nat → Int := fun j => if j = k then z else g j
theorem uI_s (g : Nat → Int) (k : Nat) (z : Int) : uI g k z k = z := if_pos rfl
theorem uI_n {g : Nat → Int} {k : Nat} {z : Int} {j : Nat} (h : j ≠ k) : uI g k z j = g j := if_neg h
theorem zA_upd (g : Nat → Int) (k : Nat) (z : Int) : upd (zA g) k (iI z) = zA (uI g k z) := by
  funext j
  by_cases h : j = k
  · subst h
    rw [pk_us]
    show iI z = iI (uI g j z j)
    rw [uI_s]
  · rw [pk_un h]
    show iI (g j) = iI (uI g k z j)
    rw [uI_n h]
abbrev ia (X : XT) (q n : Nat) (g : Nat → Int) : Nat × va_E := (q, .inl (X.2.1 0, n, .inl (zA g)))
abbrev ca (X : XT) (q n : Nat) (g : Nat → Int) : Nat × va_E := (q, .inl (X.2.1 1, n, .inl (zA g)))
abbrev ppa (X : XT) (q n : Nat) (r : Nat → Option Nat) : Nat × va_E := (q, .inl (X.2.1 2, n, .inr (.inr (.inr (.inr r)))))
abbrev rra (X : XT) (q n : Nat) (r : Nat → Option Nat) : Nat × va_E := (q, .inl (X.2.1 3, n, .inr (.inr (.inr (.inr r)))))
abbrev tyL (X : XT) : List (ClassId × FieldType) := [(X.2.1 0, .int), (X.2.1 1, .char), (X.2.1 2, .object "RoleDoublingPlanner$Play"), (X.2.1 3, .array .int)]
def Hold (X : XT) (A : Nat → Prop) (ws : va_W) (H : Heap) : Prop := va_P X.1 vwCl ws H ∧ va_D A ws
/-- what is free of a method's cells: its own and all that are made -/
theorem va_P_iff {D : va_G} {cl : List vw_C} {ws : va_W} {H : Heap} : va_P D cl ws H ↔ ∀ q ∈ ws, va_at D cl q H := by
  constructor
  · intro h q hq
    obtain ⟨k, hk⟩ := List.getElem?_of_mem hq
    exact h k q hk
  · intro h k q hk
    exact h q (List.mem_of_getElem? hk)
theorem va_D_iff {A : Nat → Prop} {ws : va_W} : va_D A ws ↔ (ws.map Prod.fst).Nodup ∧ ∀ q ∈ ws, A q.1 := by
  constructor
  · intro h
    refine ⟨?_, fun q hq => ?_⟩
    · refine List.pairwise_iff_getElem.mpr (fun i j hi hj hij e => ?_)
      rw [List.length_map] at hi hj
      have e2 : ws[i].1 = ws[j].1 := by simpa using e
      have := h.1 i j ws[i] ws[j] (List.getElem?_eq_getElem hi) (List.getElem?_eq_getElem hj) e2
      omega
    · obtain ⟨k, hk⟩ := List.getElem?_of_mem hq
      exact h.2 k q hk
  · intro h
    refine ⟨fun i j p q hi hj hpq => ?_, fun k q hk => h.2 q (List.mem_of_getElem? hk)⟩
    have hn := List.pairwise_iff_getElem.mp h.1
    obtain ⟨li, ei⟩ := List.getElem?_eq_some_iff.mp hi
    obtain ⟨lj, ej⟩ := List.getElem?_eq_some_iff.mp hj
    rcases Nat.lt_trichotomy i j with z | z | z
    · have hne := hn i j (by rw [List.length_map]; exact li) (by rw [List.length_map]; exact lj) z
      rw [List.getElem_map, List.getElem_map, ei, ej] at hne
      exact absurd hpq hne
    · exact z
    · have hne := hn j i (by rw [List.length_map]; exact lj) (by rw [List.length_map]; exact li) z
      rw [List.getElem_map, List.getElem_map, ei, ej] at hne
      exact absurd hpq.symm hne
theorem Hold.perm {X : XT} {A : Nat → Prop} {w w' : va_W} {H : Heap} (h : Hold X A w H) (hp : w.Perm w') : Hold X A w' H := by
  obtain ⟨h1, h2⟩ := h
  rw [va_P_iff] at h1
  rw [va_D_iff] at h2
  refine ⟨va_P_iff.mpr (fun q hq => h1 q (hp.mem_iff.mpr hq)), va_D_iff.mpr ⟨((hp.map Prod.fst).nodup_iff).mp h2.1, fun q hq => h2.2 q (hp.mem_iff.mpr hq)⟩⟩
theorem range_pick {α : Type} : ∀ (ss : List α), (List.range ss.length).filterMap (fun i => ss[i]?) = ss
  | [] => rfl
  | a :: t => by
    rw [List.length_cons, List.range_succ_eq_map, List.filterMap_cons]
    show a :: _ = a :: t
    rw [List.filterMap_map]
    exact congrArg (fun x => a :: x) (range_pick t)
/-- sections picked by their places, all of them, in another order -/
theorem pick_perm {α : Type} {ss ss' : List α} (is : List Nat) (hs : is.filterMap (fun i => ss[i]?) = ss') (hn : is.Perm (List.range ss.length)) : ss.Perm ss' := by
  have h1 : (is.filterMap (fun i => ss[i]?)).Perm ((List.range ss.length).filterMap (fun i => ss[i]?)) := hn.filterMap _
  rw [range_pick, hs] at h1
  exact h1.symm
theorem Hold.pick {X : XT} {A : Nat → Prop} {ss ss' : List va_W} {H : Heap} (h : Hold X A ss.flatten H) (is : List Nat) (hs : is.filterMap (fun i => ss[i]?) = ss') (N0 : Nat) (hN0 : ss.length = N0) (hn : is.Perm (List.range N0)) : Hold X A ss'.flatten H := by
  subst hN0
  exact h.perm (pick_perm is hs hn).flatten
theorem va_A_iff {ws : va_W} {sz q : Nat} : va_A ws sz q ↔ (∃ e, (q, e) ∈ ws) ∨ sz ≤ q := by
  unfold va_A
  constructor
  · rintro (⟨k, e, h⟩ | h)
    · exact Or.inl ⟨e, List.mem_of_getElem? h⟩
    · exact Or.inr h
  · rintro (⟨e, h⟩ | h)
    · obtain ⟨k, hk⟩ := List.getElem?_of_mem h
      exact Or.inl ⟨k, e, hk⟩
    · exact Or.inr h
theorem Hold.frame {X : XT} {A : Nat → Prop} {wc wr w1 : va_W} {H H1 : Heap} (h : Hold X A (wc ++ wr) H) (hk : ∀ q : Nat, q < H.size → ¬ va_A wc H.size q → H1[q]? = H[q]?) (hF : ∀ q, va_A wc H.size q → A q) (h1 : Hold X (va_A wc H.size) w1 H1) : Hold X A (w1 ++ wr) H1 := by
  obtain ⟨hP, hD⟩ := h
  rw [va_P_iff] at hP
  rw [va_D_iff] at hD
  obtain ⟨hP1, hD1⟩ := h1
  rw [va_P_iff] at hP1
  rw [va_D_iff] at hD1
  have apart : ∀ q ∈ wr, q.1 < H.size ∧ ¬ va_A wc H.size q.1 := by
    intro q hq
    have hl := (hP q (List.mem_append_right _ hq)).lt
    refine ⟨hl, fun z => ?_⟩
    rw [va_A_iff] at z
    rcases z with ⟨e, he⟩ | z
    · have hn := hD.1
      rw [List.map_append, List.nodup_append] at hn
      exact hn.2.2 q.1 (List.mem_map.mpr ⟨(q.1, e), he, rfl⟩) q.1 (List.mem_map.mpr ⟨q, hq, rfl⟩) rfl
    · omega
  refine ⟨va_P_iff.mpr (fun q hq => ?_), va_D_iff.mpr ⟨?_, fun q hq => ?_⟩⟩
  · rcases List.mem_append.mp hq with h | h
    · exact hP1 q h
    · exact (hP q (List.mem_append_right _ h)).kept (hk q.1 (apart q h).1 (apart q h).2)
  · rw [List.map_append, List.nodup_append]
    have hn := hD.1
    rw [List.map_append, List.nodup_append] at hn
    refine ⟨hD1.1, hn.2.1, fun a ha b hb e => ?_⟩
    obtain ⟨x, hx, rfl⟩ := List.mem_map.mp ha
    obtain ⟨y, hy, rfl⟩ := List.mem_map.mp hb
    exact (apart y hy).2 (by rw [← e]; exact hD1.2 x hx)
  · rcases List.mem_append.mp hq with h | h
    · exact hF _ (hD1.2 q h)
    · exact hD.2 q (List.mem_append_right _ h)
theorem Hold.free {X : XT} {A : Nat → Prop} {wc wr : va_W} {H0 H : Heap} {locs : List Loc} (h : Hold X A (wc ++ wr) H) (hS : va_S A H0 H locs) (hA : ∀ q, H0.size ≤ q → A q) : ∀ q, va_A wc H.size q → A q := by
  intro q z
  rw [va_A_iff] at z
  rcases z with ⟨e, he⟩ | z
  · exact (va_D_iff.mp h.2).2 (q, e) (List.mem_append_left _ he)
  · exact hA q (Nat.le_trans hS.1 z)
theorem Hold.true {X : XT} {A : Nat → Prop} {w : va_W} {H : Heap} (h : Hold X A w H) : Hold X (fun _ => True) w H := ⟨h.1, h.2.weaken (fun _ _ _ _ => trivial)⟩
theorem Hold.left {X : XT} {A : Nat → Prop} {w w2 : va_W} {H : Heap} (h : Hold X A (w ++ w2) H) : Hold X A w H := by
  obtain ⟨hP, hD⟩ := h
  rw [va_P_iff] at hP
  rw [va_D_iff, List.map_append, List.nodup_append] at hD
  exact ⟨va_P_iff.mpr (fun q hq => hP q (List.mem_append_left _ hq)), va_D_iff.mpr ⟨hD.1.1, fun q hq => hD.2 q (List.mem_append_left _ hq)⟩⟩
theorem Hold.self {X : XT} {A : Nat → Prop} {w : va_W} {H : Heap} {sz : Nat} (h : Hold X A w H) : Hold X (va_A w sz) w H := ⟨h.1, h.2.self⟩
/-! ===== what holds around every call: classes, links, texts ===== -/
def lenJ : List Nat := [27, 67, 46, 45, 47, 5, 4, 5, 3, 4, 5]
def bytJ : List (List Int32) := [[115, 99, 101, 110, 101, 32, 51, 48, 59, 115, 99, 101, 110, 101, 32, 50, 48, 59, 115, 99, 101, 110, 101, 32, 52, 48, 59], [114, 111, 108, 101, 32, 108, 111, 119, 32, 52, 32, 51, 59, 114, 111, 108, 101, 32, 108, 111, 119, 32, 50, 32, 54, 59, 114, 111, 108, 101, 32, 104, 105, 103, 104, 32, 53, 32, 53, 59, 114, 111, 108, 101, 32, 108, 111, 119, 32, 48, 32, 50, 59, 114, 111, 108, 101, 32, 104, 105, 103, 104, 32, 51, 32, 49, 59], [101, 110, 116, 101, 114, 32, 48, 32, 48, 32, 48, 32, 49, 50, 59, 101, 110, 116, 101, 114, 32, 49, 32, 48, 32, 49, 56, 32, 51, 48, 59, 101, 110, 116, 101, 114, 32, 50, 32, 48, 32, 53, 32, 50, 53, 59], [101, 110, 116, 101, 114, 32, 51, 32, 49, 32, 48, 32, 57, 59, 101, 110, 116, 101, 114, 32, 48, 32, 49, 32, 49, 48, 32, 50, 48, 59, 101, 110, 116, 101, 114, 32, 52, 32, 49, 32, 51, 32, 50, 48, 59], [101, 110, 116, 101, 114, 32, 49, 32, 50, 32, 50, 32, 49, 53, 59, 101, 110, 116, 101, 114, 32, 51, 32, 50, 32, 50, 48, 32, 52, 48, 59, 101, 110, 116, 101, 114, 32, 50, 32, 50, 32, 51, 48, 32, 52, 48, 59], [115, 99, 101, 110, 101], [114, 111, 108, 101], [101, 110, 116, 101, 114], [108, 111, 119], [104, 105, 103, 104], [99, 104, 105, 108, 100]]
def NW (U : State) : Prop := va_Nw (.methodLinkNest "RoleDoublingPlanner" 11 yX3_init "RoleDoublingPlanner") U ∧ va_Nw (.methodLinkNest "RoleDoublingPlanner" 18 yX2_init "RoleDoublingPlanner") U ∧ va_Nw (.methodLinkNest "RoleDoublingPlanner" 37 yX0_init "RoleDoublingPlanner") U ∧ va_Nw (.methodLinkNest "RoleDoublingPlanner$History" 17 yX2_init "RoleDoublingPlanner") U ∧ va_Nw (.methodLinkNest "RoleDoublingPlanner$Play" 62 yX5_isCostumeTime "RoleDoublingPlanner") U ∧ va_Nw (.methodLinkNest "RoleDoublingPlanner$Slacks" 44 yX5_lesserSlack "RoleDoublingPlanner") U
theorem NW.warm {s U : State} (hW : s.WarmedH U.vm) (h : NW s) : NW U := ⟨h.1.warmM hW, h.2.1.warmM hW, h.2.2.1.warmM hW, h.2.2.2.1.warmM hW, h.2.2.2.2.1.warmM hW, h.2.2.2.2.2.warmM hW⟩
theorem NW.same {u U : State} (hv : u.vm = U.vm) (h : NW u) : NW U := ⟨h.1.same rfl hv, h.2.1.same rfl hv, h.2.2.1.same rfl hv, h.2.2.2.1.same rfl hv, h.2.2.2.2.1.same rfl hv, h.2.2.2.2.2.same rfl hv⟩
def VR (ad : Nat → Nat) (U : State) : Prop := vk_R "RoleDoublingPlanner" 49 "scene 30;scene 20;scene 40;" (ad 0) U ∧ vk_R "RoleDoublingPlanner" 55 "role low 4 3;role low 2 6;role high 5 5;role low 0 2;role high 3 1;" (ad 1) U ∧ vk_R "RoleDoublingPlanner" 57 "enter 0 0 0 12;enter 1 0 18 30;enter 2 0 5 25;" (ad 2) U ∧ vk_R "RoleDoublingPlanner" 59 "enter 3 1 0 9;enter 0 1 10 20;enter 4 1 3 20;" (ad 3) U ∧ vk_R "RoleDoublingPlanner" 61 "enter 1 2 2 15;enter 3 2 20 40;enter 2 2 30 40;" (ad 4) U ∧ vk_R "RoleDoublingPlanner$PlayText" 57 "scene" (ad 5) U ∧ vk_R "RoleDoublingPlanner$PlayText" 66 "role" (ad 6) U ∧ vk_R "RoleDoublingPlanner$PlayText" 71 "enter" (ad 7) U ∧ vk_R "RoleDoublingPlanner$PlayText" 105 "low" (ad 8) U ∧ vk_R "RoleDoublingPlanner$PlayText" 107 "high" (ad 9) U ∧ vk_R "RoleDoublingPlanner$PlayText" 109 "child" (ad 10) U
theorem VR.warm {ad : Nat → Nat} {s U : State} (hW : s.WarmedH U.vm) (h : VR ad s) : VR ad U := by
  obtain ⟨h0, h1, h2, h3, h4, h5, h6, h7, h8, h9, h10⟩ := h
  exact ⟨h0.warm hW, h1.warm hW, h2.warm hW, h3.warm hW, h4.warm hW, h5.warm hW, h6.warm hW, h7.warm hW, h8.warm hW, h9.warm hW, h10.warm hW⟩
theorem VR.same {ad : Nat → Nat} {u U : State} (hv : U.vm = u.vm) (h : VR ad u) : VR ad U := by
  obtain ⟨h0, h1, h2, h3, h4, h5, h6, h7, h8, h9, h10⟩ := h
  exact ⟨h0.same hv, h1.same hv, h2.same hv, h3.same hv, h4.same hv, h5.same hv, h6.same hv, h7.same hv, h8.same hv, h9.same hv, h10.same hv⟩
def AM (X : XT) (A : Nat → Prop) (U : State) : Prop := va_K X.1 vwCl (tyL X) U ∧ NW U ∧ vk_S 11 lenJ bytJ X.2.2.1 X.2.2.2 A U U.heap ∧ VR X.2.2.1 U ∧ va_Z "java/lang/String" "COMPACT_STRINGS" "Z" (.int 1) A U U.heap ∧ va_Zq "jdk/internal/util/Preconditions" "SIOOBE_FORMATTER" "Ljava/util/function/BiFunction;" A U U.heap
theorem AM.at {X : XT} {A B : Nat → Prop} {s U : State} {H : Heap} {locs : List Loc} (h : AM X A s) (hS : va_S A s.heap H locs) (hU : U.heap = H) (hW : s.WarmedH U.vm) (hF : ∀ q, B q → A q) : AM X B U := by
  obtain ⟨h1, h2, h3, h4, h5, h6⟩ := h
  subst hU
  exact ⟨va_K.moved hW.alike h1, h2.warm hW, ((h3.kept hS.2.1).moved hW.alike).narrow hF, h4.warm hW, ((h5.kept hS.2.1).moved hW.alike).narrow hF, ((h6.kept hS.2.1).moved hW.alike).narrow hF⟩
theorem AM.blind {X : XT} {A : Nat → Prop} {U : State} {g : JFrame} {mk : MethodId} {a : Array Value} (h : AM X A U) : AM X A (U.calling g mk a) := by
  obtain ⟨h1, h2, h3, h4, h5, h6⟩ := h
  exact ⟨va_K.moved (u := U) (U := U.calling g mk a) (Vm.Alike.refl U.vm) h1, h2.same rfl, vk_S.moved (u := U) (U := U.calling g mk a) (Vm.Alike.refl U.vm) h3, h4.same rfl, va_Z.moved (u := U) (U := U.calling g mk a) (Vm.Alike.refl U.vm) h5, va_Zq.moved (u := U) (U := U.calling g mk a) (Vm.Alike.refl U.vm) h6⟩
/-! ===== contracts ===== -/
def Pre (X : XT) (w : List va_W) (sz : Nat) : State → Prop := fun U => U.heap.size = sz ∧ Hold X (fun _ => True) w.flatten U.heap ∧ AM X (va_A w.flatten sz) U
theorem Pre.blind {X : XT} {av : List Value} {w : List va_W} {sz : Nat} : FrameBlind (va_Pc av (Pre X w sz)) := fun _ _ _ _ h => ⟨h.1, h.2.1, h.2.2.1, h.2.2.2.blind⟩
def Ci {S : Type} (l : Launch) (y : MethodName) (ws : List Cond) (rm : Room) (X : XT) (av : List Value) (w : List va_W) (post : Int → S → Prop) (w' : S → List va_W) : Prop :=
  ∀ sz : Nat, Met l y ws rm (va_Pc av (Pre X w sz)) (va_Qi (fun (r : Int32) (u : S) => ∃ z : Int, r = iI z ∧ post z u) (fun (u : S) (t : State) => Hold X (va_A w.flatten sz) (w' u).flatten t.heap) (va_A w.flatten sz)) rm.cells rm.slots (va_A w.flatten sz)
def Cv {S : Type} (l : Launch) (y : MethodName) (ws : List Cond) (rm : Room) (X : XT) (av : List Value) (w : List va_W) (post : S → Prop) (w' : S → List va_W) : Prop :=
  ∀ sz : Nat, Met l y ws rm (va_Pc av (Pre X w sz)) (va_Qv (fun (u : S) => post u) (fun (u : S) (t : State) => Hold X (va_A w.flatten sz) (w' u).flatten t.heap) (va_A w.flatten sz)) rm.cells rm.slots (va_A w.flatten sz)
set_option maxHeartbeats 1000000 in
theorem Ci.ofW {S : Type} {l : Launch} {y : MethodName} {ws ws' : List Cond} {rm : Room} {X : XT} {av : List Value} {w : List va_W} {post : Int → S → Prop} {w' : S → List va_W} {cc : ByteArray} {maxL : Nat} {ret : FieldType} (hy : plainName y.cls = true) (hw : ws = Cond.code y cc maxL (some ret) :: ws') (hn : (lg_sl av).length ≤ maxL)
    (body : ∀ (p : Program) (e : Env) (s : State) (m : MethodId) (below : List Frame) (meth : Method) (c : Code) (A : Nat → Prop) (Q : State → Prop), CallFix p m c cc maxL s av.toArray ws y.cls → (∀ q, s.heap.size ≤ q → A q) → AM X A s → Hold X A w.flatten s.heap → va_S A s.heap s.heap [] →
      (∀ (pc : Nat) (ls : Array Slot) (H : Heap) (locs : List Loc) (z : Int) (u : S), decode cc pc = .ok (.ireturn, 1) → narrow ret (.int (iI z)) = .int (iI z) → post z u → Hold X A (w' u).flatten H → va_S A s.heap H locs → W p l e rm s m av.toArray below meth c H locs rm.cells rm.slots Q (F0 m pc ls [.int (iI z)])) →
      ∀ ls : Array Slot, lv_has ls maxL (lv_args 0 av) → W p l e rm s m av.toArray below meth c s.heap [] 0 0 Q (F0 m 0 ls [])) : Ci l y ws rm X av w post w' := by
  intro sz
  refine Met.ofW (cc := cc) (maxL := maxL) (ret := some ret) hy hw ?_
  intro p e s m args below meth c s₁ B hml hv
  obtain ⟨rfl, hsz, hH, hAM⟩ := hv
  have hts := atoms_spec (ws := ws) B.pre
  have hown : s.vm.findClass y.cls = some m.cls := findClass_of_methodNamed B.named
  have hlocks := B.notSynchronized
  have hr := B.returns
  subst hsz
  have hl := lv_entry av (n := maxL) hn
  rw [lg_entry_eq]
  refine body p e s m below meth c (va_A w.flatten s.heap.size) _ ⟨B.exec, B.bytes, hml, hown, hts⟩ (fun q h => Or.inr h) hAM hH.self va_S.rf ?_ _ hl
  intro pc ls H locs z u hdg hnar hp hH2 hS
  exact W.zret (v := iI z) B.exec B.bytes hr hnar (fun t ht hW => ⟨⟨iI z, u, rfl, ⟨z, rfl, hp⟩, by show Hold X _ (w' u).flatten t.heap; rw [ht]; exact hH2⟩, hS.F ht⟩) hS.2.2 hdg
set_option maxHeartbeats 1000000 in
theorem Cv.ofW {S : Type} {l : Launch} {y : MethodName} {ws ws' : List Cond} {rm : Room} {X : XT} {av : List Value} {w : List va_W} {post : S → Prop} {w' : S → List va_W} {cc : ByteArray} {maxL : Nat} (hy : plainName y.cls = true) (hw : ws = Cond.code y cc maxL none :: ws') (hn : (lg_sl av).length ≤ maxL)
    (body : ∀ (p : Program) (e : Env) (s : State) (m : MethodId) (below : List Frame) (meth : Method) (c : Code) (A : Nat → Prop) (Q : State → Prop), CallFix p m c cc maxL s av.toArray ws y.cls → (∀ q, s.heap.size ≤ q → A q) → AM X A s → Hold X A w.flatten s.heap → va_S A s.heap s.heap [] → meth.name = y.name →
      (∀ (pc : Nat) (ls : Array Slot) (H : Heap) (locs : List Loc) (u : S), decode cc pc = .ok (.return_, 1) → post u → Hold X A (w' u).flatten H → va_S A s.heap H locs → W p l e rm s m av.toArray below meth c H locs rm.cells rm.slots Q (F0 m pc ls [])) →
      ∀ ls : Array Slot, lv_has ls maxL (lv_args 0 av) → W p l e rm s m av.toArray below meth c s.heap [] 0 0 Q (F0 m 0 ls [])) : Cv l y ws rm X av w post w' := by
  intro sz
  refine Met.ofW (cc := cc) (maxL := maxL) (ret := none) hy hw ?_
  intro p e s m args below meth c s₁ B hml hv
  obtain ⟨rfl, hsz, hH, hAM⟩ := hv
  have hts := atoms_spec (ws := ws) B.pre
  have hown : s.vm.findClass y.cls = some m.cls := findClass_of_methodNamed B.named
  have hlocks := B.notSynchronized
  have hr := B.returns
  subst hsz
  have hl := lv_entry av (n := maxL) hn
  rw [lg_entry_eq]
  refine body p e s m below meth c (va_A w.flatten s.heap.size) _ ⟨B.exec, B.bytes, hml, hown, hts⟩ (fun q h => Or.inr h) hAM hH.self va_S.rf (name_of_methodNamed B.named B.method).1 ?_ _ hl
  intro pc ls H locs u hdg hp hH2 hS
  exact W.vret B.exec B.bytes hr (fun t ht hW => ⟨⟨u, rfl, hp, by show Hold X _ (w' u).flatten t.heap; rw [ht]; exact hH2⟩, hS.F ht⟩) hS.2.2 hdg
/-! ===== rows: an instruction each, over Int ===== -/
section ZV
variable {p : Program} {l : Launch} {e : Env} {R : Room} {s : State} {m : MethodId} {args : Array Value} {below : List Frame} {meth : Method} {c : Code} {H : Heap} {locs : List Loc} {cells slots : Nat} {Q : State → Prop}
variable {cc : ByteArray} {pc nL : Nat} {ls : Array Slot} {rest : List Value} {X : XT} {A : Nat → Prop} {Ts : List Cond} {own : String}
theorem zv_iadd {a b z : Int} (S : CallFix p m c cc nL s args Ts own) (hdg : decode cc pc = .ok (.iadd, 1)) (hz : a + b = z) (k : W p l e R s m args below meth c H locs cells slots Q (F0 m (pc + 1) ls (.int (iI z) :: rest))) : W p l e R s m args below meth c H locs cells slots Q (F0 m pc ls (.int (iI b) :: .int (iI a) :: rest)) := by
  subst hz
  refine lv_iadd S.1 S.2.1 hdg ?_
  rw [iI_add]
  exact k
theorem zv_isub {a b z : Int} (S : CallFix p m c cc nL s args Ts own) (hdg : decode cc pc = .ok (.isub, 1)) (hz : a - b = z) (k : W p l e R s m args below meth c H locs cells slots Q (F0 m (pc + 1) ls (.int (iI z) :: rest))) : W p l e R s m args below meth c H locs cells slots Q (F0 m pc ls (.int (iI b) :: .int (iI a) :: rest)) := by
  subst hz
  refine lv_isub S.1 S.2.1 hdg ?_
  rw [iI_sub]
  exact k
theorem zv_imul {a b z : Int} (S : CallFix p m c cc nL s args Ts own) (hdg : decode cc pc = .ok (.imul, 1)) (hz : a * b = z) (k : W p l e R s m args below meth c H locs cells slots Q (F0 m (pc + 1) ls (.int (iI z) :: rest))) : W p l e R s m args below meth c H locs cells slots Q (F0 m pc ls (.int (iI b) :: .int (iI a) :: rest)) := by
  subst hz
  refine lv_imul S.1 S.2.1 hdg ?_
  rw [iI_mul]
  exact k
theorem zv_ior {a b z : Int} (S : CallFix p m c cc nL s args Ts own) (hdg : decode cc pc = .ok (.ior, 1)) (hz : iI a ||| iI b = iI z) (k : W p l e R s m args below meth c H locs cells slots Q (F0 m (pc + 1) ls (.int (iI z) :: rest))) : W p l e R s m args below meth c H locs cells slots Q (F0 m pc ls (.int (iI b) :: .int (iI a) :: rest)) := by
  refine lv_ior S.1 S.2.1 hdg ?_
  rw [hz]
  exact k
theorem zv_iand {a b z : Int} (S : CallFix p m c cc nL s args Ts own) (hdg : decode cc pc = .ok (.iand, 1)) (hz : iI a &&& iI b = iI z) (k : W p l e R s m args below meth c H locs cells slots Q (F0 m (pc + 1) ls (.int (iI z) :: rest))) : W p l e R s m args below meth c H locs cells slots Q (F0 m pc ls (.int (iI b) :: .int (iI a) :: rest)) := by
  refine lv_iand S.1 S.2.1 hdg ?_
  rw [hz]
  exact k
theorem zv_ixor {a b z : Int} (S : CallFix p m c cc nL s args Ts own) (hdg : decode cc pc = .ok (.ixor, 1)) (hz : iI a ^^^ iI b = iI z) (k : W p l e R s m args below meth c H locs cells slots Q (F0 m (pc + 1) ls (.int (iI z) :: rest))) : W p l e R s m args below meth c H locs cells slots Q (F0 m pc ls (.int (iI b) :: .int (iI a) :: rest)) := by
  refine lv_ixor S.1 S.2.1 hdg ?_
  rw [hz]
  exact k
theorem zv_ishl {a b z : Int} (S : CallFix p m c cc nL s args Ts own) (hdg : decode cc pc = .ok (.ishl, 1)) (hz : iI a <<< (iI b &&& 31) = iI z) (k : W p l e R s m args below meth c H locs cells slots Q (F0 m (pc + 1) ls (.int (iI z) :: rest))) : W p l e R s m args below meth c H locs cells slots Q (F0 m pc ls (.int (iI b) :: .int (iI a) :: rest)) := by
  refine lv_ishl S.1 S.2.1 hdg ?_
  rw [hz]
  exact k
theorem zv_ishr {a b z : Int} (S : CallFix p m c cc nL s args Ts own) (hdg : decode cc pc = .ok (.ishr, 1)) (hz : iI a >>> (iI b &&& 31) = iI z) (k : W p l e R s m args below meth c H locs cells slots Q (F0 m (pc + 1) ls (.int (iI z) :: rest))) : W p l e R s m args below meth c H locs cells slots Q (F0 m pc ls (.int (iI b) :: .int (iI a) :: rest)) := by
  refine lv_ishr S.1 S.2.1 hdg ?_
  rw [hz]
  exact k
theorem zv_idiv {a b z : Int} (S : CallFix p m c cc nL s args Ts own) (hdg : decode cc pc = .ok (.idiv, 1)) (h0 : ¬ iI b = 0) (hz : iI a / iI b = iI z) (k : W p l e R s m args below meth c H locs cells slots Q (F0 m (pc + 1) ls (.int (iI z) :: rest))) : W p l e R s m args below meth c H locs cells slots Q (F0 m pc ls (.int (iI b) :: .int (iI a) :: rest)) := by
  refine lv_idiv S.1 S.2.1 hdg h0 ?_
  rw [hz]
  exact k
theorem zv_iinc {i k : Nat} {n a z : Int} {lv lv' : List (Nat × Value)} (S : CallFix p m c cc nL s args Ts own) (hdg : decode cc pc = .ok (.iinc i n, 3)) (h : lv_has ls nL lv) (hk : lv[k]? = some (i, .int (iI a))) (hz : a + n = z) (hn : i < nL) (hl : (i, Value.int (iI z)) :: lv.filter (fun q => !(q.1 == i) && !(q.1 + 1 == i && q.2.category == 2)) = lv')
    (kk : ∀ ls' : Array Slot, lv_has ls' nL lv' → W p l e R s m args below meth c H locs cells slots Q (F0 m (pc + 3) ls' rest)) : W p l e R s m args below meth c H locs cells slots Q (F0 m pc ls rest) :=
  lv_iinc (v := iI z) S.1 S.2.1 hdg h hk (by subst hz; exact iI_add a n) hn hl kk
theorem zv_icmp_eq {a b : Int} {off : Int} {tgt : Nat} (S : CallFix p m c cc nL s args Ts own) (hdg : decode cc pc = .ok (.if_icmp .eq off, 3)) (ht : (pc : Int) + off = (tgt : Int)) (ha : inR a) (hb : inR b) (kt : a = b → W p l e R s m args below meth c H locs cells slots Q (F0 m tgt ls rest)) (kf : ¬ a = b → W p l e R s m args below meth c H locs cells slots Q (F0 m (pc + 3) ls rest)) : W p l e R s m args below meth c H locs cells slots Q (F0 m pc ls (.int (iI b) :: .int (iI a) :: rest)) :=
  lv_icmp_eq S.1 S.2.1 hdg ht (fun h => kt ((iI_eq ha hb).mp h)) (fun h => kf ((not_congr (iI_eq ha hb)).mp h))
theorem zv_if_eq {a : Int} {off : Int} {tgt : Nat} (S : CallFix p m c cc nL s args Ts own) (hdg : decode cc pc = .ok (.ifCond .eq off, 3)) (ht : (pc : Int) + off = (tgt : Int)) (ha : inR a) (kt : a = 0 → W p l e R s m args below meth c H locs cells slots Q (F0 m tgt ls rest)) (kf : ¬ a = 0 → W p l e R s m args below meth c H locs cells slots Q (F0 m (pc + 3) ls rest)) : W p l e R s m args below meth c H locs cells slots Q (F0 m pc ls (.int (iI a) :: rest)) :=
  lv_if_eq S.1 S.2.1 hdg ht (fun h => kt ((iI_eq ha (by decide : inR 0)).mp (by rw [← iI_0]; exact h))) (fun h => kf ((not_congr (iI_eq ha (by decide : inR 0))).mp (by rw [← iI_0]; exact h)))
theorem zv_icmp_ne {a b : Int} {off : Int} {tgt : Nat} (S : CallFix p m c cc nL s args Ts own) (hdg : decode cc pc = .ok (.if_icmp .ne off, 3)) (ht : (pc : Int) + off = (tgt : Int)) (ha : inR a) (hb : inR b) (kt : ¬ a = b → W p l e R s m args below meth c H locs cells slots Q (F0 m tgt ls rest)) (kf : a = b → W p l e R s m args below meth c H locs cells slots Q (F0 m (pc + 3) ls rest)) : W p l e R s m args below meth c H locs cells slots Q (F0 m pc ls (.int (iI b) :: .int (iI a) :: rest)) :=
  lv_icmp_ne S.1 S.2.1 hdg ht (fun h => kt ((not_congr (iI_eq ha hb)).mp h)) (fun h => kf ((iI_eq ha hb).mp h))
theorem zv_if_ne {a : Int} {off : Int} {tgt : Nat} (S : CallFix p m c cc nL s args Ts own) (hdg : decode cc pc = .ok (.ifCond .ne off, 3)) (ht : (pc : Int) + off = (tgt : Int)) (ha : inR a) (kt : ¬ a = 0 → W p l e R s m args below meth c H locs cells slots Q (F0 m tgt ls rest)) (kf : a = 0 → W p l e R s m args below meth c H locs cells slots Q (F0 m (pc + 3) ls rest)) : W p l e R s m args below meth c H locs cells slots Q (F0 m pc ls (.int (iI a) :: rest)) :=
  lv_if_ne S.1 S.2.1 hdg ht (fun h => kt ((not_congr (iI_eq ha (by decide : inR 0))).mp (by rw [← iI_0]; exact h))) (fun h => kf ((iI_eq ha (by decide : inR 0)).mp (by rw [← iI_0]; exact h)))
theorem zv_icmp_lt {a b : Int} {off : Int} {tgt : Nat} (S : CallFix p m c cc nL s args Ts own) (hdg : decode cc pc = .ok (.if_icmp .lt off, 3)) (ht : (pc : Int) + off = (tgt : Int)) (ha : inR a) (hb : inR b) (kt : a < b → W p l e R s m args below meth c H locs cells slots Q (F0 m tgt ls rest)) (kf : ¬ a < b → W p l e R s m args below meth c H locs cells slots Q (F0 m (pc + 3) ls rest)) : W p l e R s m args below meth c H locs cells slots Q (F0 m pc ls (.int (iI b) :: .int (iI a) :: rest)) :=
  lv_icmp_lt S.1 S.2.1 hdg ht (fun h => kt ((iI_lt ha hb).mp h)) (fun h => kf ((not_congr (iI_lt ha hb)).mp h))
theorem zv_if_lt {a : Int} {off : Int} {tgt : Nat} (S : CallFix p m c cc nL s args Ts own) (hdg : decode cc pc = .ok (.ifCond .lt off, 3)) (ht : (pc : Int) + off = (tgt : Int)) (ha : inR a) (kt : a < 0 → W p l e R s m args below meth c H locs cells slots Q (F0 m tgt ls rest)) (kf : ¬ a < 0 → W p l e R s m args below meth c H locs cells slots Q (F0 m (pc + 3) ls rest)) : W p l e R s m args below meth c H locs cells slots Q (F0 m pc ls (.int (iI a) :: rest)) :=
  lv_if_lt S.1 S.2.1 hdg ht (fun h => kt ((iI_lt ha (by decide : inR 0)).mp (by rw [← iI_0]; exact h))) (fun h => kf ((not_congr (iI_lt ha (by decide : inR 0))).mp (by rw [← iI_0]; exact h)))
theorem zv_icmp_ge {a b : Int} {off : Int} {tgt : Nat} (S : CallFix p m c cc nL s args Ts own) (hdg : decode cc pc = .ok (.if_icmp .ge off, 3)) (ht : (pc : Int) + off = (tgt : Int)) (ha : inR a) (hb : inR b) (kt : b ≤ a → W p l e R s m args below meth c H locs cells slots Q (F0 m tgt ls rest)) (kf : ¬ b ≤ a → W p l e R s m args below meth c H locs cells slots Q (F0 m (pc + 3) ls rest)) : W p l e R s m args below meth c H locs cells slots Q (F0 m pc ls (.int (iI b) :: .int (iI a) :: rest)) :=
  lv_icmp_ge S.1 S.2.1 hdg ht (fun h => kt ((iI_le hb ha).mp h)) (fun h => kf ((not_congr (iI_le hb ha)).mp h))
theorem zv_if_ge {a : Int} {off : Int} {tgt : Nat} (S : CallFix p m c cc nL s args Ts own) (hdg : decode cc pc = .ok (.ifCond .ge off, 3)) (ht : (pc : Int) + off = (tgt : Int)) (ha : inR a) (kt : 0 ≤ a → W p l e R s m args below meth c H locs cells slots Q (F0 m tgt ls rest)) (kf : ¬ 0 ≤ a → W p l e R s m args below meth c H locs cells slots Q (F0 m (pc + 3) ls rest)) : W p l e R s m args below meth c H locs cells slots Q (F0 m pc ls (.int (iI a) :: rest)) :=
  lv_if_ge S.1 S.2.1 hdg ht (fun h => kt ((iI_le (by decide : inR 0) ha).mp (by rw [← iI_0]; exact h))) (fun h => kf ((not_congr (iI_le (by decide : inR 0) ha)).mp (by rw [← iI_0]; exact h)))
theorem zv_icmp_gt {a b : Int} {off : Int} {tgt : Nat} (S : CallFix p m c cc nL s args Ts own) (hdg : decode cc pc = .ok (.if_icmp .gt off, 3)) (ht : (pc : Int) + off = (tgt : Int)) (ha : inR a) (hb : inR b) (kt : b < a → W p l e R s m args below meth c H locs cells slots Q (F0 m tgt ls rest)) (kf : ¬ b < a → W p l e R s m args below meth c H locs cells slots Q (F0 m (pc + 3) ls rest)) : W p l e R s m args below meth c H locs cells slots Q (F0 m pc ls (.int (iI b) :: .int (iI a) :: rest)) :=
  lv_icmp_gt S.1 S.2.1 hdg ht (fun h => kt ((iI_lt hb ha).mp h)) (fun h => kf ((not_congr (iI_lt hb ha)).mp h))
theorem zv_if_gt {a : Int} {off : Int} {tgt : Nat} (S : CallFix p m c cc nL s args Ts own) (hdg : decode cc pc = .ok (.ifCond .gt off, 3)) (ht : (pc : Int) + off = (tgt : Int)) (ha : inR a) (kt : 0 < a → W p l e R s m args below meth c H locs cells slots Q (F0 m tgt ls rest)) (kf : ¬ 0 < a → W p l e R s m args below meth c H locs cells slots Q (F0 m (pc + 3) ls rest)) : W p l e R s m args below meth c H locs cells slots Q (F0 m pc ls (.int (iI a) :: rest)) :=
  lv_if_gt S.1 S.2.1 hdg ht (fun h => kt ((iI_lt (by decide : inR 0) ha).mp (by rw [← iI_0]; exact h))) (fun h => kf ((not_congr (iI_lt (by decide : inR 0) ha)).mp (by rw [← iI_0]; exact h)))
theorem zv_icmp_le {a b : Int} {off : Int} {tgt : Nat} (S : CallFix p m c cc nL s args Ts own) (hdg : decode cc pc = .ok (.if_icmp .le off, 3)) (ht : (pc : Int) + off = (tgt : Int)) (ha : inR a) (hb : inR b) (kt : a ≤ b → W p l e R s m args below meth c H locs cells slots Q (F0 m tgt ls rest)) (kf : ¬ a ≤ b → W p l e R s m args below meth c H locs cells slots Q (F0 m (pc + 3) ls rest)) : W p l e R s m args below meth c H locs cells slots Q (F0 m pc ls (.int (iI b) :: .int (iI a) :: rest)) :=
  lv_icmp_le S.1 S.2.1 hdg ht (fun h => kt ((iI_le ha hb).mp h)) (fun h => kf ((not_congr (iI_le ha hb)).mp h))
theorem zv_if_le {a : Int} {off : Int} {tgt : Nat} (S : CallFix p m c cc nL s args Ts own) (hdg : decode cc pc = .ok (.ifCond .le off, 3)) (ht : (pc : Int) + off = (tgt : Int)) (ha : inR a) (kt : a ≤ 0 → W p l e R s m args below meth c H locs cells slots Q (F0 m tgt ls rest)) (kf : ¬ a ≤ 0 → W p l e R s m args below meth c H locs cells slots Q (F0 m (pc + 3) ls rest)) : W p l e R s m args below meth c H locs cells slots Q (F0 m pc ls (.int (iI a) :: rest)) :=
  lv_if_le S.1 S.2.1 hdg ht (fun h => kt ((iI_le ha (by decide : inR 0)).mp (by rw [← iI_0]; exact h))) (fun h => kf ((not_congr (iI_le ha (by decide : inR 0))).mp (by rw [← iI_0]; exact h)))
theorem zv_get {ref C : String} {T : u_T} {N ci index : Nat} {w : va_W} {a : Nat} (S : CallFix p m c cc nL s args Ts own) (hAM : AM X A s) (hH : Hold X A w H) (hin : ∀ w ∈ u_ws C T N, w ∈ Ts) (q0 : Nat) {fs : List Value} (he : w[q0]? = some (a, .inr (ci, fs))) (hc : vwCl[ci]? = some (C, T, N)) (k : Nat) (hk : k < N) (hlink : Cond.fieldLink own index ref (T k).2.1 (T k).2.2.1 ∈ Ts) (hsame : (T k).1 = ref) {v : Value} (hv : fs[k]? = some v) (hdg : decode cc pc = .ok (.getfield index, 3))
    (kk : W p l e R s m args below meth c H locs cells slots Q (F0 m (pc + 3) ls (v :: rest))) : W p l e R s m args below meth c H locs cells slots Q (F0 m pc ls (.ref a :: rest)) := by
  subst hsame
  exact va_get S.1 S.2.1 S.2.2.2.2 hin S.2.2.2.1 hAM.1 hH.1 q0 he hc k hk (S.2.2.2.2 _ hlink) (fun _ h => h) hv hdg kk
theorem zv_put {ref C : String} {T : u_T} {N ci index : Nat} {w w2 : va_W} {a : Nat} (S : CallFix p m c cc nL s args Ts own) (hAM : AM X A s) (hH : Hold X A w H) (hS : va_S A s.heap H locs) (hin : ∀ w ∈ u_ws C T N, w ∈ Ts) (ty0 : Nat → FieldType) (hty : ∀ k, k < N → parseFieldDescriptor (T k).2.2.1 = some (ty0 k)) (hnm : ∀ a, a < N → ∀ b, b < N → a ≠ b → (T a).2.1 ≠ (T b).2.1) (q0 : Nat) {fs : List Value} (he : w[q0]? = some (a, .inr (ci, fs))) (hc : vwCl[ci]? = some (C, T, N)) (k : Nat) (hk : k < N) (hlink : Cond.fieldLink own index ref (T k).2.1 (T k).2.2.1 ∈ Ts) (hsame : (T k).1 = ref) (hfin : (T k).2.2.2 = false) {v : Value} (hn : narrow (ty0 k) v = v) (hfit : fits (ty0 k) v = true) (hl : k < fs.length) (hw : w.set q0 (a, .inr (ci, fs.set k v)) = w2) (hdg : decode cc pc = .ok (.putfield index, 3))
    (kk : ∀ (H1 : Heap) (locs1 : List Loc), Hold X A w2 H1 → va_S A s.heap H1 locs1 → W p l e R s m args below meth c H1 locs1 cells slots Q (F0 m (pc + 3) ls rest)) : W p l e R s m args below meth c H locs cells slots Q (F0 m pc ls (v :: .ref a :: rest)) := by
  subst hsame; subst hw
  exact va_put S.1 S.2.1 S.2.2.2.2 hin ty0 hty hnm S.2.2.2.1 hAM.1 hH.1 hH.2 hS q0 he hc k hk (S.2.2.2.2 _ hlink) (fun _ h => h) hfin (hty k hk) hn hfit hl hdg (fun H1 locs1 h1 h2 h3 => kk H1 locs1 ⟨h1, h2⟩ h3)
theorem zv_iald {w : va_W} {a n : Nat} {g : Nat → Int} {i : Int} (S : CallFix p m c cc nL s args Ts own) (hAM : AM X A s) (hH : Hold X A w H) (q0 : Nat) (he : w[q0]? = some (ia X a n g)) (k : Nat) (hk : i = (k : Int)) (hlt : k < n) (hn : n < 2147483648) (hdg : decode cc pc = .ok (.iaload, 1))
    (kk : W p l e R s m args below meth c H locs cells slots Q (F0 m (pc + 1) ls (.int (iI (g k)) :: rest))) : W p l e R s m args below meth c H locs cells slots Q (F0 m pc ls (.int (iI i) :: .ref a :: rest)) := by
  subst hk
  refine va_iald S.1 S.2.1 hAM.1 hH.1 q0 0 he rfl (iI_in hlt hn) hdg ?_
  rw [iI_clamp (by omega)]
  exact kk
theorem zv_cald {w : va_W} {a n : Nat} {g : Nat → Int} {i : Int} (S : CallFix p m c cc nL s args Ts own) (hAM : AM X A s) (hH : Hold X A w H) (q0 : Nat) (he : w[q0]? = some (ca X a n g)) (k : Nat) (hk : i = (k : Int)) (hlt : k < n) (hn : n < 2147483648) (hdg : decode cc pc = .ok (.caload, 1))
    (kk : W p l e R s m args below meth c H locs cells slots Q (F0 m (pc + 1) ls (.int (iI (g k)) :: rest))) : W p l e R s m args below meth c H locs cells slots Q (F0 m pc ls (.int (iI i) :: .ref a :: rest)) := by
  subst hk
  refine va_cald S.1 S.2.1 hAM.1 hH.1 q0 1 he rfl (iI_in hlt hn) hdg ?_
  rw [iI_clamp (by omega)]
  exact kk
theorem zv_iast {w w2 : va_W} {a n : Nat} {g : Nat → Int} {i z : Int} (S : CallFix p m c cc nL s args Ts own) (hAM : AM X A s) (hH : Hold X A w H) (hS : va_S A s.heap H locs) (q0 : Nat) (he : w[q0]? = some (ia X a n g)) (k : Nat) (hk : i = (k : Int)) (hlt : k < n) (hn : n < 2147483648) (hw : w.set q0 (ia X a n (uI g k z)) = w2) (hdg : decode cc pc = .ok (.iastore, 1))
    (kk : ∀ (H1 : Heap) (locs1 : List Loc), Hold X A w2 H1 → va_S A s.heap H1 locs1 → W p l e R s m args below meth c H1 locs1 cells slots Q (F0 m (pc + 1) ls rest)) : W p l e R s m args below meth c H locs cells slots Q (F0 m pc ls (.int (iI z) :: .int (iI i) :: .ref a :: rest)) := by
  subst hk; subst hw
  refine va_iast S.1 S.2.1 hAM.1 hH.1 hH.2 hS q0 0 he rfl (iI_in hlt hn) hdg (fun H1 locs1 h1 h2 h3 => ?_)
  rw [iI_clamp (by omega), zA_upd] at h1 h2
  exact kk H1 locs1 ⟨h1, h2⟩ h3
/-! ===== calls ===== -/
theorem pre_at {w sr : List va_W} {av : List Value} {U : State} (hAM : AM X A s) (hA : ∀ q, s.heap.size ≤ q → A q) (hH : Hold X A (w.flatten ++ sr.flatten) H) (hS : va_S A s.heap H locs) (hU : U.heap = H) (hW : s.WarmedH U.vm) : va_Pc av (Pre X w H.size) av.toArray U :=
  ⟨rfl, by rw [hU], by rw [hU]; exact hH.left.true, hAM.at hS hU hW (hH.free hS hA)⟩
theorem recv_at {w : va_W} {a q0 ci : Nat} {q : vw_C} {fs : List Value} (hAM : AM X A s) (hH : Hold X A w H) (hc : vwCl[ci]? = some q) (he : w[q0]? = some (a, .inr (ci, fs))) : ∃ cell : Cell, H[a]? = some cell ∧ cell.vm.isStatics = false ∧ s.vm.findClass q.1 = some cell.cls := va_recv hAM.1 hH.1 hc he
theorem zr_i {S' : Type} {w sr : List va_W} {post : Int → S' → Prop} {w' : S' → List va_W} {mc ms : Nat} {st0 : List Value} {a : Array Value} (hA : ∀ q, s.heap.size ≤ q → A q) (hH : Hold X A (w.flatten ++ sr.flatten) H) (hS : va_S A s.heap H locs)
    (hr : va_Run p l e R s m args below meth c H locs cells slots mc ms (F0 m pc ls st0) rest (va_Qi (fun (r : Int32) (u : S') => ∃ z : Int, r = iI z ∧ post z u) (fun (u : S') (t : State) => Hold X (va_A w.flatten H.size) (w' u).flatten t.heap) (va_A w.flatten H.size) a) (va_A w.flatten H.size))
    (kk : ∀ (z : Int) (u : S') (H1 : Heap) (locs1 : List Loc), post z u → Hold X A (w' u ++ sr).flatten H1 → va_S A s.heap H1 locs1 → W p l e R s m args below meth c H1 locs1 (cells + mc) (slots + ms) Q (F0 m (pc + 3) ls (.int (iI z) :: rest))) : W p l e R s m args below meth c H locs cells slots Q (F0 m pc ls st0) := by
  refine va_calli hr hS (fun q _ h => hH.free hS hA q h) (hH.free hS hA) (fun r u t H1 locs1 ht hvm hw hB hz1 hk1 hS1 => ?_)
  obtain ⟨z, rfl, hp⟩ := hw
  rw [ht] at hB
  refine kk z u H1 locs1 hp ?_ hS1
  rw [List.flatten_append]
  exact hH.frame hk1 (hH.free hS hA) hB
theorem zr_v {S' : Type} {w sr : List va_W} {post : S' → Prop} {w' : S' → List va_W} {mc ms : Nat} {st0 : List Value} {a : Array Value} (hA : ∀ q, s.heap.size ≤ q → A q) (hH : Hold X A (w.flatten ++ sr.flatten) H) (hS : va_S A s.heap H locs)
    (hr : va_Run p l e R s m args below meth c H locs cells slots mc ms (F0 m pc ls st0) rest (va_Qv (fun (u : S') => post u) (fun (u : S') (t : State) => Hold X (va_A w.flatten H.size) (w' u).flatten t.heap) (va_A w.flatten H.size) a) (va_A w.flatten H.size))
    (kk : ∀ (u : S') (H1 : Heap) (locs1 : List Loc), post u → Hold X A (w' u ++ sr).flatten H1 → va_S A s.heap H1 locs1 → W p l e R s m args below meth c H1 locs1 (cells + mc) (slots + ms) Q (F0 m (pc + 3) ls rest)) : W p l e R s m args below meth c H locs cells slots Q (F0 m pc ls st0) := by
  refine va_callv hr hS (fun q _ h => hH.free hS hA q h) (hH.free hS hA) (fun u t H1 locs1 ht hvm hw hB hz1 hk1 hS1 => ?_)
  rw [ht] at hB
  refine kk u H1 locs1 hw ?_ hS1
  rw [List.flatten_append]
  exact hH.frame hk1 (hH.free hS hA) hB
theorem hold_cut {ss w sr : List va_W} (hH : Hold X A ss.flatten H) (is : List Nat) (his : is.filterMap (fun i => ss[i]?) = w ++ sr) (N0 : Nat) (hN0 : ss.length = N0) (hip : is.Perm (List.range N0)) : Hold X A (w.flatten ++ sr.flatten) H := by
  have h := hH.pick is his N0 hN0 hip
  rwa [List.flatten_append] at h
theorem zc_Vi {S' : Type} {y : MethodName} {ws ws' : List Cond} {bytes : ByteArray} {maxL index n : Nat} {ret : Option FieldType} {rm : Room} {As st0 : List Value} {ss w sr : List va_W} {w' : S' → List va_W} {post : Int → S' → Prop} {b : Nat} {C : String} {T : u_T} {N : Nat} {fs : List Value}  (S : CallFix p m c cc nL s args Ts own) (hAM : AM X A s) (hA : ∀ q, s.heap.size ≤ q → A q) (hC : Ci (S := S') l y ws rm X (.ref b :: As) w post w') (hw : ws = Cond.code y bytes maxL ret :: ws') (hG : GoodIn Ts (wsV own index C y ws)) (hd : y.cls = C ∧ y.cls ≠ "java/lang/invoke/MethodHandle" ∧ y.cls ≠ "java/lang/invoke/VarHandle" ∧ (parseMethodDescriptor y.desc).map (fun d => d.parameters.length) = some n) (hR : rm.frames + 1 ≤ R.frames ∧ 8 + (maxL + 11) + rm.locals ≤ R.locals)
    (hH : Hold X A ss.flatten H) (hS : va_S A s.heap H locs) (is : List Nat) (his : is.filterMap (fun i => ss[i]?) = w ++ sr) (N0 : Nat) (hN0 : ss.length = N0) (hip : is.Perm (List.range N0)) (ci q0 : Nat) (hrc : vwCl[ci]? = some (C, T, N)) (hre : (w.flatten ++ sr.flatten)[q0]? = some (b, .inr (ci, fs)))
    (hn : As.length = n) (hls : ls.size = nL) (hst0 : st0 = As.reverse ++ .ref b :: rest) (hrm : (rest.map fun v => v.category).sum ≤ 8) (hdg : decode cc pc = .ok (.invokevirtual index, 3)) (hf : cells + rm.cells ≤ R.cells ∧ slots + rm.slots ≤ R.slots)
    (kk : ∀ (z : Int) (u : S') (H1 : Heap) (locs1 : List Loc), post z u → Hold X A (w' u ++ sr).flatten H1 → va_S A s.heap H1 locs1 → W p l e R s m args below meth c H1 locs1 (cells + rm.cells) (slots + rm.slots) Q (F0 m (pc + 3) ls (.int (iI z) :: rest))) : W p l e R s m args below meth c H locs cells slots Q (F0 m pc ls st0) := by
  have hH2 := hold_cut hH is his N0 hN0 hip
  exact zr_i hA hH2 hS (va_runV S (hC H.size) (cwV n S.2.2.2.2 hG hw rfl rfl hd hR) ⟨Pre.blind, recv_at hAM hH2 hrc hre, fun U hU hW => pre_at hAM hA hH2 hS hU hW⟩ rfl hn hls hst0 (lv_room hrm) hdg hf) kk
theorem zc_Vv {S' : Type} {y : MethodName} {ws ws' : List Cond} {bytes : ByteArray} {maxL index n : Nat} {ret : Option FieldType} {rm : Room} {As st0 : List Value} {ss w sr : List va_W} {w' : S' → List va_W} {post : S' → Prop} {b : Nat} {C : String} {T : u_T} {N : Nat} {fs : List Value}  (S : CallFix p m c cc nL s args Ts own) (hAM : AM X A s) (hA : ∀ q, s.heap.size ≤ q → A q) (hC : Cv (S := S') l y ws rm X (.ref b :: As) w post w') (hw : ws = Cond.code y bytes maxL ret :: ws') (hG : GoodIn Ts (wsV own index C y ws)) (hd : y.cls = C ∧ y.cls ≠ "java/lang/invoke/MethodHandle" ∧ y.cls ≠ "java/lang/invoke/VarHandle" ∧ (parseMethodDescriptor y.desc).map (fun d => d.parameters.length) = some n) (hR : rm.frames + 1 ≤ R.frames ∧ 8 + (maxL + 11) + rm.locals ≤ R.locals)
    (hH : Hold X A ss.flatten H) (hS : va_S A s.heap H locs) (is : List Nat) (his : is.filterMap (fun i => ss[i]?) = w ++ sr) (N0 : Nat) (hN0 : ss.length = N0) (hip : is.Perm (List.range N0)) (ci q0 : Nat) (hrc : vwCl[ci]? = some (C, T, N)) (hre : (w.flatten ++ sr.flatten)[q0]? = some (b, .inr (ci, fs)))
    (hn : As.length = n) (hls : ls.size = nL) (hst0 : st0 = As.reverse ++ .ref b :: rest) (hrm : (rest.map fun v => v.category).sum ≤ 8) (hdg : decode cc pc = .ok (.invokevirtual index, 3)) (hf : cells + rm.cells ≤ R.cells ∧ slots + rm.slots ≤ R.slots)
    (kk : ∀ (u : S') (H1 : Heap) (locs1 : List Loc), post u → Hold X A (w' u ++ sr).flatten H1 → va_S A s.heap H1 locs1 → W p l e R s m args below meth c H1 locs1 (cells + rm.cells) (slots + rm.slots) Q (F0 m (pc + 3) ls rest)) : W p l e R s m args below meth c H locs cells slots Q (F0 m pc ls st0) := by
  have hH2 := hold_cut hH is his N0 hN0 hip
  exact zr_v hA hH2 hS (va_runV S (hC H.size) (cwV n S.2.2.2.2 hG hw rfl rfl hd hR) ⟨Pre.blind, recv_at hAM hH2 hrc hre, fun U hU hW => pre_at hAM hA hH2 hS hU hW⟩ rfl hn hls hst0 (lv_room hrm) hdg hf) kk
theorem zc_Si {S' : Type} {y : MethodName} {ws ws' : List Cond} {bytes : ByteArray} {maxL index n : Nat} {ret : Option FieldType} {rm : Room} {As st0 : List Value} {ss w sr : List va_W} {w' : S' → List va_W} {post : Int → S' → Prop}  (S : CallFix p m c cc nL s args Ts own) (hAM : AM X A s) (hA : ∀ q, s.heap.size ≤ q → A q) (hC : Ci (S := S') l y ws rm X As w post w') (hw : ws = Cond.code y bytes maxL ret :: ws') (hG : GoodIn Ts (va_wsS own index y ws)) (hd : y.cls ≠ "java/lang/invoke/MethodHandle" ∧ y.cls ≠ "java/lang/invoke/VarHandle" ∧ (parseMethodDescriptor y.desc).map (fun d => d.parameters.length) = some n) (hR : rm.frames + 1 ≤ R.frames ∧ 8 + (maxL + 11) + rm.locals ≤ R.locals)
    (hH : Hold X A ss.flatten H) (hS : va_S A s.heap H locs) (is : List Nat) (his : is.filterMap (fun i => ss[i]?) = w ++ sr) (N0 : Nat) (hN0 : ss.length = N0) (hip : is.Perm (List.range N0))
    (hn : As.length = n) (hls : ls.size = nL) (hst0 : st0 = As.reverse ++ rest) (hrm : (rest.map fun v => v.category).sum ≤ 8) (hdg : decode cc pc = .ok (.invokestatic index, 3)) (hf : cells + rm.cells ≤ R.cells ∧ slots + rm.slots ≤ R.slots)
    (kk : ∀ (z : Int) (u : S') (H1 : Heap) (locs1 : List Loc), post z u → Hold X A (w' u ++ sr).flatten H1 → va_S A s.heap H1 locs1 → W p l e R s m args below meth c H1 locs1 (cells + rm.cells) (slots + rm.slots) Q (F0 m (pc + 3) ls (.int (iI z) :: rest))) : W p l e R s m args below meth c H locs cells slots Q (F0 m pc ls st0) := by
  have hH2 := hold_cut hH is his N0 hN0 hip
  exact zr_i hA hH2 hS (va_runS S (hC H.size) (va_cwS n S.2.2.2.2 hG hw rfl rfl hd hR) ⟨Pre.blind, fun U hU hW => pre_at hAM hA hH2 hS hU hW⟩ rfl hn hls hst0 (lv_room hrm) hdg hf) kk
theorem zc_Sv {S' : Type} {y : MethodName} {ws ws' : List Cond} {bytes : ByteArray} {maxL index n : Nat} {ret : Option FieldType} {rm : Room} {As st0 : List Value} {ss w sr : List va_W} {w' : S' → List va_W} {post : S' → Prop}  (S : CallFix p m c cc nL s args Ts own) (hAM : AM X A s) (hA : ∀ q, s.heap.size ≤ q → A q) (hC : Cv (S := S') l y ws rm X As w post w') (hw : ws = Cond.code y bytes maxL ret :: ws') (hG : GoodIn Ts (va_wsS own index y ws)) (hd : y.cls ≠ "java/lang/invoke/MethodHandle" ∧ y.cls ≠ "java/lang/invoke/VarHandle" ∧ (parseMethodDescriptor y.desc).map (fun d => d.parameters.length) = some n) (hR : rm.frames + 1 ≤ R.frames ∧ 8 + (maxL + 11) + rm.locals ≤ R.locals)
    (hH : Hold X A ss.flatten H) (hS : va_S A s.heap H locs) (is : List Nat) (his : is.filterMap (fun i => ss[i]?) = w ++ sr) (N0 : Nat) (hN0 : ss.length = N0) (hip : is.Perm (List.range N0))
    (hn : As.length = n) (hls : ls.size = nL) (hst0 : st0 = As.reverse ++ rest) (hrm : (rest.map fun v => v.category).sum ≤ 8) (hdg : decode cc pc = .ok (.invokestatic index, 3)) (hf : cells + rm.cells ≤ R.cells ∧ slots + rm.slots ≤ R.slots)
    (kk : ∀ (u : S') (H1 : Heap) (locs1 : List Loc), post u → Hold X A (w' u ++ sr).flatten H1 → va_S A s.heap H1 locs1 → W p l e R s m args below meth c H1 locs1 (cells + rm.cells) (slots + rm.slots) Q (F0 m (pc + 3) ls rest)) : W p l e R s m args below meth c H locs cells slots Q (F0 m pc ls st0) := by
  have hH2 := hold_cut hH is his N0 hN0 hip
  exact zr_v hA hH2 hS (va_runS S (hC H.size) (va_cwS n S.2.2.2.2 hG hw rfl rfl hd hR) ⟨Pre.blind, fun U hU hW => pre_at hAM hA hH2 hS hU hW⟩ rfl hn hls hst0 (lv_room hrm) hdg hf) kk
theorem zc_Ni {S' : Type} {y : MethodName} {ws ws' : List Cond} {bytes : ByteArray} {maxL index n : Nat} {ret : Option FieldType} {rm : Room} {As st0 : List Value} {ss w sr : List va_W} {w' : S' → List va_W} {post : Int → S' → Prop} {host : String}  (S : CallFix p m c cc nL s args Ts own) (hAM : AM X A s) (hA : ∀ q, s.heap.size ≤ q → A q) (hC : Ci (S := S') l y ws rm X As w post w') (hw : ws = Cond.code y bytes maxL ret :: ws') (hG : GoodIn Ts ws) (hnw : va_Nw (.methodLinkNest own index y host) s) (hini : Cond.initialized y.cls ∈ Ts) (hst : Cond.static y ∈ Ts) (hd : y.cls ≠ "java/lang/invoke/MethodHandle" ∧ y.cls ≠ "java/lang/invoke/VarHandle" ∧ (parseMethodDescriptor y.desc).map (fun d => d.parameters.length) = some n) (hR : rm.frames + 1 ≤ R.frames ∧ 8 + (maxL + 11) + rm.locals ≤ R.locals)
    (hH : Hold X A ss.flatten H) (hS : va_S A s.heap H locs) (is : List Nat) (his : is.filterMap (fun i => ss[i]?) = w ++ sr) (N0 : Nat) (hN0 : ss.length = N0) (hip : is.Perm (List.range N0))
    (hn : As.length = n) (hls : ls.size = nL) (hst0 : st0 = As.reverse ++ rest) (hrm : (rest.map fun v => v.category).sum ≤ 8) (hdg : decode cc pc = .ok (.invokestatic index, 3)) (hf : cells + rm.cells ≤ R.cells ∧ slots + rm.slots ≤ R.slots)
    (kk : ∀ (z : Int) (u : S') (H1 : Heap) (locs1 : List Loc), post z u → Hold X A (w' u ++ sr).flatten H1 → va_S A s.heap H1 locs1 → W p l e R s m args below meth c H1 locs1 (cells + rm.cells) (slots + rm.slots) Q (F0 m (pc + 3) ls (.int (iI z) :: rest))) : W p l e R s m args below meth c H locs cells slots Q (F0 m pc ls st0) := by
  have hH2 := hold_cut hH is his N0 hN0 hip
  exact zr_i hA hH2 hS (va_runSN (host := host) S (hC H.size) ⟨va_cnB n S.2.2.2.2 hG hw rfl rfl hnw (S.2.2.2.2 _ hini) hd hR, S.2.2.2.2 _ hst, trivial⟩ ⟨Pre.blind, fun U hU hW => pre_at hAM hA hH2 hS hU hW⟩ rfl hn hls hst0 (lv_room hrm) hdg hf) kk
end ZV
end
section
/-! ===== more rows ===== -/
abbrev rmD (d : Nat) : Room := { frames := d, cells := 0, slots := 0, locals := 64 * d }
def lI (z : Int) : Int64 := Int64.ofInt z
theorem lI_i {z : Int} (h : inR z) : (iI z).toInt64 = lI z := Int32.toInt64_ofInt (by rw [show Int32.minValue.toInt = -2147483648 from by decide]; exact h.1) (by rw [show Int32.maxValue.toInt = 2147483647 from by decide]; omega)
theorem lI_toInt {z : Int} (h : inR z) : (lI z).toInt = z := Int64.toInt_ofInt_of_le (by omega) (by omega)
def cmpI (a b : Int) : Int := if a < b then -1 else if a = b then 0 else 1
theorem cmpI_eq {a b : Int} (ha : inR a) (hb : inR b) : lg_cmp (lI a) (lI b) = iI (cmpI a b) := by
  unfold lg_cmp cmpI
  have e1 : (lI a > lI b) ↔ b < a := by rw [gt_iff_lt, Int64.lt_iff_toInt_lt, lI_toInt ha, lI_toInt hb]
  have e2 : (lI a = lI b) ↔ a = b := by rw [← Int64.toInt_inj, lI_toInt ha, lI_toInt hb]
  by_cases h1 : b < a
  · rw [if_pos (e1.mpr h1), if_neg (by omega), if_neg (by omega)]
    decide
  · rw [if_neg (fun z => h1 (e1.mp z))]
    by_cases h2 : a = b
    · rw [if_pos (e2.mpr h2), if_neg (by omega), if_pos h2]
      decide
    · rw [if_neg (fun z => h2 (e2.mp z)), if_pos (by omega)]
      decide
section ZW
variable {p : Program} {l : Launch} {e : Env} {R : Room} {s : State} {m : MethodId} {args : Array Value} {below : List Frame} {meth : Method} {c : Code} {H : Heap} {locs : List Loc} {cells slots : Nat} {Q : State → Prop}
variable {cc : ByteArray} {pc nL : Nat} {ls : Array Slot} {rest : List Value} {X : XT} {A : Nat → Prop} {Ts : List Cond} {own : String}
theorem zv_top {z z2 : Int} (hz : z = z2) (k : W p l e R s m args below meth c H locs cells slots Q (F0 m pc ls (.int (iI z2) :: rest))) : W p l e R s m args below meth c H locs cells slots Q (F0 m pc ls (.int (iI z) :: rest)) := hz ▸ k
theorem zv_lcmp {a b : Int} (S : CallFix p m c cc nL s args Ts own) (ha : inR a) (hb : inR b) (hdg : decode cc pc = .ok (.lcmp, 1)) (k : W p l e R s m args below meth c H locs cells slots Q (F0 m (pc + 1) ls (.int (iI (cmpI a b)) :: rest))) : W p l e R s m args below meth c H locs cells slots Q (F0 m pc ls (.long (lI b) :: .long (lI a) :: rest)) := by
  refine W.lcmp S.1 S.2.1 hdg ?_
  rw [cmpI_eq ha hb]
  exact k
theorem zv_const {idx : Nat} {n : Int32} {z : Int} (S : CallFix p m c cc nL s args Ts own) (hm : Cond.constant own idx n ∈ Ts) (hn : n = iI z) : (Cond.constant own idx (iI z)).before args s = true := hn ▸ S.2.2.2.2 _ hm
theorem zv_constL {idx : Nat} {n : Int64} {z : Int} (S : CallFix p m c cc nL s args Ts own) (hm : Cond.constantLong own idx n ∈ Ts) (hn : n = lI z) : (Cond.constantLong own idx (lI z)).before args s = true := hn ▸ S.2.2.2.2 _ hm
theorem zv_mmax {index : Nat} {a b z : Int} (S : CallFix p m c cc nL s args Ts own) (hls : ls.size = nL) (w1 : Cond.methodLink own index Lib.Math.max.name ∈ Ts) (w2 : Cond.static Lib.Math.max.name ∈ Ts) (w3 : Cond.initialized "java/lang/Math" ∈ Ts) (w4 : Cond.code Lib.Math.max.name Lib.Math.max.code 2 (some .int) ∈ Ts) (ha : inR a) (hb : inR b) (hz : max a b = z) (hf : 1 ≤ R.frames) (hl : (rest.map fun v => v.category).sum + 13 ≤ R.locals) (hc : cells ≤ R.cells) (hs : slots ≤ R.slots) (hdg : decode cc pc = .ok (.invokestatic index, 3))
    (k : W p l e R s m args below meth c H locs cells slots Q (F0 m (pc + 3) ls (.int (iI z) :: rest))) : W p l e R s m args below meth c H locs cells slots Q (F0 m pc ls (.int (iI b) :: .int (iI a) :: rest)) := by
  refine va_mmax S.1 S.2.1 (S.2.2.1.trans hls.symm) S.2.2.2.1 (S.2.2.2.2 _ w1) (S.2.2.2.2 _ w2) (S.2.2.2.2 _ w3) (S.2.2.2.2 _ w4) hf hl hc hs hdg ?_
  have e : (if iI a < iI b then iI b else iI a) = iI z := by
    subst hz
    by_cases h : a < b
    · rw [if_pos ((iI_lt ha hb).mpr h), show max a b = b by omega]
    · rw [if_neg (fun q => h ((iI_lt ha hb).mp q)), show max a b = a by omega]
  rw [e]
  exact k
theorem zv_mmin {index : Nat} {a b z : Int} (S : CallFix p m c cc nL s args Ts own) (hls : ls.size = nL) (w1 : Cond.methodLink own index Lib.Math.min.name ∈ Ts) (w2 : Cond.static Lib.Math.min.name ∈ Ts) (w3 : Cond.initialized "java/lang/Math" ∈ Ts) (w4 : Cond.code Lib.Math.min.name Lib.Math.min.code 2 (some .int) ∈ Ts) (ha : inR a) (hb : inR b) (hz : min a b = z) (hf : 1 ≤ R.frames) (hl : (rest.map fun v => v.category).sum + 13 ≤ R.locals) (hc : cells ≤ R.cells) (hs : slots ≤ R.slots) (hdg : decode cc pc = .ok (.invokestatic index, 3))
    (k : W p l e R s m args below meth c H locs cells slots Q (F0 m (pc + 3) ls (.int (iI z) :: rest))) : W p l e R s m args below meth c H locs cells slots Q (F0 m pc ls (.int (iI b) :: .int (iI a) :: rest)) := by
  refine va_mmin S.1 S.2.1 (S.2.2.1.trans hls.symm) S.2.2.2.1 (S.2.2.2.2 _ w1) (S.2.2.2.2 _ w2) (S.2.2.2.2 _ w3) (S.2.2.2.2 _ w4) hf hl hc hs hdg ?_
  have e : (if iI b < iI a then iI b else iI a) = iI z := by
    subst hz
    by_cases h : b < a
    · rw [if_pos ((iI_lt hb ha).mpr h), show min a b = b by omega]
    · rw [if_neg (fun q => h ((iI_lt hb ha).mp q)), show min a b = a by omega]
  rw [e]
  exact k
end ZW
/-! ===== bits of small numbers ===== -/
theorem iI_or (a b : Nat) : iI (a : Int) ||| iI (b : Int) = iI ((a ||| b : Nat) : Int) := by
  rw [iI_nat, iI_nat, iI_nat]
  apply Int32.toBitVec.inj
  show BitVec.ofNat 32 a ||| BitVec.ofNat 32 b = BitVec.ofNat 32 (a ||| b)
  apply BitVec.eq_of_toNat_eq
  simp [Nat.or_mod_two_pow]
theorem iI_and (a b : Nat) : iI (a : Int) &&& iI (b : Int) = iI ((a &&& b : Nat) : Int) := by
  rw [iI_nat, iI_nat, iI_nat]
  apply Int32.toBitVec.inj
  show BitVec.ofNat 32 a &&& BitVec.ofNat 32 b = BitVec.ofNat 32 (a &&& b)
  apply BitVec.eq_of_toNat_eq
  simp [Nat.and_mod_two_pow]
theorem iI_shl1 : ∀ r : Nat, r < 31 → iI ((1 : Nat) : Int) <<< (iI (r : Int) &&& 31) = iI ((2 ^ r : Nat) : Int) := by decide +kernel
theorem iI_shr0 : ∀ (a r : Nat), a < 2147483648 → r < 31 → iI (a : Int) >>> (iI (r : Int) &&& 31) = iI ((a / 2 ^ r : Nat) : Int) := by
  intro a r ha hr
  rw [iI_nat, iI_nat, iI_nat]
  exact pk_shrN (by omega) _ r (by
    have h : ∀ r : Nat, r < 31 → ((nI r &&& 31).toBitVec.smod 32).toNat = r := by decide +kernel
    exact h r hr)
/-! ===== the reference's world ===== -/
abbrev aW (X : XT) (q n : Nat) (g : Nat → Int) : va_W := [ia X q n g]
abbrev cW (X : XT) (q n : Nat) (g : Nat → Int) : va_W := [ca X q n g]
abbrev mO (h : Nat) (Q : Nat → Nat) (km ln sp rs : Int) : va_W := [(h, .inr (6, [.ref (Q 0), .ref (Q 1), .ref (Q 2), .int (iI km), .ref (Q 3), .int (iI ln), .int (iI sp), .int (iI rs), .ref (Q 4), .ref (Q 5)]))]
theorem cmpI_R (a b : Int) : inR (cmpI a b) := by
  unfold cmpI
  split
  · omega
  · split <;> omega
theorem cmpI_lt {a b : Int} : cmpI a b < 0 ↔ a < b := by
  unfold cmpI
  split
  · omega
  · split <;> omega
theorem cmpI_gt {a b : Int} : 0 < cmpI a b ↔ b < a := by
  unfold cmpI
  split
  · omega
  · split <;> omega
end
section
/-! ===== cells whose contents agree where it counts ===== -/
theorem arrV_congr {c : ClassId} {n : Nat} {f g : Nat → Value} (h : ∀ k, k < n → f k = g k) : arrV c n f = arrV c n g := by
  unfold arrV
  congr 1
  apply Array.ext
  · simp
  · intro i h1 h2
    simp at h1
    simp [h i h1]
theorem Hold.cong {X : XT} {A : Nat → Prop} {w w2 : va_W} {H : Heap} (hH : Hold X A w H) (q0 : Nat) {a n : Nat} {g g2 : Nat → Int} (he : w[q0]? = some (ia X a n g)) (h : ∀ k, k < n → g k = g2 k) (hw : w.set q0 (ia X a n g2) = w2) : Hold X A w2 H := by
  subst hw
  refine ⟨hH.1.set hH.2 he ?_ (fun q _ => rfl), hH.2.set he⟩
  have h1 := hH.1 q0 _ he
  show H[a]? = some (vp_cell _ _)
  have h2 : H[a]? = some (vp_cell (X.2.1 0) (n, .inl (zA g))) := h1
  rw [h2, vp_cell_i, vp_cell_i]
  congr 1
  apply arrV_congr
  intro k hk
  show Value.int (iI (g k)) = Value.int (iI (g2 k))
  rw [h k hk]
/-! ===== a row of the reference ===== -/
def nr (v : Nat → Int) : Nat := (v 11).toNat
def na (v : Nat → Int) : Nat := (v 44).toNat
def ns (v : Nat → Int) : Nat := (v 0).toNat
def rl (v : Nat → Int) (a : Nat) : Nat := (v (45 + (4 * a))).toNat
def sn (v : Nat → Int) (a : Nat) : Nat := (v ((45 + (4 * a)) + 1)).toNat
def st (v : Nat → Int) : Nat → Int
  | 0 => 0
  | k + 1 => st v k + v (1 + k)
def eT (v : Nat → Int) (a : Nat) : Int := st v (sn v a) + v ((45 + (4 * a)) + 2)
def xT (v : Nat → Int) (a : Nat) : Int := st v (sn v a) + v ((45 + (4 * a)) + 3)
def okR (v : Nat → Int) : Prop :=
  (0 ≤ v 0 ∧ v 0 ≤ 10) ∧ (0 ≤ v 11 ∧ v 11 ≤ 8) ∧ (0 ≤ v 44 ∧ v 44 ≤ 20) ∧ (∀ i, i < 10 → 0 ≤ v (1 + i) ∧ v (1 + i) ≤ 99) ∧
  (∀ r, r < 8 → (0 ≤ v (12 + r) ∧ v (12 + r) ≤ 2) ∧ (0 ≤ v (20 + r) ∧ v (20 + r) ≤ 60) ∧ (0 ≤ v (28 + r) ∧ v (28 + r) ≤ 60) ∧ (-1 ≤ v (36 + r) ∧ v (36 + r) ≤ 7)) ∧
  (∀ a, a < 20 → (0 ≤ v (45 + (4 * a)) ∧ v (45 + (4 * a)) ≤ 7) ∧ (0 ≤ v ((45 + (4 * a)) + 1) ∧ v ((45 + (4 * a)) + 1) ≤ 9) ∧ (0 ≤ v ((45 + (4 * a)) + 2) ∧ v ((45 + (4 * a)) + 2) ≤ 99) ∧ (0 ≤ v ((45 + (4 * a)) + 3) ∧ v ((45 + (4 * a)) + 3) ≤ 99)) ∧
  (∀ a : Nat, (a : Int) < v 44 → v (45 + (4 * a)) < v 11 ∧ v ((45 + (4 * a)) + 1) < v 0 ∧ v ((45 + (4 * a)) + 2) < v ((45 + (4 * a)) + 3))
theorem okR.e11 {v : Nat → Int} (h : okR v) : v 11 = ((nr v : Nat) : Int) := by
  have := h.2.1
  unfold nr
  omega
theorem okR.e44 {v : Nat → Int} (h : okR v) : v 44 = ((na v : Nat) : Int) := by
  have := h.2.2.1
  unfold na
  omega
theorem okR.e0 {v : Nat → Int} (h : okR v) : v 0 = ((ns v : Nat) : Int) := by
  have := h.1
  unfold ns
  omega
theorem okR.nr8 {v : Nat → Int} (h : okR v) : nr v ≤ 8 := by
  have := h.2.1
  unfold nr
  omega
theorem okR.na20 {v : Nat → Int} (h : okR v) : na v ≤ 20 := by
  have := h.2.2.1
  unfold na
  omega
theorem okR.ns10 {v : Nat → Int} (h : okR v) : ns v ≤ 10 := by
  have := h.1
  unfold ns
  omega
theorem okR.rlE {v : Nat → Int} (h : okR v) (a : Nat) (ha : a < 20) : v (45 + (4 * a)) = ((rl v a : Nat) : Int) := by
  have := (h.2.2.2.2.2.1 a ha).1
  unfold rl
  omega
theorem okR.rl8 {v : Nat → Int} (h : okR v) (a : Nat) (ha : a < 20) : rl v a < 8 := by
  have := (h.2.2.2.2.2.1 a ha).1
  unfold rl
  omega
theorem okR.rlr {v : Nat → Int} (h : okR v) (a : Nat) (ha : a < na v) : rl v a < nr v := by
  have h1 := h.na20
  have h2 := (h.2.2.2.2.2.2 a (by rw [h.e44]; omega)).1
  have h3 := h.e11
  have h4 := h.rlE a (by omega)
  omega
theorem okR.snE {v : Nat → Int} (h : okR v) (a : Nat) (ha : a < 20) : v ((45 + (4 * a)) + 1) = ((sn v a : Nat) : Int) := by
  have := (h.2.2.2.2.2.1 a ha).2.1
  unfold sn
  omega
theorem okR.sn10 {v : Nat → Int} (h : okR v) (a : Nat) (ha : a < 20) : sn v a < 10 := by
  have := (h.2.2.2.2.2.1 a ha).2.1
  unfold sn
  omega
theorem okR.stB {v : Nat → Int} (h : okR v) : ∀ (k : Nat), k ≤ 10 → 0 ≤ st v k ∧ st v k ≤ 99 * (k : Int)
  | 0, _ => by simp [st]
  | k + 1, hk => by
    have h1 := okR.stB h k (by omega)
    have h2 := h.2.2.2.1 k (by omega)
    simp only [st]
    omega
theorem okR.stR {v : Nat → Int} (h : okR v) (k : Nat) (hk : k ≤ 10) : inR (st v k) := by
  have := h.stB k hk
  omega
theorem okR.eTB {v : Nat → Int} (h : okR v) (a : Nat) (ha : a < 20) : 0 ≤ eT v a ∧ eT v a ≤ 1089 := by
  have h1 := h.stB (sn v a) (by have := h.sn10 a ha; omega)
  have h2 := h.sn10 a ha
  have h3 := (h.2.2.2.2.2.1 a ha).2.2.1
  unfold eT
  omega
theorem okR.xTB {v : Nat → Int} (h : okR v) (a : Nat) (ha : a < 20) : 0 ≤ xT v a ∧ xT v a ≤ 1089 := by
  have h1 := h.stB (sn v a) (by have := h.sn10 a ha; omega)
  have h2 := h.sn10 a ha
  have h3 := (h.2.2.2.2.2.1 a ha).2.2.2
  unfold xT
  omega
theorem okR.eTR {v : Nat → Int} (h : okR v) (a : Nat) (ha : a < 20) : inR (eT v a) := by
  have := h.eTB a ha
  omega
theorem okR.xTR {v : Nat → Int} (h : okR v) (a : Nat) (ha : a < 20) : inR (xT v a) := by
  have := h.xTB a ha
  omega
theorem okR.lo {v : Nat → Int} (h : okR v) (k : Nat) (hk : k < 125) : -1 ≤ v k ∧ v k ≤ 99 := by
  rcases (show k = 0 ∨ (1 ≤ k ∧ k < 11) ∨ k = 11 ∨ (12 ≤ k ∧ k < 20) ∨ (20 ≤ k ∧ k < 28) ∨ (28 ≤ k ∧ k < 36) ∨ (36 ≤ k ∧ k < 44) ∨ k = 44 ∨ 45 ≤ k by omega) with h0 | h0 | h0 | h0 | h0 | h0 | h0 | h0 | h0
  · subst h0; have := h.1; omega
  · obtain ⟨i, rfl⟩ : ∃ i, k = 1 + i := ⟨k - 1, by omega⟩
    have := h.2.2.2.1 i (by omega); omega
  · subst h0; have := h.2.1; omega
  · obtain ⟨i, rfl⟩ : ∃ i, k = 12 + i := ⟨k - 12, by omega⟩
    have := (h.2.2.2.2.1 i (by omega)).1; omega
  · obtain ⟨i, rfl⟩ : ∃ i, k = 20 + i := ⟨k - 20, by omega⟩
    have := (h.2.2.2.2.1 i (by omega)).2.1; omega
  · obtain ⟨i, rfl⟩ : ∃ i, k = 28 + i := ⟨k - 28, by omega⟩
    have := (h.2.2.2.2.1 i (by omega)).2.2.1; omega
  · obtain ⟨i, rfl⟩ : ∃ i, k = 36 + i := ⟨k - 36, by omega⟩
    have := (h.2.2.2.2.1 i (by omega)).2.2.2; omega
  · subst h0; have := h.2.2.1; omega
  · obtain ⟨a, j, hj, rfl⟩ : ∃ a j, j < 4 ∧ k = (45 + (4 * a)) + j := ⟨(k - 45) / 4, (k - 45) % 4, by omega, by omega⟩
    have h1 := h.2.2.2.2.2.1 a (by omega)
    rcases (show j = 0 ∨ j = 1 ∨ j = 2 ∨ j = 3 by omega) with rfl | rfl | rfl | rfl
    · have h2 := h1.1
      rw [Nat.add_zero]
      omega
    · have := h1.2.1; omega
    · have := h1.2.2.1; omega
    · have := h1.2.2.2; omega
theorem okR.inRk {v : Nat → Int} (h : okR v) (k : Nat) (hk : k < 125) : inR (v k) := by
  have := h.lo k hk
  omega
/-! ===== bits ===== -/
def popF : Nat → Nat → Nat
  | 0, _ => 0
  | f + 1, n => if n = 0 then 0 else 1 + popF f (n &&& (n - 1))
def pop (n : Nat) : Nat := popF 8 n
theorem pop_s : ∀ n, n < 256 → n ≠ 0 → (pop n = 1 + pop (n &&& (n - 1)) ∧ (n &&& (n - 1)) < n) := by decide +kernel
theorem pop_8 : ∀ n, n < 256 → pop n ≤ 8 := by decide +kernel
/-- the roles on stage at a time, out of the first appearances -/
def ra (v : Nat → Int) (t : Int) : Nat → Nat
  | 0 => 0
  | a + 1 => if eT v a ≤ t ∧ t < xT v a then ra v t a ||| 2 ^ rl v a else ra v t a
theorem or_lt256 {a r : Nat} (ha : a < 256) (hr : r < 8) : a ||| 2 ^ r < 256 := by
  have h : 2 ^ r < 2 ^ 8 := Nat.pow_lt_pow_right (by omega) hr
  exact Nat.or_lt_two_pow (n := 8) ha h
theorem ra_lt {v : Nat → Int} (h : okR v) (t : Int) : ∀ a, a ≤ 20 → ra v t a < 256
  | 0, _ => by simp [ra]
  | a + 1, ha => by
    have h1 := ra_lt h t a (by omega)
    simp only [ra]
    split
    · exact or_lt256 h1 (h.rl8 a (by omega))
    · exact h1
/-- the roles of an actor, out of the first roles -/
def cb (v : Nat → Int) (x : Int) : Nat → Nat
  | 0 => 0
  | r + 1 => if v (36 + r) = x then cb v x r ||| 2 ^ r else cb v x r
theorem cb_lt {v : Nat → Int} (x : Int) : ∀ r, r ≤ 8 → cb v x r < 256
  | 0, _ => by simp [cb]
  | r + 1, hr => by
    have h1 := cb_lt (v := v) x r (by omega)
    simp only [cb]
    split
    · exact or_lt256 h1 (by omega)
    · exact h1
def ris (v : Nat → Int) (c : Int) : Nat → Nat
  | 0 => 0
  | a + 1 => if v ((45 + (4 * a)) + 1) = c then ris v c a ||| 2 ^ rl v a else ris v c a
theorem ris_lt {v : Nat → Int} (h : okR v) (t : Int) : ∀ a, a ≤ 20 → ris v t a < 256
  | 0, _ => by simp [ris]
  | a + 1, ha => by
    have h1 := ris_lt h t a (by omega)
    simp only [ris]
    split
    · exact or_lt256 h1 (h.rl8 a (by omega))
    · exact h1
/-- the greatest number on stage at an entrance, out of the first appearances -/
def pk (v : Nat → Int) : Nat → Nat
  | 0 => 0
  | a + 1 => if pk v a < pop (ra v (eT v a) (na v)) then pop (ra v (eT v a) (na v)) else pk v a
end
section
set_option maxHeartbeats 4000000 in
set_option maxRecDepth 100000 in
theorem kX6_in (l : Launch) (X : XT) (v : Int) (lo : Int) (hi : Int) (h1 : inR v) (h2 : inR lo) (h3 : inR hi) : Ci l yX6_in wsX6_in (rmD 1) X [.long (lI (v)), .long (lI (lo)), .long (lI (hi))] [] (fun (z : Int) (_ : Unit) => (z = 1 ∧ (lo ≤ v ∧ v ≤ hi)) ∨ (z = 0 ∧ ¬ (lo ≤ v ∧ v ≤ hi))) (fun (_ : Unit) => []) := by
  refine Ci.ofW (cc := cX6_in) (maxL := 6) (by decide) rfl (Nat.le_of_ble_eq_true rfl) ?_
  intro p_ e_ s_ m_ below meth c_ A Q_ S hA hAM hH hS hret ls hl
  have hl : lv_has ls 6 [(0, .long (lI (v))), (2, .long (lI (lo))), (4, .long (lI (hi)))] := hl
  refine lv_lload_n S.1 S.2.1 dX6_in_0 rfl (lv_at hl 0 rfl) ?_
  refine lv_lload_n S.1 S.2.1 dX6_in_1 rfl (lv_at hl 1 rfl) ?_
  refine zv_lcmp S (by omega) (by omega) dX6_in_2 ?_
  refine zv_if_lt (tgt := 17) S dX6_in_3 (by decide) (cmpI_R _ _) (fun c_3 => ?_) (fun c_3 => ?_)
  · skip
    refine lv_iconst (v := iI (((0 : Nat) : Int))) S.1 S.2.1 dX6_in_17 (by decide) ?_
    exact hret 18 ls _ _ (((0 : Nat) : Int)) () dX6_in_18 rfl (by (try rw [cmpI_lt] at c_3); (try rw [cmpI_gt] at c_10); first | exact Or.inl ⟨rfl, by omega⟩ | exact Or.inr ⟨rfl, by omega⟩) hH hS
  · skip
    refine lv_lload_n S.1 S.2.1 dX6_in_6 rfl (lv_at hl 0 rfl) ?_
    refine lv_lload S.1 S.2.1 dX6_in_7 (lv_at hl 2 rfl) ?_
    refine zv_lcmp S (by omega) (by omega) dX6_in_9 ?_
    refine zv_if_gt (tgt := 17) S dX6_in_10 (by decide) (cmpI_R _ _) (fun c_10 => ?_) (fun c_10 => ?_)
    · skip
      refine lv_iconst (v := iI (((0 : Nat) : Int))) S.1 S.2.1 dX6_in_17 (by decide) ?_
      exact hret 18 ls _ _ (((0 : Nat) : Int)) () dX6_in_18 rfl (by (try rw [cmpI_lt] at c_3); (try rw [cmpI_gt] at c_10); first | exact Or.inl ⟨rfl, by omega⟩ | exact Or.inr ⟨rfl, by omega⟩) hH hS
    · skip
      refine lv_iconst (v := iI (((1 : Nat) : Int))) S.1 S.2.1 dX6_in_13 (by decide) ?_
      refine lv_goto (tgt := 18) S.1 S.2.1 dX6_in_14 (by decide) ?_
      exact hret 18 ls _ _ (((1 : Nat) : Int)) () dX6_in_18 rfl (by (try rw [cmpI_lt] at c_3); (try rw [cmpI_gt] at c_10); first | exact Or.inl ⟨rfl, by omega⟩ | exact Or.inr ⟨rfl, by omega⟩) hH hS

theorem mX6_isRole_1 : Cond.fieldLink RX6 7 "RoleDoublingPlannerModel" "s" "[I" ∈ wsX6_isRole := List.mem_of_getElem? (i := 1) rfl
theorem nX6_isRole_X6 : ∀ w ∈ wsX60, w ∈ wsX6_isRole := fun _ h => List.mem_cons_of_mem _ (List.mem_append_right _ h)
set_option maxHeartbeats 4000000 in
set_option maxRecDepth 100000 in
theorem kX6_isRole (l : Launch) (X : XT) (h : Nat) (Q : Nat → Nat) (s : Nat → Int) (rd : Nat → Int) (kp : Nat → Int) (km : Int) (tx : Nat → Int) (ln : Int) (sp : Int) (rs : Int) (wi : Nat → Int) (gi : Nat → Int) (r : Int) (hs : okR s) (hr : inR r) : Ci l yX6_isRole wsX6_isRole (rmD 2) X [.ref h, .int (iI (r))] [mO h Q km ln sp rs, aW X (Q 0) 125 s, aW X (Q 1) 125 rd, aW X (Q 2) 625 kp, aW X (Q 3) 400 tx, aW X (Q 4) 8 wi, aW X (Q 5) 8 gi] (fun (z : Int) (_ : Unit) => (z = 1 ∧ (0 ≤ r ∧ r < ((nr s : Nat) : Int))) ∨ (z = 0 ∧ ¬ (0 ≤ r ∧ r < ((nr s : Nat) : Int)))) (fun (_ : Unit) => [mO h Q km ln sp rs, aW X (Q 0) 125 s, aW X (Q 1) 125 rd, aW X (Q 2) 625 kp, aW X (Q 3) 400 tx, aW X (Q 4) 8 wi, aW X (Q 5) 8 gi]) := by
  refine Ci.ofW (cc := cX6_isRole) (maxL := 2) (by decide) rfl (Nat.le_of_ble_eq_true rfl) ?_
  intro p_ e_ s_ m_ below meth c_ A Q_ S hA hAM hH hS hret ls hl
  have hl : lv_has ls 2 [(0, .ref (h)), (1, .int (iI (r)))] := hl
  have hk1 := hs.nr8
  have hk2 := hs.na20
  have hk3 := hs.ns10
  refine lv_iload_n S.1 S.2.1 dX6_isRole_0 rfl (lv_at hl 1 rfl) ?_
  refine lv_i2l (v := lI (r)) S.1 S.2.1 dX6_isRole_1 (lI_i (by omega)) ?_
  refine lv_lconst (v := lI (0)) S.1 S.2.1 dX6_isRole_2 (by decide) ?_
  refine lv_aload_n S.1 S.2.1 dX6_isRole_3 rfl (lv_at hl 0 rfl) ?_
  refine zv_get (v := .ref (Q 0)) S hAM hH nX6_isRole_X6 0 rfl rfl 0 (by decide) mX6_isRole_1 rfl rfl dX6_isRole_4 ?_
  refine lv_bipush (v := iI (((11 : Nat) : Int))) S.1 S.2.1 dX6_isRole_7 (by decide) ?_
  refine zv_iald S hAM hH 1 rfl (11) rfl (by decide) (by decide) dX6_isRole_9 ?_
  refine zv_top (z := s 11) (z2 := ((nr s : Nat) : Int)) hs.e11 ?_
  refine lv_iconst (v := iI (((1 : Nat) : Int))) S.1 S.2.1 dX6_isRole_10 (by decide) ?_
  refine zv_isub (z := (((nr s : Nat) : Int) - ((1 : Nat) : Int))) S dX6_isRole_11 rfl ?_
  refine lv_i2l (v := lI ((((nr s : Nat) : Int) - ((1 : Nat) : Int)))) S.1 S.2.1 dX6_isRole_12 (lI_i (by omega)) ?_
  refine zc_Si (n := 3) (As := [.long (lI (r)), .long (lI (0)), .long (lI ((((nr s : Nat) : Int) - ((1 : Nat) : Int))))]) (rest := []) S hAM hA (kX6_in l X r 0 (((nr s : Nat) : Int) - ((1 : Nat) : Int)) (by omega) (by omega) (by omega)) rfl gX6_isRole_X6_in  (by decide +kernel) ⟨Nat.le_of_ble_eq_true rfl, Nat.le_of_ble_eq_true rfl⟩ hH hS [0, 1, 2, 3, 4, 5, 6] rfl 7 rfl (List.Perm.refl _)  rfl hl.1 rfl (Nat.le_of_ble_eq_true rfl) dX6_isRole_13 ⟨Nat.le_of_ble_eq_true rfl, Nat.le_of_ble_eq_true rfl⟩ (fun z2 _ H locs hp3 hH hS => ?_)
  have hH : Hold X A [mO h Q km ln sp rs, aW X (Q 0) 125 s, aW X (Q 1) 125 rd, aW X (Q 2) 625 kp, aW X (Q 3) 400 tx, aW X (Q 4) 8 wi, aW X (Q 5) 8 gi].flatten H := hH
  rcases hp3 with ⟨rfl, b_13⟩ | ⟨rfl, b_13⟩
  · refine zv_top (z := 1) (z2 := ((1 : Nat) : Int)) rfl ?_
    exact hret 16 ls _ _ (((1 : Nat) : Int)) () dX6_isRole_16 rfl (by first | exact Or.inl ⟨rfl, by omega⟩ | exact Or.inr ⟨rfl, by omega⟩) hH hS
  · refine zv_top (z := 0) (z2 := ((0 : Nat) : Int)) rfl ?_
    exact hret 16 ls _ _ (((0 : Nat) : Int)) () dX6_isRole_16 rfl (by first | exact Or.inl ⟨rfl, by omega⟩ | exact Or.inr ⟨rfl, by omega⟩) hH hS

theorem mX6_isScene_1 : Cond.fieldLink RX6 7 "RoleDoublingPlannerModel" "s" "[I" ∈ wsX6_isScene := List.mem_of_getElem? (i := 1) rfl
theorem nX6_isScene_X6 : ∀ w ∈ wsX60, w ∈ wsX6_isScene := fun _ h => List.mem_cons_of_mem _ (List.mem_append_right _ h)
set_option maxHeartbeats 4000000 in
set_option maxRecDepth 100000 in
theorem kX6_isScene (l : Launch) (X : XT) (h : Nat) (Q : Nat → Nat) (s : Nat → Int) (rd : Nat → Int) (kp : Nat → Int) (km : Int) (tx : Nat → Int) (ln : Int) (sp : Int) (rs : Int) (wi : Nat → Int) (gi : Nat → Int) (r : Int) (hs : okR s) (hr : inR r) : Ci l yX6_isScene wsX6_isScene (rmD 2) X [.ref h, .int (iI (r))] [mO h Q km ln sp rs, aW X (Q 0) 125 s, aW X (Q 1) 125 rd, aW X (Q 2) 625 kp, aW X (Q 3) 400 tx, aW X (Q 4) 8 wi, aW X (Q 5) 8 gi] (fun (z : Int) (_ : Unit) => (z = 1 ∧ (0 ≤ r ∧ r < ((ns s : Nat) : Int))) ∨ (z = 0 ∧ ¬ (0 ≤ r ∧ r < ((ns s : Nat) : Int)))) (fun (_ : Unit) => [mO h Q km ln sp rs, aW X (Q 0) 125 s, aW X (Q 1) 125 rd, aW X (Q 2) 625 kp, aW X (Q 3) 400 tx, aW X (Q 4) 8 wi, aW X (Q 5) 8 gi]) := by
  refine Ci.ofW (cc := cX6_isScene) (maxL := 2) (by decide) rfl (Nat.le_of_ble_eq_true rfl) ?_
  intro p_ e_ s_ m_ below meth c_ A Q_ S hA hAM hH hS hret ls hl
  have hl : lv_has ls 2 [(0, .ref (h)), (1, .int (iI (r)))] := hl
  have hk1 := hs.nr8
  have hk2 := hs.na20
  have hk3 := hs.ns10
  refine lv_iload_n S.1 S.2.1 dX6_isScene_0 rfl (lv_at hl 1 rfl) ?_
  refine lv_i2l (v := lI (r)) S.1 S.2.1 dX6_isScene_1 (lI_i (by omega)) ?_
  refine lv_lconst (v := lI (0)) S.1 S.2.1 dX6_isScene_2 (by decide) ?_
  refine lv_aload_n S.1 S.2.1 dX6_isScene_3 rfl (lv_at hl 0 rfl) ?_
  refine zv_get (v := .ref (Q 0)) S hAM hH nX6_isScene_X6 0 rfl rfl 0 (by decide) mX6_isScene_1 rfl rfl dX6_isScene_4 ?_
  refine lv_iconst (v := iI (((0 : Nat) : Int))) S.1 S.2.1 dX6_isScene_7 (by decide) ?_
  refine zv_iald S hAM hH 1 rfl (0) rfl (by decide) (by decide) dX6_isScene_8 ?_
  refine zv_top (z := s 0) (z2 := ((ns s : Nat) : Int)) hs.e0 ?_
  refine lv_iconst (v := iI (((1 : Nat) : Int))) S.1 S.2.1 dX6_isScene_9 (by decide) ?_
  refine zv_isub (z := (((ns s : Nat) : Int) - ((1 : Nat) : Int))) S dX6_isScene_10 rfl ?_
  refine lv_i2l (v := lI ((((ns s : Nat) : Int) - ((1 : Nat) : Int)))) S.1 S.2.1 dX6_isScene_11 (lI_i (by omega)) ?_
  refine zc_Si (n := 3) (As := [.long (lI (r)), .long (lI (0)), .long (lI ((((ns s : Nat) : Int) - ((1 : Nat) : Int))))]) (rest := []) S hAM hA (kX6_in l X r 0 (((ns s : Nat) : Int) - ((1 : Nat) : Int)) (by omega) (by omega) (by omega)) rfl gX6_isScene_X6_in  (by decide +kernel) ⟨Nat.le_of_ble_eq_true rfl, Nat.le_of_ble_eq_true rfl⟩ hH hS [0, 1, 2, 3, 4, 5, 6] rfl 7 rfl (List.Perm.refl _)  rfl hl.1 rfl (Nat.le_of_ble_eq_true rfl) dX6_isScene_12 ⟨Nat.le_of_ble_eq_true rfl, Nat.le_of_ble_eq_true rfl⟩ (fun z2 _ H locs hp3 hH hS => ?_)
  have hH : Hold X A [mO h Q km ln sp rs, aW X (Q 0) 125 s, aW X (Q 1) 125 rd, aW X (Q 2) 625 kp, aW X (Q 3) 400 tx, aW X (Q 4) 8 wi, aW X (Q 5) 8 gi].flatten H := hH
  rcases hp3 with ⟨rfl, b_12⟩ | ⟨rfl, b_12⟩
  · refine zv_top (z := 1) (z2 := ((1 : Nat) : Int)) rfl ?_
    exact hret 15 ls _ _ (((1 : Nat) : Int)) () dX6_isScene_15 rfl (by first | exact Or.inl ⟨rfl, by omega⟩ | exact Or.inr ⟨rfl, by omega⟩) hH hS
  · refine zv_top (z := 0) (z2 := ((0 : Nat) : Int)) rfl ?_
    exact hret 15 ls _ _ (((0 : Nat) : Int)) () dX6_isScene_15 rfl (by first | exact Or.inl ⟨rfl, by omega⟩ | exact Or.inr ⟨rfl, by omega⟩) hH hS

theorem mX6_isActor_1 : Cond.constantLong RX6 104 (7) ∈ wsX6_isActor := List.mem_of_getElem? (i := 1) rfl
set_option maxHeartbeats 4000000 in
set_option maxRecDepth 100000 in
theorem kX6_isActor (l : Launch) (X : XT) (r : Int) (hr : inR r) : Ci l yX6_isActor wsX6_isActor (rmD 2) X [.int (iI (r))] [] (fun (z : Int) (_ : Unit) => (z = 1 ∧ (0 ≤ r ∧ r ≤ 7)) ∨ (z = 0 ∧ ¬ (0 ≤ r ∧ r ≤ 7))) (fun (_ : Unit) => []) := by
  refine Ci.ofW (cc := cX6_isActor) (maxL := 1) (by decide) rfl (Nat.le_of_ble_eq_true rfl) ?_
  intro p_ e_ s_ m_ below meth c_ A Q_ S hA hAM hH hS hret ls hl
  have hl : lv_has ls 1 [(0, .int (iI (r)))] := hl
  refine lv_iload_n S.1 S.2.1 dX6_isActor_0 rfl (lv_at hl 0 rfl) ?_
  refine lv_i2l (v := lI (r)) S.1 S.2.1 dX6_isActor_1 (lI_i (by omega)) ?_
  refine lv_lconst (v := lI (0)) S.1 S.2.1 dX6_isActor_2 (by decide) ?_
  refine lv_ldc2 (v := lI (7)) S.1 S.2.1 S.2.2.2.1 (zv_constL S mX6_isActor_1 (by decide)) dX6_isActor_3 ?_
  refine zc_Si (n := 3) (As := [.long (lI (r)), .long (lI (0)), .long (lI (7))]) (rest := []) S hAM hA (kX6_in l X r 0 7 (by omega) (by omega) (by omega)) rfl gX6_isActor_X6_in  (by decide +kernel) ⟨Nat.le_of_ble_eq_true rfl, Nat.le_of_ble_eq_true rfl⟩ hH hS [] rfl 0 rfl (List.Perm.refl _)  rfl hl.1 rfl (Nat.le_of_ble_eq_true rfl) dX6_isActor_6 ⟨Nat.le_of_ble_eq_true rfl, Nat.le_of_ble_eq_true rfl⟩ (fun z2 _ H locs hp3 hH hS => ?_)
  rcases hp3 with ⟨rfl, b_6⟩ | ⟨rfl, b_6⟩
  · refine zv_top (z := 1) (z2 := ((1 : Nat) : Int)) rfl ?_
    exact hret 9 ls _ _ (((1 : Nat) : Int)) () dX6_isActor_9 rfl (by first | exact Or.inl ⟨rfl, by omega⟩ | exact Or.inr ⟨rfl, by omega⟩) hH hS
  · refine zv_top (z := 0) (z2 := ((0 : Nat) : Int)) rfl ?_
    exact hret 9 ls _ _ (((0 : Nat) : Int)) () dX6_isActor_9 rfl (by first | exact Or.inl ⟨rfl, by omega⟩ | exact Or.inr ⟨rfl, by omega⟩) hH hS

theorem mX6_roleCount_1 : Cond.fieldLink RX6 7 "RoleDoublingPlannerModel" "s" "[I" ∈ wsX6_roleCount := List.mem_of_getElem? (i := 1) rfl
theorem nX6_roleCount_X6 : ∀ w ∈ wsX60, w ∈ wsX6_roleCount := fun _ h => List.mem_cons_of_mem _ (List.mem_append_right _ h)
set_option maxHeartbeats 4000000 in
set_option maxRecDepth 100000 in
theorem kX6_roleCount (l : Launch) (X : XT) (h : Nat) (Q : Nat → Nat) (s : Nat → Int) (rd : Nat → Int) (kp : Nat → Int) (km : Int) (tx : Nat → Int) (ln : Int) (sp : Int) (rs : Int) (wi : Nat → Int) (gi : Nat → Int) (hs : okR s) : Ci l yX6_roleCount wsX6_roleCount (rmD 1) X [.ref h] [mO h Q km ln sp rs, aW X (Q 0) 125 s, aW X (Q 1) 125 rd, aW X (Q 2) 625 kp, aW X (Q 3) 400 tx, aW X (Q 4) 8 wi, aW X (Q 5) 8 gi] (fun (z : Int) (_ : Unit) => z = ((nr s : Nat) : Int)) (fun (_ : Unit) => [mO h Q km ln sp rs, aW X (Q 0) 125 s, aW X (Q 1) 125 rd, aW X (Q 2) 625 kp, aW X (Q 3) 400 tx, aW X (Q 4) 8 wi, aW X (Q 5) 8 gi]) := by
  refine Ci.ofW (cc := cX6_roleCount) (maxL := 1) (by decide) rfl (Nat.le_of_ble_eq_true rfl) ?_
  intro p_ e_ s_ m_ below meth c_ A Q_ S hA hAM hH hS hret ls hl
  have hl : lv_has ls 1 [(0, .ref (h))] := hl
  have hk1 := hs.nr8
  have hk2 := hs.na20
  have hk3 := hs.ns10
  refine lv_aload_n S.1 S.2.1 dX6_roleCount_0 rfl (lv_at hl 0 rfl) ?_
  refine zv_get (v := .ref (Q 0)) S hAM hH nX6_roleCount_X6 0 rfl rfl 0 (by decide) mX6_roleCount_1 rfl rfl dX6_roleCount_1 ?_
  refine lv_bipush (v := iI (((11 : Nat) : Int))) S.1 S.2.1 dX6_roleCount_4 (by decide) ?_
  refine zv_iald S hAM hH 1 rfl (11) rfl (by decide) (by decide) dX6_roleCount_6 ?_
  refine zv_top (z := s 11) (z2 := ((nr s : Nat) : Int)) hs.e11 ?_
  exact hret 7 ls _ _ (((nr s : Nat) : Int)) () dX6_roleCount_7 rfl rfl hH hS

theorem mX6_appearanceCount_1 : Cond.fieldLink RX6 7 "RoleDoublingPlannerModel" "s" "[I" ∈ wsX6_appearanceCount := List.mem_of_getElem? (i := 1) rfl
theorem nX6_appearanceCount_X6 : ∀ w ∈ wsX60, w ∈ wsX6_appearanceCount := fun _ h => List.mem_cons_of_mem _ (List.mem_append_right _ h)
set_option maxHeartbeats 4000000 in
set_option maxRecDepth 100000 in
theorem kX6_appearanceCount (l : Launch) (X : XT) (h : Nat) (Q : Nat → Nat) (s : Nat → Int) (rd : Nat → Int) (kp : Nat → Int) (km : Int) (tx : Nat → Int) (ln : Int) (sp : Int) (rs : Int) (wi : Nat → Int) (gi : Nat → Int) (hs : okR s) : Ci l yX6_appearanceCount wsX6_appearanceCount (rmD 1) X [.ref h] [mO h Q km ln sp rs, aW X (Q 0) 125 s, aW X (Q 1) 125 rd, aW X (Q 2) 625 kp, aW X (Q 3) 400 tx, aW X (Q 4) 8 wi, aW X (Q 5) 8 gi] (fun (z : Int) (_ : Unit) => z = ((na s : Nat) : Int)) (fun (_ : Unit) => [mO h Q km ln sp rs, aW X (Q 0) 125 s, aW X (Q 1) 125 rd, aW X (Q 2) 625 kp, aW X (Q 3) 400 tx, aW X (Q 4) 8 wi, aW X (Q 5) 8 gi]) := by
  refine Ci.ofW (cc := cX6_appearanceCount) (maxL := 1) (by decide) rfl (Nat.le_of_ble_eq_true rfl) ?_
  intro p_ e_ s_ m_ below meth c_ A Q_ S hA hAM hH hS hret ls hl
  have hl : lv_has ls 1 [(0, .ref (h))] := hl
  have hk1 := hs.nr8
  have hk2 := hs.na20
  have hk3 := hs.ns10
  refine lv_aload_n S.1 S.2.1 dX6_appearanceCount_0 rfl (lv_at hl 0 rfl) ?_
  refine zv_get (v := .ref (Q 0)) S hAM hH nX6_appearanceCount_X6 0 rfl rfl 0 (by decide) mX6_appearanceCount_1 rfl rfl dX6_appearanceCount_1 ?_
  refine lv_bipush (v := iI (((44 : Nat) : Int))) S.1 S.2.1 dX6_appearanceCount_4 (by decide) ?_
  refine zv_iald S hAM hH 1 rfl (44) rfl (by decide) (by decide) dX6_appearanceCount_6 ?_
  refine zv_top (z := s 44) (z2 := ((na s : Nat) : Int)) hs.e44 ?_
  exact hret 7 ls _ _ (((na s : Nat) : Int)) () dX6_appearanceCount_7 rfl rfl hH hS

theorem mX6_sceneStart_1 : Cond.fieldLink RX6 7 "RoleDoublingPlannerModel" "s" "[I" ∈ wsX6_sceneStart := List.mem_of_getElem? (i := 1) rfl
theorem nX6_sceneStart_X6 : ∀ w ∈ wsX60, w ∈ wsX6_sceneStart := fun _ h => List.mem_cons_of_mem _ (List.mem_append_right _ h)
set_option maxHeartbeats 4000000 in
set_option maxRecDepth 100000 in
theorem kX6_sceneStart (l : Launch) (X : XT) (h : Nat) (Q : Nat → Nat) (s : Nat → Int) (rd : Nat → Int) (kp : Nat → Int) (km : Int) (tx : Nat → Int) (ln : Int) (sp : Int) (rs : Int) (wi : Nat → Int) (gi : Nat → Int) (k : Nat) (hs : okR s) (hk : k ≤ 10) : Ci l yX6_sceneStart wsX6_sceneStart (rmD 1) X [.ref h, .int (iI ((k : Nat) : Int))] [mO h Q km ln sp rs, aW X (Q 0) 125 s, aW X (Q 1) 125 rd, aW X (Q 2) 625 kp, aW X (Q 3) 400 tx, aW X (Q 4) 8 wi, aW X (Q 5) 8 gi] (fun (z : Int) (_ : Unit) => z = st s k) (fun (_ : Unit) => [mO h Q km ln sp rs, aW X (Q 0) 125 s, aW X (Q 1) 125 rd, aW X (Q 2) 625 kp, aW X (Q 3) 400 tx, aW X (Q 4) 8 wi, aW X (Q 5) 8 gi]) := by
  refine Ci.ofW (cc := cX6_sceneStart) (maxL := 4) (by decide) rfl (Nat.le_of_ble_eq_true rfl) ?_
  intro p_ e_ s_ m_ below meth c_ A Q_ S hA hAM hH hS hret ls hl
  have hl : lv_has ls 4 [(0, .ref (h)), (1, .int (iI ((k : Nat) : Int)))] := hl
  have hk1 := hs.nr8
  have hk2 := hs.na20
  have hk3 := hs.ns10
  refine lv_iconst (v := iI (((0 : Nat) : Int))) S.1 S.2.1 dX6_sceneStart_0 (by decide) ?_
  refine lv_istore_n (lv' := [(2, .int (iI ((0 : Nat) : Int))), (0, .ref (h)), (1, .int (iI ((k : Nat) : Int)))]) S.1 S.2.1 dX6_sceneStart_1 rfl hl (by decide) rfl (fun ls hl => ?_)
  refine lv_iconst (v := iI (((0 : Nat) : Int))) S.1 S.2.1 dX6_sceneStart_2 (by decide) ?_
  refine lv_istore_n (lv' := [(3, .int (iI ((0 : Nat) : Int))), (2, .int (iI ((0 : Nat) : Int))), (0, .ref (h)), (1, .int (iI ((k : Nat) : Int)))]) S.1 S.2.1 dX6_sceneStart_3 rfl hl (by decide) rfl (fun ls hl => ?_)
  have lp4 : ∀ (n : Nat) (i : Nat), k - i < n → (i ≤ k) → ∀ (H : Heap) (locs : List Loc), Hold X A [mO h Q km ln sp rs, aW X (Q 0) 125 s, aW X (Q 1) 125 rd, aW X (Q 2) 625 kp, aW X (Q 3) 400 tx, aW X (Q 4) 8 wi, aW X (Q 5) 8 gi].flatten H → va_S A s_.heap H locs → ∀ ls : Array Slot, lv_has ls 4 [(3, .int (iI ((i : Nat) : Int))), (2, .int (iI (st s i))), (0, .ref (h)), (1, .int (iI ((k : Nat) : Int)))] → W p_ l e_ (rmD 1) s_ m_ (List.toArray [.ref (h), .int (iI ((k : Nat) : Int))]) below meth c_ H locs 0 0 Q_ (F0 m_ 4 ls []) := by
    intro n
    induction n with
    | zero => intro i hmu hi H locs hH hS ls hl; exact absurd hmu (Nat.not_lt_zero _)
    | succ n ih4 => 
      intro i hmu hi H locs hH hS ls hl
      refine lv_iload_n S.1 S.2.1 dX6_sceneStart_4 rfl (lv_at hl 0 rfl) ?_
      refine lv_iload_n S.1 S.2.1 dX6_sceneStart_5 rfl (lv_at hl 3 rfl) ?_
      refine zv_icmp_ge (tgt := 26) S dX6_sceneStart_6 (by decide) (by omega) (by omega) (fun c_6 => ?_) (fun c_6 => ?_)
      · skip
        refine lv_iload_n S.1 S.2.1 dX6_sceneStart_26 rfl (lv_at hl 1 rfl) ?_
        exact hret 27 ls _ _ (st s i) () dX6_sceneStart_27 rfl (by have e9 : i = k := (by omega); rw [e9]) hH hS
      · skip
        refine lv_iload_n S.1 S.2.1 dX6_sceneStart_9 rfl (lv_at hl 1 rfl) ?_
        refine lv_aload_n S.1 S.2.1 dX6_sceneStart_10 rfl (lv_at hl 2 rfl) ?_
        refine zv_get (v := .ref (Q 0)) S hAM hH nX6_sceneStart_X6 0 rfl rfl 0 (by decide) mX6_sceneStart_1 rfl rfl dX6_sceneStart_11 ?_
        refine lv_iconst (v := iI (((1 : Nat) : Int))) S.1 S.2.1 dX6_sceneStart_14 (by decide) ?_
        refine lv_iload_n S.1 S.2.1 dX6_sceneStart_15 rfl (lv_at hl 0 rfl) ?_
        refine zv_iadd (z := (((1 + i) : Nat) : Int)) S dX6_sceneStart_16 (by omega) ?_
        refine zv_iald S hAM hH 1 rfl ((1 + i)) rfl (by omega) (by decide) dX6_sceneStart_17 ?_
        refine zv_iadd (z := (st s i + s (1 + i))) S dX6_sceneStart_18 rfl ?_
        refine lv_istore_n (lv' := [(2, .int (iI ((st s i + s (1 + i))))), (3, .int (iI ((i : Nat) : Int))), (0, .ref (h)), (1, .int (iI ((k : Nat) : Int)))]) S.1 S.2.1 dX6_sceneStart_19 rfl hl (by decide) rfl (fun ls hl => ?_)
        refine zv_iinc (z := (((i + 1) : Nat) : Int)) (lv' := [(3, .int (iI (((i + 1) : Nat) : Int))), (2, .int (iI ((st s i + s (1 + i))))), (0, .ref (h)), (1, .int (iI ((k : Nat) : Int)))]) S dX6_sceneStart_20 hl (k := 1) rfl (by omega) (by decide) rfl (fun ls hl => ?_)
        refine lv_goto (tgt := 4) S.1 S.2.1 dX6_sceneStart_23 (by decide) ?_
        exact ih4  ((i + 1)) (by omega) (by omega) _ _ hH hS ls (lv_sub hl [0, 1, 2, 3] rfl)
  exact lp4 (k - (0) + 1) (0) (Nat.lt_succ_self _) (Nat.zero_le _) _ _ hH hS ls (lv_sub hl [0, 1, 2, 3] rfl)

theorem mX6_playLength_1 : Cond.fieldLink RX6 7 "RoleDoublingPlannerModel" "s" "[I" ∈ wsX6_playLength := List.mem_of_getElem? (i := 1) rfl
theorem nX6_playLength_X6 : ∀ w ∈ wsX60, w ∈ wsX6_playLength := fun _ h => List.mem_cons_of_mem _ (List.mem_append_right _ h)
set_option maxHeartbeats 4000000 in
set_option maxRecDepth 100000 in
theorem kX6_playLength (l : Launch) (X : XT) (h : Nat) (Q : Nat → Nat) (s : Nat → Int) (rd : Nat → Int) (kp : Nat → Int) (km : Int) (tx : Nat → Int) (ln : Int) (sp : Int) (rs : Int) (wi : Nat → Int) (gi : Nat → Int) (hs : okR s) : Ci l yX6_playLength wsX6_playLength (rmD 2) X [.ref h] [mO h Q km ln sp rs, aW X (Q 0) 125 s, aW X (Q 1) 125 rd, aW X (Q 2) 625 kp, aW X (Q 3) 400 tx, aW X (Q 4) 8 wi, aW X (Q 5) 8 gi] (fun (z : Int) (_ : Unit) => z = st s (ns s)) (fun (_ : Unit) => [mO h Q km ln sp rs, aW X (Q 0) 125 s, aW X (Q 1) 125 rd, aW X (Q 2) 625 kp, aW X (Q 3) 400 tx, aW X (Q 4) 8 wi, aW X (Q 5) 8 gi]) := by
  refine Ci.ofW (cc := cX6_playLength) (maxL := 1) (by decide) rfl (Nat.le_of_ble_eq_true rfl) ?_
  intro p_ e_ s_ m_ below meth c_ A Q_ S hA hAM hH hS hret ls hl
  have hl : lv_has ls 1 [(0, .ref (h))] := hl
  have hk1 := hs.nr8
  have hk2 := hs.na20
  have hk3 := hs.ns10
  refine lv_aload_n S.1 S.2.1 dX6_playLength_0 rfl (lv_at hl 0 rfl) ?_
  refine lv_aload_n S.1 S.2.1 dX6_playLength_1 rfl (lv_at hl 0 rfl) ?_
  refine zv_get (v := .ref (Q 0)) S hAM hH nX6_playLength_X6 0 rfl rfl 0 (by decide) mX6_playLength_1 rfl rfl dX6_playLength_2 ?_
  refine lv_iconst (v := iI (((0 : Nat) : Int))) S.1 S.2.1 dX6_playLength_5 (by decide) ?_
  refine zv_iald S hAM hH 1 rfl (0) rfl (by decide) (by decide) dX6_playLength_6 ?_
  refine zv_top (z := s 0) (z2 := ((ns s : Nat) : Int)) hs.e0 ?_
  refine zc_Vi (n := 1) (As := [.int (iI ((ns s : Nat) : Int))]) (rest := []) S hAM hA (kX6_sceneStart l X h Q s rd kp km tx ln sp rs wi gi (ns s) hs (by omega)) rfl gX6_playLength_X6_sceneStart  (by decide +kernel) ⟨Nat.le_of_ble_eq_true rfl, Nat.le_of_ble_eq_true rfl⟩ hH hS [0, 1, 2, 3, 4, 5, 6] rfl 7 rfl (List.Perm.refl _) 6 0 rfl rfl rfl hl.1 rfl (Nat.le_of_ble_eq_true rfl) dX6_playLength_7 ⟨Nat.le_of_ble_eq_true rfl, Nat.le_of_ble_eq_true rfl⟩ (fun z2 _ H locs hp3 hH hS => ?_)
  have hH : Hold X A [mO h Q km ln sp rs, aW X (Q 0) 125 s, aW X (Q 1) 125 rd, aW X (Q 2) 625 kp, aW X (Q 3) 400 tx, aW X (Q 4) 8 wi, aW X (Q 5) 8 gi].flatten H := hH
  obtain rfl := hp3
  exact hret 10 ls _ _ (st s (ns s)) () dX6_playLength_10 rfl rfl hH hS

theorem mX6_roleOf_1 : Cond.fieldLink RX6 7 "RoleDoublingPlannerModel" "s" "[I" ∈ wsX6_roleOf := List.mem_of_getElem? (i := 1) rfl
theorem nX6_roleOf_X6 : ∀ w ∈ wsX60, w ∈ wsX6_roleOf := fun _ h => List.mem_cons_of_mem _ (List.mem_append_right _ h)
set_option maxHeartbeats 4000000 in
set_option maxRecDepth 100000 in
theorem kX6_roleOf (l : Launch) (X : XT) (h : Nat) (Q : Nat → Nat) (s : Nat → Int) (rd : Nat → Int) (kp : Nat → Int) (km : Int) (tx : Nat → Int) (ln : Int) (sp : Int) (rs : Int) (wi : Nat → Int) (gi : Nat → Int) (a : Nat) (hs : okR s) (ha : a < 20) : Ci l yX6_roleOf wsX6_roleOf (rmD 1) X [.ref h, .int (iI ((a : Nat) : Int))] [mO h Q km ln sp rs, aW X (Q 0) 125 s, aW X (Q 1) 125 rd, aW X (Q 2) 625 kp, aW X (Q 3) 400 tx, aW X (Q 4) 8 wi, aW X (Q 5) 8 gi] (fun (z : Int) (_ : Unit) => z = ((rl s a : Nat) : Int)) (fun (_ : Unit) => [mO h Q km ln sp rs, aW X (Q 0) 125 s, aW X (Q 1) 125 rd, aW X (Q 2) 625 kp, aW X (Q 3) 400 tx, aW X (Q 4) 8 wi, aW X (Q 5) 8 gi]) := by
  refine Ci.ofW (cc := cX6_roleOf) (maxL := 2) (by decide) rfl (Nat.le_of_ble_eq_true rfl) ?_
  intro p_ e_ s_ m_ below meth c_ A Q_ S hA hAM hH hS hret ls hl
  have hl : lv_has ls 2 [(0, .ref (h)), (1, .int (iI ((a : Nat) : Int)))] := hl
  have hk1 := hs.nr8
  have hk2 := hs.na20
  have hk3 := hs.ns10
  refine lv_aload_n S.1 S.2.1 dX6_roleOf_0 rfl (lv_at hl 0 rfl) ?_
  refine zv_get (v := .ref (Q 0)) S hAM hH nX6_roleOf_X6 0 rfl rfl 0 (by decide) mX6_roleOf_1 rfl rfl dX6_roleOf_1 ?_
  refine lv_bipush (v := iI (((45 : Nat) : Int))) S.1 S.2.1 dX6_roleOf_4 (by decide) ?_
  refine lv_iconst (v := iI (((4 : Nat) : Int))) S.1 S.2.1 dX6_roleOf_6 (by decide) ?_
  refine lv_iload_n S.1 S.2.1 dX6_roleOf_7 rfl (lv_at hl 1 rfl) ?_
  refine zv_imul (z := (((4 * a) : Nat) : Int)) S dX6_roleOf_8 (by omega) ?_
  refine zv_iadd (z := (((45 + (4 * a)) : Nat) : Int)) S dX6_roleOf_9 (by omega) ?_
  refine zv_iald S hAM hH 1 rfl ((45 + (4 * a))) rfl (by omega) (by decide) dX6_roleOf_10 ?_
  refine zv_top (z := s (45 + (4 * a))) (z2 := ((rl s a : Nat) : Int)) (hs.rlE a (by omega)) ?_
  exact hret 11 ls _ _ (((rl s a : Nat) : Int)) () dX6_roleOf_11 rfl rfl hH hS

theorem mX6_enters_1 : Cond.fieldLink RX6 7 "RoleDoublingPlannerModel" "s" "[I" ∈ wsX6_enters := List.mem_of_getElem? (i := 1) rfl
theorem nX6_enters_X6 : ∀ w ∈ wsX60, w ∈ wsX6_enters := fun _ h => List.mem_cons_of_mem _ (List.mem_append_right _ h)
set_option maxHeartbeats 4000000 in
set_option maxRecDepth 100000 in
theorem kX6_enters (l : Launch) (X : XT) (h : Nat) (Q : Nat → Nat) (s : Nat → Int) (rd : Nat → Int) (kp : Nat → Int) (km : Int) (tx : Nat → Int) (ln : Int) (sp : Int) (rs : Int) (wi : Nat → Int) (gi : Nat → Int) (a : Nat) (hs : okR s) (ha : a < 20) : Ci l yX6_enters wsX6_enters (rmD 2) X [.ref h, .int (iI ((a : Nat) : Int))] [mO h Q km ln sp rs, aW X (Q 0) 125 s, aW X (Q 1) 125 rd, aW X (Q 2) 625 kp, aW X (Q 3) 400 tx, aW X (Q 4) 8 wi, aW X (Q 5) 8 gi] (fun (z : Int) (_ : Unit) => z = eT s a) (fun (_ : Unit) => [mO h Q km ln sp rs, aW X (Q 0) 125 s, aW X (Q 1) 125 rd, aW X (Q 2) 625 kp, aW X (Q 3) 400 tx, aW X (Q 4) 8 wi, aW X (Q 5) 8 gi]) := by
  refine Ci.ofW (cc := cX6_enters) (maxL := 2) (by decide) rfl (Nat.le_of_ble_eq_true rfl) ?_
  intro p_ e_ s_ m_ below meth c_ A Q_ S hA hAM hH hS hret ls hl
  have hl : lv_has ls 2 [(0, .ref (h)), (1, .int (iI ((a : Nat) : Int)))] := hl
  have hk1 := hs.nr8
  have hk2 := hs.na20
  have hk3 := hs.ns10
  refine lv_aload_n S.1 S.2.1 dX6_enters_0 rfl (lv_at hl 0 rfl) ?_
  refine lv_aload_n S.1 S.2.1 dX6_enters_1 rfl (lv_at hl 0 rfl) ?_
  refine zv_get (v := .ref (Q 0)) S hAM hH nX6_enters_X6 0 rfl rfl 0 (by decide) mX6_enters_1 rfl rfl dX6_enters_2 ?_
  refine lv_bipush (v := iI (((45 : Nat) : Int))) S.1 S.2.1 dX6_enters_5 (by decide) ?_
  refine lv_iconst (v := iI (((4 : Nat) : Int))) S.1 S.2.1 dX6_enters_7 (by decide) ?_
  refine lv_iload_n S.1 S.2.1 dX6_enters_8 rfl (lv_at hl 1 rfl) ?_
  refine zv_imul (z := (((4 * a) : Nat) : Int)) S dX6_enters_9 (by omega) ?_
  refine zv_iadd (z := (((45 + (4 * a)) : Nat) : Int)) S dX6_enters_10 (by omega) ?_
  refine lv_iconst (v := iI (((1 : Nat) : Int))) S.1 S.2.1 dX6_enters_11 (by decide) ?_
  refine zv_iadd (z := ((((45 + (4 * a)) + 1) : Nat) : Int)) S dX6_enters_12 (by omega) ?_
  refine zv_iald S hAM hH 1 rfl (((45 + (4 * a)) + 1)) rfl (by omega) (by decide) dX6_enters_13 ?_
  refine zv_top (z := s ((45 + (4 * a)) + 1)) (z2 := ((sn s a : Nat) : Int)) (hs.snE a (by omega)) ?_
  refine zc_Vi (n := 1) (As := [.int (iI ((sn s a : Nat) : Int))]) (rest := []) S hAM hA (kX6_sceneStart l X h Q s rd kp km tx ln sp rs wi gi (sn s a) hs (by have := hs.sn10 a (by omega); omega)) rfl gX6_enters_X6_sceneStart  (by decide +kernel) ⟨Nat.le_of_ble_eq_true rfl, Nat.le_of_ble_eq_true rfl⟩ hH hS [0, 1, 2, 3, 4, 5, 6] rfl 7 rfl (List.Perm.refl _) 6 0 rfl rfl rfl hl.1 rfl (Nat.le_of_ble_eq_true rfl) dX6_enters_14 ⟨Nat.le_of_ble_eq_true rfl, Nat.le_of_ble_eq_true rfl⟩ (fun z2 _ H locs hp3 hH hS => ?_)
  have hH : Hold X A [mO h Q km ln sp rs, aW X (Q 0) 125 s, aW X (Q 1) 125 rd, aW X (Q 2) 625 kp, aW X (Q 3) 400 tx, aW X (Q 4) 8 wi, aW X (Q 5) 8 gi].flatten H := hH
  obtain rfl := hp3
  refine lv_aload_n S.1 S.2.1 dX6_enters_17 rfl (lv_at hl 0 rfl) ?_
  refine zv_get (v := .ref (Q 0)) S hAM hH nX6_enters_X6 0 rfl rfl 0 (by decide) mX6_enters_1 rfl rfl dX6_enters_18 ?_
  refine lv_bipush (v := iI (((45 : Nat) : Int))) S.1 S.2.1 dX6_enters_21 (by decide) ?_
  refine lv_iconst (v := iI (((4 : Nat) : Int))) S.1 S.2.1 dX6_enters_23 (by decide) ?_
  refine lv_iload_n S.1 S.2.1 dX6_enters_24 rfl (lv_at hl 1 rfl) ?_
  refine zv_imul (z := (((4 * a) : Nat) : Int)) S dX6_enters_25 (by omega) ?_
  refine zv_iadd (z := (((45 + (4 * a)) : Nat) : Int)) S dX6_enters_26 (by omega) ?_
  refine lv_iconst (v := iI (((2 : Nat) : Int))) S.1 S.2.1 dX6_enters_27 (by decide) ?_
  refine zv_iadd (z := ((((45 + (4 * a)) + 2) : Nat) : Int)) S dX6_enters_28 (by omega) ?_
  refine zv_iald S hAM hH 1 rfl (((45 + (4 * a)) + 2)) rfl (by omega) (by decide) dX6_enters_29 ?_
  refine zv_iadd (z := (st s (sn s a) + s ((45 + (4 * a)) + 2))) S dX6_enters_30 rfl ?_
  exact hret 31 ls _ _ ((st s (sn s a) + s ((45 + (4 * a)) + 2))) () dX6_enters_31 rfl rfl hH hS

theorem mX6_exits_1 : Cond.fieldLink RX6 7 "RoleDoublingPlannerModel" "s" "[I" ∈ wsX6_exits := List.mem_of_getElem? (i := 1) rfl
theorem nX6_exits_X6 : ∀ w ∈ wsX60, w ∈ wsX6_exits := fun _ h => List.mem_cons_of_mem _ (List.mem_append_right _ h)
set_option maxHeartbeats 4000000 in
set_option maxRecDepth 100000 in
theorem kX6_exits (l : Launch) (X : XT) (h : Nat) (Q : Nat → Nat) (s : Nat → Int) (rd : Nat → Int) (kp : Nat → Int) (km : Int) (tx : Nat → Int) (ln : Int) (sp : Int) (rs : Int) (wi : Nat → Int) (gi : Nat → Int) (a : Nat) (hs : okR s) (ha : a < 20) : Ci l yX6_exits wsX6_exits (rmD 2) X [.ref h, .int (iI ((a : Nat) : Int))] [mO h Q km ln sp rs, aW X (Q 0) 125 s, aW X (Q 1) 125 rd, aW X (Q 2) 625 kp, aW X (Q 3) 400 tx, aW X (Q 4) 8 wi, aW X (Q 5) 8 gi] (fun (z : Int) (_ : Unit) => z = xT s a) (fun (_ : Unit) => [mO h Q km ln sp rs, aW X (Q 0) 125 s, aW X (Q 1) 125 rd, aW X (Q 2) 625 kp, aW X (Q 3) 400 tx, aW X (Q 4) 8 wi, aW X (Q 5) 8 gi]) := by
  refine Ci.ofW (cc := cX6_exits) (maxL := 2) (by decide) rfl (Nat.le_of_ble_eq_true rfl) ?_
  intro p_ e_ s_ m_ below meth c_ A Q_ S hA hAM hH hS hret ls hl
  have hl : lv_has ls 2 [(0, .ref (h)), (1, .int (iI ((a : Nat) : Int)))] := hl
  have hk1 := hs.nr8
  have hk2 := hs.na20
  have hk3 := hs.ns10
  refine lv_aload_n S.1 S.2.1 dX6_exits_0 rfl (lv_at hl 0 rfl) ?_
  refine lv_aload_n S.1 S.2.1 dX6_exits_1 rfl (lv_at hl 0 rfl) ?_
  refine zv_get (v := .ref (Q 0)) S hAM hH nX6_exits_X6 0 rfl rfl 0 (by decide) mX6_exits_1 rfl rfl dX6_exits_2 ?_
  refine lv_bipush (v := iI (((45 : Nat) : Int))) S.1 S.2.1 dX6_exits_5 (by decide) ?_
  refine lv_iconst (v := iI (((4 : Nat) : Int))) S.1 S.2.1 dX6_exits_7 (by decide) ?_
  refine lv_iload_n S.1 S.2.1 dX6_exits_8 rfl (lv_at hl 1 rfl) ?_
  refine zv_imul (z := (((4 * a) : Nat) : Int)) S dX6_exits_9 (by omega) ?_
  refine zv_iadd (z := (((45 + (4 * a)) : Nat) : Int)) S dX6_exits_10 (by omega) ?_
  refine lv_iconst (v := iI (((1 : Nat) : Int))) S.1 S.2.1 dX6_exits_11 (by decide) ?_
  refine zv_iadd (z := ((((45 + (4 * a)) + 1) : Nat) : Int)) S dX6_exits_12 (by omega) ?_
  refine zv_iald S hAM hH 1 rfl (((45 + (4 * a)) + 1)) rfl (by omega) (by decide) dX6_exits_13 ?_
  refine zv_top (z := s ((45 + (4 * a)) + 1)) (z2 := ((sn s a : Nat) : Int)) (hs.snE a (by omega)) ?_
  refine zc_Vi (n := 1) (As := [.int (iI ((sn s a : Nat) : Int))]) (rest := []) S hAM hA (kX6_sceneStart l X h Q s rd kp km tx ln sp rs wi gi (sn s a) hs (by have := hs.sn10 a (by omega); omega)) rfl gX6_exits_X6_sceneStart  (by decide +kernel) ⟨Nat.le_of_ble_eq_true rfl, Nat.le_of_ble_eq_true rfl⟩ hH hS [0, 1, 2, 3, 4, 5, 6] rfl 7 rfl (List.Perm.refl _) 6 0 rfl rfl rfl hl.1 rfl (Nat.le_of_ble_eq_true rfl) dX6_exits_14 ⟨Nat.le_of_ble_eq_true rfl, Nat.le_of_ble_eq_true rfl⟩ (fun z2 _ H locs hp3 hH hS => ?_)
  have hH : Hold X A [mO h Q km ln sp rs, aW X (Q 0) 125 s, aW X (Q 1) 125 rd, aW X (Q 2) 625 kp, aW X (Q 3) 400 tx, aW X (Q 4) 8 wi, aW X (Q 5) 8 gi].flatten H := hH
  obtain rfl := hp3
  refine lv_aload_n S.1 S.2.1 dX6_exits_17 rfl (lv_at hl 0 rfl) ?_
  refine zv_get (v := .ref (Q 0)) S hAM hH nX6_exits_X6 0 rfl rfl 0 (by decide) mX6_exits_1 rfl rfl dX6_exits_18 ?_
  refine lv_bipush (v := iI (((45 : Nat) : Int))) S.1 S.2.1 dX6_exits_21 (by decide) ?_
  refine lv_iconst (v := iI (((4 : Nat) : Int))) S.1 S.2.1 dX6_exits_23 (by decide) ?_
  refine lv_iload_n S.1 S.2.1 dX6_exits_24 rfl (lv_at hl 1 rfl) ?_
  refine zv_imul (z := (((4 * a) : Nat) : Int)) S dX6_exits_25 (by omega) ?_
  refine zv_iadd (z := (((45 + (4 * a)) : Nat) : Int)) S dX6_exits_26 (by omega) ?_
  refine lv_iconst (v := iI (((3 : Nat) : Int))) S.1 S.2.1 dX6_exits_27 (by decide) ?_
  refine zv_iadd (z := ((((45 + (4 * a)) + 3) : Nat) : Int)) S dX6_exits_28 (by omega) ?_
  refine zv_iald S hAM hH 1 rfl (((45 + (4 * a)) + 3)) rfl (by omega) (by decide) dX6_exits_29 ?_
  refine zv_iadd (z := (st s (sn s a) + s ((45 + (4 * a)) + 3))) S dX6_exits_30 rfl ?_
  exact hret 31 ls _ _ ((st s (sn s a) + s ((45 + (4 * a)) + 3))) () dX6_exits_31 rfl rfl hH hS

theorem mX6_rolesAt_1 : Cond.fieldLink RX6 7 "RoleDoublingPlannerModel" "s" "[I" ∈ wsX6_rolesAt := List.mem_of_getElem? (i := 1) rfl
theorem nX6_rolesAt_X6 : ∀ w ∈ wsX60, w ∈ wsX6_rolesAt := fun _ h => List.mem_cons_of_mem _ (List.mem_append_right _ h)
set_option maxHeartbeats 4000000 in
set_option maxRecDepth 100000 in
theorem kX6_rolesAt (l : Launch) (X : XT) (h : Nat) (Q : Nat → Nat) (s : Nat → Int) (rd : Nat → Int) (kp : Nat → Int) (km : Int) (tx : Nat → Int) (ln : Int) (sp : Int) (rs : Int) (wi : Nat → Int) (gi : Nat → Int) (t : Int) (hs : okR s) (ht : inR t) : Ci l yX6_rolesAt wsX6_rolesAt (rmD 3) X [.ref h, .int (iI (t))] [mO h Q km ln sp rs, aW X (Q 0) 125 s, aW X (Q 1) 125 rd, aW X (Q 2) 625 kp, aW X (Q 3) 400 tx, aW X (Q 4) 8 wi, aW X (Q 5) 8 gi] (fun (z : Int) (_ : Unit) => z = ((ra s t (na s) : Nat) : Int)) (fun (_ : Unit) => [mO h Q km ln sp rs, aW X (Q 0) 125 s, aW X (Q 1) 125 rd, aW X (Q 2) 625 kp, aW X (Q 3) 400 tx, aW X (Q 4) 8 wi, aW X (Q 5) 8 gi]) := by
  refine Ci.ofW (cc := cX6_rolesAt) (maxL := 4) (by decide) rfl (Nat.le_of_ble_eq_true rfl) ?_
  intro p_ e_ s_ m_ below meth c_ A Q_ S hA hAM hH hS hret ls hl
  have hl : lv_has ls 4 [(0, .ref (h)), (1, .int (iI (t)))] := hl
  have hk1 := hs.nr8
  have hk2 := hs.na20
  have hk3 := hs.ns10
  refine lv_iconst (v := iI (((0 : Nat) : Int))) S.1 S.2.1 dX6_rolesAt_0 (by decide) ?_
  refine lv_istore_n (lv' := [(2, .int (iI ((0 : Nat) : Int))), (0, .ref (h)), (1, .int (iI (t)))]) S.1 S.2.1 dX6_rolesAt_1 rfl hl (by decide) rfl (fun ls hl => ?_)
  refine lv_iconst (v := iI (((0 : Nat) : Int))) S.1 S.2.1 dX6_rolesAt_2 (by decide) ?_
  refine lv_istore_n (lv' := [(3, .int (iI ((0 : Nat) : Int))), (2, .int (iI ((0 : Nat) : Int))), (0, .ref (h)), (1, .int (iI (t)))]) S.1 S.2.1 dX6_rolesAt_3 rfl hl (by decide) rfl (fun ls hl => ?_)
  have lp4 : ∀ (n : Nat) (a : Nat) (set : Nat), na s - a < n → (a ≤ na s) → (set = ra s t a) → ∀ (H : Heap) (locs : List Loc), Hold X A [mO h Q km ln sp rs, aW X (Q 0) 125 s, aW X (Q 1) 125 rd, aW X (Q 2) 625 kp, aW X (Q 3) 400 tx, aW X (Q 4) 8 wi, aW X (Q 5) 8 gi].flatten H → va_S A s_.heap H locs → ∀ ls : Array Slot, lv_has ls 4 [(3, .int (iI ((a : Nat) : Int))), (2, .int (iI ((set : Nat) : Int))), (0, .ref (h)), (1, .int (iI (t)))] → W p_ l e_ (rmD 3) s_ m_ (List.toArray [.ref (h), .int (iI (t))]) below meth c_ H locs 0 0 Q_ (F0 m_ 4 ls []) := by
    intro n
    induction n with
    | zero => intro a set hmu hi hset H locs hH hS ls hl; exact absurd hmu (Nat.not_lt_zero _)
    | succ n ih4 => 
      intro a set hmu hi hset H locs hH hS ls hl
      refine lv_iload_n S.1 S.2.1 dX6_rolesAt_4 rfl (lv_at hl 0 rfl) ?_
      refine lv_aload_n S.1 S.2.1 dX6_rolesAt_5 rfl (lv_at hl 2 rfl) ?_
      refine zv_get (v := .ref (Q 0)) S hAM hH nX6_rolesAt_X6 0 rfl rfl 0 (by decide) mX6_rolesAt_1 rfl rfl dX6_rolesAt_6 ?_
      refine lv_bipush (v := iI (((44 : Nat) : Int))) S.1 S.2.1 dX6_rolesAt_9 (by decide) ?_
      refine zv_iald S hAM hH 1 rfl (44) rfl (by decide) (by decide) dX6_rolesAt_11 ?_
      refine zv_top (z := s 44) (z2 := ((na s : Nat) : Int)) hs.e44 ?_
      refine zv_icmp_ge (tgt := 53) S dX6_rolesAt_12 (by decide) (by omega) (by omega) (fun c_12 => ?_) (fun c_12 => ?_)
      · skip
        refine lv_iload_n S.1 S.2.1 dX6_rolesAt_53 rfl (lv_at hl 1 rfl) ?_
        exact hret 54 ls _ _ (((set : Nat) : Int)) () dX6_rolesAt_54 rfl (by have e9 : a = na s := (by omega); rw [hset, e9]) hH hS
      · skip
        refine lv_iload_n S.1 S.2.1 dX6_rolesAt_15 rfl (lv_at hl 1 rfl) ?_
        refine lv_aload_n S.1 S.2.1 dX6_rolesAt_16 rfl (lv_at hl 2 rfl) ?_
        refine lv_iload_n S.1 S.2.1 dX6_rolesAt_17 rfl (lv_at hl 0 rfl) ?_
        refine zc_Vi (n := 1) (As := [.int (iI ((a : Nat) : Int))]) (rest := [.int (iI ((set : Nat) : Int))]) S hAM hA (kX6_enters l X h Q s rd kp km tx ln sp rs wi gi a hs (by omega)) rfl gX6_rolesAt_X6_enters  (by decide +kernel) ⟨Nat.le_of_ble_eq_true rfl, Nat.le_of_ble_eq_true rfl⟩ hH hS [0, 1, 2, 3, 4, 5, 6] rfl 7 rfl (List.Perm.refl _) 6 0 rfl rfl rfl hl.1 rfl (Nat.le_of_ble_eq_true rfl) dX6_rolesAt_18 ⟨Nat.le_of_ble_eq_true rfl, Nat.le_of_ble_eq_true rfl⟩ (fun z2 _ H locs hp3 hH hS => ?_)
        have hH : Hold X A [mO h Q km ln sp rs, aW X (Q 0) 125 s, aW X (Q 1) 125 rd, aW X (Q 2) 625 kp, aW X (Q 3) 400 tx, aW X (Q 4) 8 wi, aW X (Q 5) 8 gi].flatten H := hH
        obtain rfl := hp3
        refine lv_iload_n S.1 S.2.1 dX6_rolesAt_21 rfl (lv_at hl 3 rfl) ?_
        refine zv_icmp_gt (tgt := 44) S dX6_rolesAt_22 (by decide) (hs.eTR _ (by omega)) (by omega) (fun c_22 => ?_) (fun c_22 => ?_)
        · skip
          refine lv_iconst (v := iI (((0 : Nat) : Int))) S.1 S.2.1 dX6_rolesAt_44 (by decide) ?_
          refine zv_ior (z := ((set : Nat) : Int)) S dX6_rolesAt_45 (by rw [iI_or, Nat.or_zero]) ?_
          refine lv_istore_n (lv' := [(2, .int (iI ((set : Nat) : Int))), (3, .int (iI ((a : Nat) : Int))), (0, .ref (h)), (1, .int (iI (t)))]) S.1 S.2.1 dX6_rolesAt_46 rfl hl (by decide) rfl (fun ls hl => ?_)
          refine zv_iinc (z := (((a + 1) : Nat) : Int)) (lv' := [(3, .int (iI (((a + 1) : Nat) : Int))), (2, .int (iI ((set : Nat) : Int))), (0, .ref (h)), (1, .int (iI (t)))]) S dX6_rolesAt_47 hl (k := 1) rfl (by omega) (by decide) rfl (fun ls hl => ?_)
          refine lv_goto (tgt := 4) S.1 S.2.1 dX6_rolesAt_50 (by decide) ?_
          exact ih4  ((a + 1)) (set) (by omega) (by omega) (by rw [ra]; split <;> first | (rw [hset]; done) | (exfalso; omega)) _ _ hH hS ls (lv_sub hl [0, 1, 2, 3] rfl)
        · skip
          refine lv_iload_n S.1 S.2.1 dX6_rolesAt_25 rfl (lv_at hl 3 rfl) ?_
          refine lv_aload_n S.1 S.2.1 dX6_rolesAt_26 rfl (lv_at hl 2 rfl) ?_
          refine lv_iload_n S.1 S.2.1 dX6_rolesAt_27 rfl (lv_at hl 0 rfl) ?_
          refine zc_Vi (n := 1) (As := [.int (iI ((a : Nat) : Int))]) (rest := [.int (iI (t)), .int (iI ((set : Nat) : Int))]) S hAM hA (kX6_exits l X h Q s rd kp km tx ln sp rs wi gi a hs (by omega)) rfl gX6_rolesAt_X6_exits  (by decide +kernel) ⟨Nat.le_of_ble_eq_true rfl, Nat.le_of_ble_eq_true rfl⟩ hH hS [0, 1, 2, 3, 4, 5, 6] rfl 7 rfl (List.Perm.refl _) 6 0 rfl rfl rfl hl.1 rfl (Nat.le_of_ble_eq_true rfl) dX6_rolesAt_28 ⟨Nat.le_of_ble_eq_true rfl, Nat.le_of_ble_eq_true rfl⟩ (fun z5 _ H locs hp6 hH hS => ?_)
          have hH : Hold X A [mO h Q km ln sp rs, aW X (Q 0) 125 s, aW X (Q 1) 125 rd, aW X (Q 2) 625 kp, aW X (Q 3) 400 tx, aW X (Q 4) 8 wi, aW X (Q 5) 8 gi].flatten H := hH
          obtain rfl := hp6
          refine zv_icmp_ge (tgt := 44) S dX6_rolesAt_31 (by decide) (by omega) (hs.xTR _ (by omega)) (fun c_31 => ?_) (fun c_31 => ?_)
          · skip
            refine lv_iconst (v := iI (((0 : Nat) : Int))) S.1 S.2.1 dX6_rolesAt_44 (by decide) ?_
            refine zv_ior (z := ((set : Nat) : Int)) S dX6_rolesAt_45 (by rw [iI_or, Nat.or_zero]) ?_
            refine lv_istore_n (lv' := [(2, .int (iI ((set : Nat) : Int))), (3, .int (iI ((a : Nat) : Int))), (0, .ref (h)), (1, .int (iI (t)))]) S.1 S.2.1 dX6_rolesAt_46 rfl hl (by decide) rfl (fun ls hl => ?_)
            refine zv_iinc (z := (((a + 1) : Nat) : Int)) (lv' := [(3, .int (iI (((a + 1) : Nat) : Int))), (2, .int (iI ((set : Nat) : Int))), (0, .ref (h)), (1, .int (iI (t)))]) S dX6_rolesAt_47 hl (k := 1) rfl (by omega) (by decide) rfl (fun ls hl => ?_)
            refine lv_goto (tgt := 4) S.1 S.2.1 dX6_rolesAt_50 (by decide) ?_
            exact ih4  ((a + 1)) (set) (by omega) (by omega) (by rw [ra]; split <;> first | (rw [hset]; done) | (exfalso; omega)) _ _ hH hS ls (lv_sub hl [0, 1, 2, 3] rfl)
          · skip
            refine lv_iconst (v := iI (((1 : Nat) : Int))) S.1 S.2.1 dX6_rolesAt_34 (by decide) ?_
            refine lv_aload_n S.1 S.2.1 dX6_rolesAt_35 rfl (lv_at hl 2 rfl) ?_
            refine lv_iload_n S.1 S.2.1 dX6_rolesAt_36 rfl (lv_at hl 0 rfl) ?_
            refine zc_Vi (n := 1) (As := [.int (iI ((a : Nat) : Int))]) (rest := [.int (iI ((1 : Nat) : Int)), .int (iI ((set : Nat) : Int))]) S hAM hA (kX6_roleOf l X h Q s rd kp km tx ln sp rs wi gi a hs (by omega)) rfl gX6_rolesAt_X6_roleOf  (by decide +kernel) ⟨Nat.le_of_ble_eq_true rfl, Nat.le_of_ble_eq_true rfl⟩ hH hS [0, 1, 2, 3, 4, 5, 6] rfl 7 rfl (List.Perm.refl _) 6 0 rfl rfl rfl hl.1 rfl (Nat.le_of_ble_eq_true rfl) dX6_rolesAt_37 ⟨Nat.le_of_ble_eq_true rfl, Nat.le_of_ble_eq_true rfl⟩ (fun z8 _ H locs hp9 hH hS => ?_)
            have hH : Hold X A [mO h Q km ln sp rs, aW X (Q 0) 125 s, aW X (Q 1) 125 rd, aW X (Q 2) 625 kp, aW X (Q 3) 400 tx, aW X (Q 4) 8 wi, aW X (Q 5) 8 gi].flatten H := hH
            obtain rfl := hp9
            refine zv_ishl (z := (((2 ^ (rl s a)) : Nat) : Int)) S dX6_rolesAt_40 (iI_shl1 _ (by have := hs.rl8 a (by omega); omega)) ?_
            refine lv_goto (tgt := 45) S.1 S.2.1 dX6_rolesAt_41 (by decide) ?_
            refine zv_ior (z := (((set ||| (2 ^ (rl s a))) : Nat) : Int)) S dX6_rolesAt_45 (iI_or _ _) ?_
            refine lv_istore_n (lv' := [(2, .int (iI (((set ||| (2 ^ (rl s a))) : Nat) : Int))), (3, .int (iI ((a : Nat) : Int))), (0, .ref (h)), (1, .int (iI (t)))]) S.1 S.2.1 dX6_rolesAt_46 rfl hl (by decide) rfl (fun ls hl => ?_)
            refine zv_iinc (z := (((a + 1) : Nat) : Int)) (lv' := [(3, .int (iI (((a + 1) : Nat) : Int))), (2, .int (iI (((set ||| (2 ^ (rl s a))) : Nat) : Int))), (0, .ref (h)), (1, .int (iI (t)))]) S dX6_rolesAt_47 hl (k := 1) rfl (by omega) (by decide) rfl (fun ls hl => ?_)
            refine lv_goto (tgt := 4) S.1 S.2.1 dX6_rolesAt_50 (by decide) ?_
            exact ih4  ((a + 1)) ((set ||| (2 ^ (rl s a)))) (by omega) (by omega) (by rw [ra]; split <;> first | (rw [hset]; done) | (exfalso; omega)) _ _ hH hS ls (lv_sub hl [0, 1, 2, 3] rfl)
  exact lp4 (na s - (0) + 1) (0) (0) (Nat.lt_succ_self _) (Nat.zero_le _) rfl _ _ hH hS ls (lv_sub hl [0, 1, 2, 3] rfl)

theorem mX6_castBy_1 : Cond.fieldLink RX6 7 "RoleDoublingPlannerModel" "s" "[I" ∈ wsX6_castBy := List.mem_of_getElem? (i := 1) rfl
theorem nX6_castBy_X6 : ∀ w ∈ wsX60, w ∈ wsX6_castBy := fun _ h => List.mem_cons_of_mem _ (List.mem_append_right _ h)
set_option maxHeartbeats 4000000 in
set_option maxRecDepth 100000 in
theorem kX6_castBy (l : Launch) (X : XT) (h : Nat) (Q : Nat → Nat) (s : Nat → Int) (rd : Nat → Int) (kp : Nat → Int) (km : Int) (tx : Nat → Int) (ln : Int) (sp : Int) (rs : Int) (wi : Nat → Int) (gi : Nat → Int) (x : Int) (hs : okR s) (hx : inR x) : Ci l yX6_castBy wsX6_castBy (rmD 1) X [.ref h, .int (iI (x))] [mO h Q km ln sp rs, aW X (Q 0) 125 s, aW X (Q 1) 125 rd, aW X (Q 2) 625 kp, aW X (Q 3) 400 tx, aW X (Q 4) 8 wi, aW X (Q 5) 8 gi] (fun (z : Int) (_ : Unit) => z = ((cb s x (nr s) : Nat) : Int)) (fun (_ : Unit) => [mO h Q km ln sp rs, aW X (Q 0) 125 s, aW X (Q 1) 125 rd, aW X (Q 2) 625 kp, aW X (Q 3) 400 tx, aW X (Q 4) 8 wi, aW X (Q 5) 8 gi]) := by
  refine Ci.ofW (cc := cX6_castBy) (maxL := 4) (by decide) rfl (Nat.le_of_ble_eq_true rfl) ?_
  intro p_ e_ s_ m_ below meth c_ A Q_ S hA hAM hH hS hret ls hl
  have hl : lv_has ls 4 [(0, .ref (h)), (1, .int (iI (x)))] := hl
  have hk1 := hs.nr8
  have hk2 := hs.na20
  have hk3 := hs.ns10
  refine lv_iconst (v := iI (((0 : Nat) : Int))) S.1 S.2.1 dX6_castBy_0 (by decide) ?_
  refine lv_istore_n (lv' := [(2, .int (iI ((0 : Nat) : Int))), (0, .ref (h)), (1, .int (iI (x)))]) S.1 S.2.1 dX6_castBy_1 rfl hl (by decide) rfl (fun ls hl => ?_)
  refine lv_iconst (v := iI (((0 : Nat) : Int))) S.1 S.2.1 dX6_castBy_2 (by decide) ?_
  refine lv_istore_n (lv' := [(3, .int (iI ((0 : Nat) : Int))), (2, .int (iI ((0 : Nat) : Int))), (0, .ref (h)), (1, .int (iI (x)))]) S.1 S.2.1 dX6_castBy_3 rfl hl (by decide) rfl (fun ls hl => ?_)
  have lp4 : ∀ (n : Nat) (r : Nat) (set : Nat), nr s - r < n → (r ≤ nr s) → (set = cb s x r) → ∀ (H : Heap) (locs : List Loc), Hold X A [mO h Q km ln sp rs, aW X (Q 0) 125 s, aW X (Q 1) 125 rd, aW X (Q 2) 625 kp, aW X (Q 3) 400 tx, aW X (Q 4) 8 wi, aW X (Q 5) 8 gi].flatten H → va_S A s_.heap H locs → ∀ ls : Array Slot, lv_has ls 4 [(3, .int (iI ((r : Nat) : Int))), (2, .int (iI ((set : Nat) : Int))), (0, .ref (h)), (1, .int (iI (x)))] → W p_ l e_ (rmD 1) s_ m_ (List.toArray [.ref (h), .int (iI (x))]) below meth c_ H locs 0 0 Q_ (F0 m_ 4 ls []) := by
    intro n
    induction n with
    | zero => intro r set hmu hi hset H locs hH hS ls hl; exact absurd hmu (Nat.not_lt_zero _)
    | succ n ih4 => 
      intro r set hmu hi hset H locs hH hS ls hl
      refine lv_iload_n S.1 S.2.1 dX6_castBy_4 rfl (lv_at hl 0 rfl) ?_
      refine lv_aload_n S.1 S.2.1 dX6_castBy_5 rfl (lv_at hl 2 rfl) ?_
      refine zv_get (v := .ref (Q 0)) S hAM hH nX6_castBy_X6 0 rfl rfl 0 (by decide) mX6_castBy_1 rfl rfl dX6_castBy_6 ?_
      refine lv_bipush (v := iI (((11 : Nat) : Int))) S.1 S.2.1 dX6_castBy_9 (by decide) ?_
      refine zv_iald S hAM hH 1 rfl (11) rfl (by decide) (by decide) dX6_castBy_11 ?_
      refine zv_top (z := s 11) (z2 := ((nr s : Nat) : Int)) hs.e11 ?_
      refine zv_icmp_ge (tgt := 44) S dX6_castBy_12 (by decide) (by omega) (by omega) (fun c_12 => ?_) (fun c_12 => ?_)
      · skip
        refine lv_iload_n S.1 S.2.1 dX6_castBy_44 rfl (lv_at hl 1 rfl) ?_
        exact hret 45 ls _ _ (((set : Nat) : Int)) () dX6_castBy_45 rfl (by have e9 : r = nr s := (by omega); rw [hset, e9]) hH hS
      · skip
        refine lv_iload_n S.1 S.2.1 dX6_castBy_15 rfl (lv_at hl 1 rfl) ?_
        refine lv_aload_n S.1 S.2.1 dX6_castBy_16 rfl (lv_at hl 2 rfl) ?_
        refine zv_get (v := .ref (Q 0)) S hAM hH nX6_castBy_X6 0 rfl rfl 0 (by decide) mX6_castBy_1 rfl rfl dX6_castBy_17 ?_
        refine lv_bipush (v := iI (((36 : Nat) : Int))) S.1 S.2.1 dX6_castBy_20 (by decide) ?_
        refine lv_iload_n S.1 S.2.1 dX6_castBy_22 rfl (lv_at hl 0 rfl) ?_
        refine zv_iadd (z := (((36 + r) : Nat) : Int)) S dX6_castBy_23 (by omega) ?_
        refine zv_iald S hAM hH 1 rfl ((36 + r)) rfl (by omega) (by decide) dX6_castBy_24 ?_
        refine lv_iload_n S.1 S.2.1 dX6_castBy_25 rfl (lv_at hl 3 rfl) ?_
        refine zv_icmp_ne (tgt := 35) S dX6_castBy_26 (by decide) (hs.inRk _ (by omega)) (by omega) (fun c_26 => ?_) (fun c_26 => ?_)
        · skip
          refine lv_iconst (v := iI (((0 : Nat) : Int))) S.1 S.2.1 dX6_castBy_35 (by decide) ?_
          refine zv_ior (z := ((set : Nat) : Int)) S dX6_castBy_36 (by rw [iI_or, Nat.or_zero]) ?_
          refine lv_istore_n (lv' := [(2, .int (iI ((set : Nat) : Int))), (3, .int (iI ((r : Nat) : Int))), (0, .ref (h)), (1, .int (iI (x)))]) S.1 S.2.1 dX6_castBy_37 rfl hl (by decide) rfl (fun ls hl => ?_)
          refine zv_iinc (z := (((r + 1) : Nat) : Int)) (lv' := [(3, .int (iI (((r + 1) : Nat) : Int))), (2, .int (iI ((set : Nat) : Int))), (0, .ref (h)), (1, .int (iI (x)))]) S dX6_castBy_38 hl (k := 1) rfl (by omega) (by decide) rfl (fun ls hl => ?_)
          refine lv_goto (tgt := 4) S.1 S.2.1 dX6_castBy_41 (by decide) ?_
          exact ih4  ((r + 1)) (set) (by omega) (by omega) (by rw [cb]; split <;> first | (rw [hset]; done) | (exfalso; omega)) _ _ hH hS ls (lv_sub hl [0, 1, 2, 3] rfl)
        · skip
          refine lv_iconst (v := iI (((1 : Nat) : Int))) S.1 S.2.1 dX6_castBy_29 (by decide) ?_
          refine lv_iload_n S.1 S.2.1 dX6_castBy_30 rfl (lv_at hl 0 rfl) ?_
          refine zv_ishl (z := (((2 ^ r) : Nat) : Int)) S dX6_castBy_31 (iI_shl1 _ (by omega)) ?_
          refine lv_goto (tgt := 36) S.1 S.2.1 dX6_castBy_32 (by decide) ?_
          refine zv_ior (z := (((set ||| (2 ^ r)) : Nat) : Int)) S dX6_castBy_36 (iI_or _ _) ?_
          refine lv_istore_n (lv' := [(2, .int (iI (((set ||| (2 ^ r)) : Nat) : Int))), (3, .int (iI ((r : Nat) : Int))), (0, .ref (h)), (1, .int (iI (x)))]) S.1 S.2.1 dX6_castBy_37 rfl hl (by decide) rfl (fun ls hl => ?_)
          refine zv_iinc (z := (((r + 1) : Nat) : Int)) (lv' := [(3, .int (iI (((r + 1) : Nat) : Int))), (2, .int (iI (((set ||| (2 ^ r)) : Nat) : Int))), (0, .ref (h)), (1, .int (iI (x)))]) S dX6_castBy_38 hl (k := 1) rfl (by omega) (by decide) rfl (fun ls hl => ?_)
          refine lv_goto (tgt := 4) S.1 S.2.1 dX6_castBy_41 (by decide) ?_
          exact ih4  ((r + 1)) ((set ||| (2 ^ r))) (by omega) (by omega) (by rw [cb]; split <;> first | (rw [hset]; done) | (exfalso; omega)) _ _ hH hS ls (lv_sub hl [0, 1, 2, 3] rfl)
  exact lp4 (nr s - (0) + 1) (0) (0) (Nat.lt_succ_self _) (Nat.zero_le _) rfl _ _ hH hS ls (lv_sub hl [0, 1, 2, 3] rfl)

set_option maxHeartbeats 4000000 in
set_option maxRecDepth 100000 in
theorem kX6_ones (l : Launch) (X : XT) (n0 : Nat) (hn : n0 < 256) : Ci l yX6_ones wsX6_ones (rmD 1) X [.int (iI ((n0 : Nat) : Int))] [] (fun (z : Int) (_ : Unit) => z = ((pop n0 : Nat) : Int)) (fun (_ : Unit) => []) := by
  refine Ci.ofW (cc := cX6_ones) (maxL := 3) (by decide) rfl (Nat.le_of_ble_eq_true rfl) ?_
  intro p_ e_ s_ m_ below meth c_ A Q_ S hA hAM hH hS hret ls hl
  have hl : lv_has ls 3 [(0, .int (iI ((n0 : Nat) : Int)))] := hl
  refine lv_iconst (v := iI (((0 : Nat) : Int))) S.1 S.2.1 dX6_ones_0 (by decide) ?_
  refine lv_istore_n (lv' := [(1, .int (iI ((0 : Nat) : Int))), (0, .int (iI ((n0 : Nat) : Int)))]) S.1 S.2.1 dX6_ones_1 rfl hl (by decide) rfl (fun ls hl => ?_)
  refine lv_iload_n S.1 S.2.1 dX6_ones_2 rfl (lv_at hl 1 rfl) ?_
  refine lv_istore_n (lv' := [(2, .int (iI ((n0 : Nat) : Int))), (1, .int (iI ((0 : Nat) : Int))), (0, .int (iI ((n0 : Nat) : Int)))]) S.1 S.2.1 dX6_ones_3 rfl hl (by decide) rfl (fun ls hl => ?_)
  have lp4 : ∀ (n : Nat) (cnt : Nat) (left : Nat), left < n → (cnt + pop left = pop n0) → (left < 256) → (cnt ≤ 8) → ∀ (H : Heap) (locs : List Loc), Hold X A [].flatten H → va_S A s_.heap H locs → ∀ ls : Array Slot, lv_has ls 3 [(2, .int (iI ((left : Nat) : Int))), (1, .int (iI ((cnt : Nat) : Int))), (0, .int (iI ((n0 : Nat) : Int)))] → W p_ l e_ (rmD 1) s_ m_ (List.toArray [.int (iI ((n0 : Nat) : Int))]) below meth c_ H locs 0 0 Q_ (F0 m_ 4 ls []) := by
    intro n
    induction n with
    | zero => intro cnt left hmu hc hl2 hcnt H locs hH hS ls hl; exact absurd hmu (Nat.not_lt_zero _)
    | succ n ih4 => 
      intro cnt left hmu hc hl2 hcnt H locs hH hS ls hl
      refine lv_iload_n S.1 S.2.1 dX6_ones_4 rfl (lv_at hl 0 rfl) ?_
      refine zv_if_eq (tgt := 20) S dX6_ones_5 (by decide) (by omega) (fun c_5 => ?_) (fun c_5 => ?_)
      · skip
        refine lv_iload_n S.1 S.2.1 dX6_ones_20 rfl (lv_at hl 1 rfl) ?_
        exact hret 21 ls _ _ (((cnt : Nat) : Int)) () dX6_ones_21 rfl (by have hl0 : left = 0 := (by omega); rw [hl0] at hc; rw [← hc]; rfl) hH hS
      · skip
        have hp2 := pop_s left (by omega) (by omega)
        refine zv_iinc (z := (((cnt + 1) : Nat) : Int)) (lv' := [(1, .int (iI (((cnt + 1) : Nat) : Int))), (2, .int (iI ((left : Nat) : Int))), (0, .int (iI ((n0 : Nat) : Int)))]) S dX6_ones_8 hl (k := 1) rfl (by omega) (by decide) rfl (fun ls hl => ?_)
        refine lv_iload_n S.1 S.2.1 dX6_ones_11 rfl (lv_at hl 1 rfl) ?_
        refine lv_iload_n S.1 S.2.1 dX6_ones_12 rfl (lv_at hl 1 rfl) ?_
        refine lv_iconst (v := iI (((1 : Nat) : Int))) S.1 S.2.1 dX6_ones_13 (by decide) ?_
        refine zv_isub (z := (((left - 1) : Nat) : Int)) S dX6_ones_14 (by omega) ?_
        refine zv_iand (z := (((left &&& (left - 1)) : Nat) : Int)) S dX6_ones_15 (iI_and _ _) ?_
        refine lv_istore_n (lv' := [(2, .int (iI (((left &&& (left - 1)) : Nat) : Int))), (1, .int (iI (((cnt + 1) : Nat) : Int))), (0, .int (iI ((n0 : Nat) : Int)))]) S.1 S.2.1 dX6_ones_16 rfl hl (by decide) rfl (fun ls hl => ?_)
        refine lv_goto (tgt := 4) S.1 S.2.1 dX6_ones_17 (by decide) ?_
        exact ih4  ((cnt + 1)) ((left &&& (left - 1))) (by omega) (by omega) (by omega) (by have := pop_8 n0 hn; omega) _ _ hH hS ls (lv_sub hl [0, 1, 2] rfl)
  exact lp4 ((n0) + 1) (0) (n0) (Nat.lt_succ_self _) (Nat.zero_add _) hn (by omega) _ _ hH hS ls (lv_sub hl [0, 1, 2] rfl)

set_option maxHeartbeats 4000000 in
set_option maxRecDepth 100000 in
theorem kX6_onStage (l : Launch) (X : XT) (h : Nat) (Q : Nat → Nat) (s : Nat → Int) (rd : Nat → Int) (kp : Nat → Int) (km : Int) (tx : Nat → Int) (ln : Int) (sp : Int) (rs : Int) (wi : Nat → Int) (gi : Nat → Int) (t : Int) (hs : okR s) (ht : inR t) : Ci l yX6_onStage wsX6_onStage (rmD 4) X [.ref h, .int (iI (t))] [mO h Q km ln sp rs, aW X (Q 0) 125 s, aW X (Q 1) 125 rd, aW X (Q 2) 625 kp, aW X (Q 3) 400 tx, aW X (Q 4) 8 wi, aW X (Q 5) 8 gi] (fun (z : Int) (_ : Unit) => z = (if 0 ≤ t ∧ t < st s (ns s) then ((ra s t (na s) : Nat) : Int) else -1001)) (fun (_ : Unit) => [mO h Q km ln sp rs, aW X (Q 0) 125 s, aW X (Q 1) 125 rd, aW X (Q 2) 625 kp, aW X (Q 3) 400 tx, aW X (Q 4) 8 wi, aW X (Q 5) 8 gi]) := by
  refine Ci.ofW (cc := cX6_onStage) (maxL := 2) (by decide) rfl (Nat.le_of_ble_eq_true rfl) ?_
  intro p_ e_ s_ m_ below meth c_ A Q_ S hA hAM hH hS hret ls hl
  have hl : lv_has ls 2 [(0, .ref (h)), (1, .int (iI (t)))] := hl
  have hk1 := hs.nr8
  have hk2 := hs.na20
  have hk3 := hs.ns10
  have hk4 := hs.stB (ns s) hk3
  refine lv_iload_n S.1 S.2.1 dX6_onStage_0 rfl (lv_at hl 1 rfl) ?_
  refine lv_i2l (v := lI (t)) S.1 S.2.1 dX6_onStage_1 (lI_i (by omega)) ?_
  refine lv_lconst (v := lI (0)) S.1 S.2.1 dX6_onStage_2 (by decide) ?_
  refine lv_aload_n S.1 S.2.1 dX6_onStage_3 rfl (lv_at hl 0 rfl) ?_
  refine zc_Vi (n := 0) (As := []) (rest := [.long (lI (0)), .long (lI (t))]) S hAM hA (kX6_playLength l X h Q s rd kp km tx ln sp rs wi gi hs) rfl gX6_onStage_X6_playLength  (by decide +kernel) ⟨Nat.le_of_ble_eq_true rfl, Nat.le_of_ble_eq_true rfl⟩ hH hS [0, 1, 2, 3, 4, 5, 6] rfl 7 rfl (List.Perm.refl _) 6 0 rfl rfl rfl hl.1 rfl (Nat.le_of_ble_eq_true rfl) dX6_onStage_4 ⟨Nat.le_of_ble_eq_true rfl, Nat.le_of_ble_eq_true rfl⟩ (fun z2 _ H locs hp3 hH hS => ?_)
  have hH : Hold X A [mO h Q km ln sp rs, aW X (Q 0) 125 s, aW X (Q 1) 125 rd, aW X (Q 2) 625 kp, aW X (Q 3) 400 tx, aW X (Q 4) 8 wi, aW X (Q 5) 8 gi].flatten H := hH
  obtain rfl := hp3
  refine lv_iconst (v := iI (((1 : Nat) : Int))) S.1 S.2.1 dX6_onStage_7 (by decide) ?_
  refine zv_isub (z := (st s (ns s) - ((1 : Nat) : Int))) S dX6_onStage_8 rfl ?_
  refine lv_i2l (v := lI ((st s (ns s) - ((1 : Nat) : Int)))) S.1 S.2.1 dX6_onStage_9 (lI_i (by omega)) ?_
  refine zc_Si (n := 3) (As := [.long (lI (t)), .long (lI (0)), .long (lI ((st s (ns s) - ((1 : Nat) : Int))))]) (rest := []) S hAM hA (kX6_in l X t 0 (st s (ns s) - ((1 : Nat) : Int)) (by omega) (by omega) (by omega)) rfl gX6_onStage_X6_in  (by decide +kernel) ⟨Nat.le_of_ble_eq_true rfl, Nat.le_of_ble_eq_true rfl⟩ hH hS [0, 1, 2, 3, 4, 5, 6] rfl 7 rfl (List.Perm.refl _)  rfl hl.1 rfl (Nat.le_of_ble_eq_true rfl) dX6_onStage_10 ⟨Nat.le_of_ble_eq_true rfl, Nat.le_of_ble_eq_true rfl⟩ (fun z5 _ H locs hp6 hH hS => ?_)
  have hH : Hold X A [mO h Q km ln sp rs, aW X (Q 0) 125 s, aW X (Q 1) 125 rd, aW X (Q 2) 625 kp, aW X (Q 3) 400 tx, aW X (Q 4) 8 wi, aW X (Q 5) 8 gi].flatten H := hH
  rcases hp6 with ⟨rfl, b_10⟩ | ⟨rfl, b_10⟩
  · refine zv_top (z := 1) (z2 := ((1 : Nat) : Int)) rfl ?_
    refine zv_if_eq (tgt := 24) S dX6_onStage_13 (by decide) (by decide) (fun c_13 => ?_) (fun c_13 => ?_)
    · exact (show False by omega).elim
    · skip
      refine lv_aload_n S.1 S.2.1 dX6_onStage_16 rfl (lv_at hl 0 rfl) ?_
      refine lv_iload_n S.1 S.2.1 dX6_onStage_17 rfl (lv_at hl 1 rfl) ?_
      refine zc_Vi (n := 1) (As := [.int (iI (t))]) (rest := []) S hAM hA (kX6_rolesAt l X h Q s rd kp km tx ln sp rs wi gi t hs (by omega)) rfl gX6_onStage_X6_rolesAt  (by decide +kernel) ⟨Nat.le_of_ble_eq_true rfl, Nat.le_of_ble_eq_true rfl⟩ hH hS [0, 1, 2, 3, 4, 5, 6] rfl 7 rfl (List.Perm.refl _) 6 0 rfl rfl rfl hl.1 rfl (Nat.le_of_ble_eq_true rfl) dX6_onStage_18 ⟨Nat.le_of_ble_eq_true rfl, Nat.le_of_ble_eq_true rfl⟩ (fun z8 _ H locs hp9 hH hS => ?_)
      have hH : Hold X A [mO h Q km ln sp rs, aW X (Q 0) 125 s, aW X (Q 1) 125 rd, aW X (Q 2) 625 kp, aW X (Q 3) 400 tx, aW X (Q 4) 8 wi, aW X (Q 5) 8 gi].flatten H := hH
      obtain rfl := hp9
      refine lv_goto (tgt := 27) S.1 S.2.1 dX6_onStage_21 (by decide) ?_
      exact hret 27 ls _ _ (((ra s t (na s) : Nat) : Int)) () dX6_onStage_27 rfl (by first | rw [if_pos (by omega)] | rw [if_neg (by omega)]) hH hS
  · refine zv_top (z := 0) (z2 := ((0 : Nat) : Int)) rfl ?_
    refine zv_if_eq (tgt := 24) S dX6_onStage_13 (by decide) (by decide) (fun c_13 => ?_) (fun c_13 => ?_)
    · skip
      refine lv_sipush (v := iI (-1001)) S.1 S.2.1 dX6_onStage_24 (by decide) ?_
      exact hret 27 ls _ _ (-1001) () dX6_onStage_27 rfl (by first | rw [if_pos (by omega)] | rw [if_neg (by omega)]) hH hS
    · exact (show False by omega).elim

theorem mX6_peak_1 : Cond.fieldLink RX6 7 "RoleDoublingPlannerModel" "s" "[I" ∈ wsX6_peak := List.mem_of_getElem? (i := 1) rfl
theorem nX6_peak_X6 : ∀ w ∈ wsX60, w ∈ wsX6_peak := fun _ h => List.mem_cons_of_mem _ (List.mem_append_right _ h)
set_option maxHeartbeats 4000000 in
set_option maxRecDepth 100000 in
theorem kX6_peak (l : Launch) (X : XT) (h : Nat) (Q : Nat → Nat) (s : Nat → Int) (rd : Nat → Int) (kp : Nat → Int) (km : Int) (tx : Nat → Int) (ln : Int) (sp : Int) (rs : Int) (wi : Nat → Int) (gi : Nat → Int) (hs : okR s) : Ci l yX6_peak wsX6_peak (rmD 4) X [.ref h] [mO h Q km ln sp rs, aW X (Q 0) 125 s, aW X (Q 1) 125 rd, aW X (Q 2) 625 kp, aW X (Q 3) 400 tx, aW X (Q 4) 8 wi, aW X (Q 5) 8 gi] (fun (z : Int) (_ : Unit) => z = ((pk s (na s) : Nat) : Int)) (fun (_ : Unit) => [mO h Q km ln sp rs, aW X (Q 0) 125 s, aW X (Q 1) 125 rd, aW X (Q 2) 625 kp, aW X (Q 3) 400 tx, aW X (Q 4) 8 wi, aW X (Q 5) 8 gi]) := by
  refine Ci.ofW (cc := cX6_peak) (maxL := 4) (by decide) rfl (Nat.le_of_ble_eq_true rfl) ?_
  intro p_ e_ s_ m_ below meth c_ A Q_ S hA hAM hH hS hret ls hl
  have hl : lv_has ls 4 [(0, .ref (h))] := hl
  have hk1 := hs.nr8
  have hk2 := hs.na20
  have hk3 := hs.ns10
  refine lv_iconst (v := iI (((0 : Nat) : Int))) S.1 S.2.1 dX6_peak_0 (by decide) ?_
  refine lv_istore_n (lv' := [(1, .int (iI ((0 : Nat) : Int))), (0, .ref (h))]) S.1 S.2.1 dX6_peak_1 rfl hl (by decide) rfl (fun ls hl => ?_)
  refine lv_iconst (v := iI (((0 : Nat) : Int))) S.1 S.2.1 dX6_peak_2 (by decide) ?_
  refine lv_istore_n (lv' := [(2, .int (iI ((0 : Nat) : Int))), (1, .int (iI ((0 : Nat) : Int))), (0, .ref (h))]) S.1 S.2.1 dX6_peak_3 rfl hl (by decide) rfl (fun ls hl => ?_)
  have lp4 : ∀ (n : Nat) (a : Nat) (most : Nat), na s - a < n → (a ≤ na s) → (most = pk s a) → (most ≤ 8) → ∀ (H : Heap) (locs : List Loc), Hold X A [mO h Q km ln sp rs, aW X (Q 0) 125 s, aW X (Q 1) 125 rd, aW X (Q 2) 625 kp, aW X (Q 3) 400 tx, aW X (Q 4) 8 wi, aW X (Q 5) 8 gi].flatten H → va_S A s_.heap H locs → ∀ ls : Array Slot, lv_has ls 4 [(2, .int (iI ((a : Nat) : Int))), (1, .int (iI ((most : Nat) : Int))), (0, .ref (h))] → W p_ l e_ (rmD 4) s_ m_ (List.toArray [.ref (h)]) below meth c_ H locs 0 0 Q_ (F0 m_ 4 ls []) := by
    intro n
    induction n with
    | zero => intro a most hmu hi hset hm8 H locs hH hS ls hl; exact absurd hmu (Nat.not_lt_zero _)
    | succ n ih4 => 
      intro a most hmu hi hset hm8 H locs hH hS ls hl
      refine lv_iload_n S.1 S.2.1 dX6_peak_4 rfl (lv_at hl 0 rfl) ?_
      refine lv_aload_n S.1 S.2.1 dX6_peak_5 rfl (lv_at hl 2 rfl) ?_
      refine zv_get (v := .ref (Q 0)) S hAM hH nX6_peak_X6 0 rfl rfl 0 (by decide) mX6_peak_1 rfl rfl dX6_peak_6 ?_
      refine lv_bipush (v := iI (((44 : Nat) : Int))) S.1 S.2.1 dX6_peak_9 (by decide) ?_
      refine zv_iald S hAM hH 1 rfl (44) rfl (by decide) (by decide) dX6_peak_11 ?_
      refine zv_top (z := s 44) (z2 := ((na s : Nat) : Int)) hs.e44 ?_
      refine zv_icmp_ge (tgt := 45) S dX6_peak_12 (by decide) (by omega) (by omega) (fun c_12 => ?_) (fun c_12 => ?_)
      · skip
        refine lv_iload_n S.1 S.2.1 dX6_peak_45 rfl (lv_at hl 1 rfl) ?_
        exact hret 46 ls _ _ (((most : Nat) : Int)) () dX6_peak_46 rfl (by have e9 : a = na s := (by omega); rw [hset, e9]) hH hS
      · skip
        refine lv_aload_n S.1 S.2.1 dX6_peak_15 rfl (lv_at hl 2 rfl) ?_
        refine lv_aload_n S.1 S.2.1 dX6_peak_16 rfl (lv_at hl 2 rfl) ?_
        refine lv_iload_n S.1 S.2.1 dX6_peak_17 rfl (lv_at hl 0 rfl) ?_
        refine zc_Vi (n := 1) (As := [.int (iI ((a : Nat) : Int))]) (rest := [.ref (h)]) S hAM hA (kX6_enters l X h Q s rd kp km tx ln sp rs wi gi a hs (by omega)) rfl gX6_peak_X6_enters  (by decide +kernel) ⟨Nat.le_of_ble_eq_true rfl, Nat.le_of_ble_eq_true rfl⟩ hH hS [0, 1, 2, 3, 4, 5, 6] rfl 7 rfl (List.Perm.refl _) 6 0 rfl rfl rfl hl.1 rfl (Nat.le_of_ble_eq_true rfl) dX6_peak_18 ⟨Nat.le_of_ble_eq_true rfl, Nat.le_of_ble_eq_true rfl⟩ (fun z2 _ H locs hp3 hH hS => ?_)
        have hH : Hold X A [mO h Q km ln sp rs, aW X (Q 0) 125 s, aW X (Q 1) 125 rd, aW X (Q 2) 625 kp, aW X (Q 3) 400 tx, aW X (Q 4) 8 wi, aW X (Q 5) 8 gi].flatten H := hH
        obtain rfl := hp3
        refine zc_Vi (n := 1) (As := [.int (iI (eT s a))]) (rest := []) S hAM hA (kX6_rolesAt l X h Q s rd kp km tx ln sp rs wi gi (eT s a) hs (hs.eTR _ (by omega))) rfl gX6_peak_X6_rolesAt  (by decide +kernel) ⟨Nat.le_of_ble_eq_true rfl, Nat.le_of_ble_eq_true rfl⟩ hH hS [0, 1, 2, 3, 4, 5, 6] rfl 7 rfl (List.Perm.refl _) 6 0 rfl rfl rfl hl.1 rfl (Nat.le_of_ble_eq_true rfl) dX6_peak_21 ⟨Nat.le_of_ble_eq_true rfl, Nat.le_of_ble_eq_true rfl⟩ (fun z5 _ H locs hp6 hH hS => ?_)
        have hH : Hold X A [mO h Q km ln sp rs, aW X (Q 0) 125 s, aW X (Q 1) 125 rd, aW X (Q 2) 625 kp, aW X (Q 3) 400 tx, aW X (Q 4) 8 wi, aW X (Q 5) 8 gi].flatten H := hH
        obtain rfl := hp6
        refine zc_Si (n := 1) (As := [.int (iI ((ra s (eT s a) (na s) : Nat) : Int))]) (rest := []) S hAM hA (kX6_ones l X (ra s (eT s a) (na s)) (ra_lt hs _ _ (by omega))) rfl gX6_peak_X6_ones  (by decide +kernel) ⟨Nat.le_of_ble_eq_true rfl, Nat.le_of_ble_eq_true rfl⟩ hH hS [0, 1, 2, 3, 4, 5, 6] rfl 7 rfl (List.Perm.refl _)  rfl hl.1 rfl (Nat.le_of_ble_eq_true rfl) dX6_peak_24 ⟨Nat.le_of_ble_eq_true rfl, Nat.le_of_ble_eq_true rfl⟩ (fun z8 _ H locs hp9 hH hS => ?_)
        have hH : Hold X A [mO h Q km ln sp rs, aW X (Q 0) 125 s, aW X (Q 1) 125 rd, aW X (Q 2) 625 kp, aW X (Q 3) 400 tx, aW X (Q 4) 8 wi, aW X (Q 5) 8 gi].flatten H := hH
        obtain rfl := hp9
        refine lv_istore_n (lv' := [(3, .int (iI ((pop (ra s (eT s a) (na s)) : Nat) : Int))), (2, .int (iI ((a : Nat) : Int))), (1, .int (iI ((most : Nat) : Int))), (0, .ref (h))]) S.1 S.2.1 dX6_peak_27 rfl hl (by decide) rfl (fun ls hl => ?_)
        have hq : pop (ra s (eT s a) (na s)) ≤ 8 := pop_8 _ (ra_lt hs _ _ (by omega))
        refine lv_iload_n S.1 S.2.1 dX6_peak_28 rfl (lv_at hl 0 rfl) ?_
        refine lv_iload_n S.1 S.2.1 dX6_peak_29 rfl (lv_at hl 2 rfl) ?_
        refine zv_icmp_le (tgt := 37) S dX6_peak_30 (by decide) (by omega) (by omega) (fun c_30 => ?_) (fun c_30 => ?_)
        · skip
          refine lv_iload_n S.1 S.2.1 dX6_peak_37 rfl (lv_at hl 2 rfl) ?_
          refine lv_istore_n (lv' := [(1, .int (iI ((most : Nat) : Int))), (3, .int (iI ((pop (ra s (eT s a) (na s)) : Nat) : Int))), (2, .int (iI ((a : Nat) : Int))), (0, .ref (h))]) S.1 S.2.1 dX6_peak_38 rfl hl (by decide) rfl (fun ls hl => ?_)
          refine zv_iinc (z := (((a + 1) : Nat) : Int)) (lv' := [(2, .int (iI (((a + 1) : Nat) : Int))), (1, .int (iI ((most : Nat) : Int))), (3, .int (iI ((pop (ra s (eT s a) (na s)) : Nat) : Int))), (0, .ref (h))]) S dX6_peak_39 hl (k := 2) rfl (by omega) (by decide) rfl (fun ls hl => ?_)
          refine lv_goto (tgt := 4) S.1 S.2.1 dX6_peak_42 (by decide) ?_
          exact ih4  ((a + 1)) (most) (by omega) (by omega) (by rw [pk]; split <;> first | rfl | (rw [hset]; done) | (exfalso; omega)) (by omega) _ _ hH hS ls (lv_sub hl [0, 1, 3] rfl)
        · skip
          refine lv_iload_n S.1 S.2.1 dX6_peak_33 rfl (lv_at hl 0 rfl) ?_
          refine lv_goto (tgt := 38) S.1 S.2.1 dX6_peak_34 (by decide) ?_
          refine lv_istore_n (lv' := [(1, .int (iI ((pop (ra s (eT s a) (na s)) : Nat) : Int))), (3, .int (iI ((pop (ra s (eT s a) (na s)) : Nat) : Int))), (2, .int (iI ((a : Nat) : Int))), (0, .ref (h))]) S.1 S.2.1 dX6_peak_38 rfl hl (by decide) rfl (fun ls hl => ?_)
          refine zv_iinc (z := (((a + 1) : Nat) : Int)) (lv' := [(2, .int (iI (((a + 1) : Nat) : Int))), (1, .int (iI ((pop (ra s (eT s a) (na s)) : Nat) : Int))), (3, .int (iI ((pop (ra s (eT s a) (na s)) : Nat) : Int))), (0, .ref (h))]) S dX6_peak_39 hl (k := 2) rfl (by omega) (by decide) rfl (fun ls hl => ?_)
          refine lv_goto (tgt := 4) S.1 S.2.1 dX6_peak_42 (by decide) ?_
          exact ih4  ((a + 1)) (pop (ra s (eT s a) (na s))) (by omega) (by omega) (by rw [pk]; split <;> first | rfl | (rw [hset]; done) | (exfalso; omega)) (by omega) _ _ hH hS ls (lv_sub hl [0, 1, 3] rfl)
  exact lp4 (na s - (0) + 1) (0) (0) (Nat.lt_succ_self _) (Nat.zero_le _) rfl (by omega) _ _ hH hS ls (lv_sub hl [0, 1, 2] rfl)

theorem mX6_rolesInScene_1 : Cond.fieldLink RX6 7 "RoleDoublingPlannerModel" "s" "[I" ∈ wsX6_rolesInScene := List.mem_of_getElem? (i := 1) rfl
theorem nX6_rolesInScene_X6 : ∀ w ∈ wsX60, w ∈ wsX6_rolesInScene := fun _ h => List.mem_cons_of_mem _ (List.mem_append_right _ h)
set_option maxHeartbeats 4000000 in
set_option maxRecDepth 100000 in
theorem kX6_rolesInScene (l : Launch) (X : XT) (h : Nat) (Q : Nat → Nat) (s : Nat → Int) (rd : Nat → Int) (kp : Nat → Int) (km : Int) (tx : Nat → Int) (ln : Int) (sp : Int) (rs : Int) (wi : Nat → Int) (gi : Nat → Int) (c0 : Int) (hs : okR s) (hc0 : inR c0) : Ci l yX6_rolesInScene wsX6_rolesInScene (rmD 3) X [.ref h, .int (iI (c0))] [mO h Q km ln sp rs, aW X (Q 0) 125 s, aW X (Q 1) 125 rd, aW X (Q 2) 625 kp, aW X (Q 3) 400 tx, aW X (Q 4) 8 wi, aW X (Q 5) 8 gi] (fun (z : Int) (_ : Unit) => z = (if 0 ≤ c0 ∧ c0 < ((ns s : Nat) : Int) then ((ris s c0 (na s) : Nat) : Int) else -1001)) (fun (_ : Unit) => [mO h Q km ln sp rs, aW X (Q 0) 125 s, aW X (Q 1) 125 rd, aW X (Q 2) 625 kp, aW X (Q 3) 400 tx, aW X (Q 4) 8 wi, aW X (Q 5) 8 gi]) := by
  refine Ci.ofW (cc := cX6_rolesInScene) (maxL := 4) (by decide) rfl (Nat.le_of_ble_eq_true rfl) ?_
  intro p_ e_ s_ m_ below meth c_ A Q_ S hA hAM hH hS hret ls hl
  have hl : lv_has ls 4 [(0, .ref (h)), (1, .int (iI (c0)))] := hl
  have hk1 := hs.nr8
  have hk2 := hs.na20
  have hk3 := hs.ns10
  refine lv_aload_n S.1 S.2.1 dX6_rolesInScene_0 rfl (lv_at hl 0 rfl) ?_
  refine lv_iload_n S.1 S.2.1 dX6_rolesInScene_1 rfl (lv_at hl 1 rfl) ?_
  refine zc_Vi (n := 1) (As := [.int (iI (c0))]) (rest := []) S hAM hA (kX6_isScene l X h Q s rd kp km tx ln sp rs wi gi c0 hs (by omega)) rfl gX6_rolesInScene_X6_isScene  (by decide +kernel) ⟨Nat.le_of_ble_eq_true rfl, Nat.le_of_ble_eq_true rfl⟩ hH hS [0, 1, 2, 3, 4, 5, 6] rfl 7 rfl (List.Perm.refl _) 6 0 rfl rfl rfl hl.1 rfl (Nat.le_of_ble_eq_true rfl) dX6_rolesInScene_2 ⟨Nat.le_of_ble_eq_true rfl, Nat.le_of_ble_eq_true rfl⟩ (fun z2 _ H locs hp3 hH hS => ?_)
  have hH : Hold X A [mO h Q km ln sp rs, aW X (Q 0) 125 s, aW X (Q 1) 125 rd, aW X (Q 2) 625 kp, aW X (Q 3) 400 tx, aW X (Q 4) 8 wi, aW X (Q 5) 8 gi].flatten H := hH
  rcases hp3 with ⟨rfl, b_2⟩ | ⟨rfl, b_2⟩
  · refine zv_top (z := 1) (z2 := ((1 : Nat) : Int)) rfl ?_
    refine zv_if_ne (tgt := 12) S dX6_rolesInScene_5 (by decide) (by decide) (fun c_5 => ?_) (fun c_5 => ?_)
    · skip
      refine lv_iconst (v := iI (((0 : Nat) : Int))) S.1 S.2.1 dX6_rolesInScene_12 (by decide) ?_
      refine lv_istore_n (lv' := [(2, .int (iI ((0 : Nat) : Int))), (0, .ref (h)), (1, .int (iI (c0)))]) S.1 S.2.1 dX6_rolesInScene_13 rfl hl (by decide) rfl (fun ls hl => ?_)
      refine lv_iconst (v := iI (((0 : Nat) : Int))) S.1 S.2.1 dX6_rolesInScene_14 (by decide) ?_
      refine lv_istore_n (lv' := [(3, .int (iI ((0 : Nat) : Int))), (2, .int (iI ((0 : Nat) : Int))), (0, .ref (h)), (1, .int (iI (c0)))]) S.1 S.2.1 dX6_rolesInScene_15 rfl hl (by decide) rfl (fun ls hl => ?_)
      have lp16 : ∀ (n : Nat) (a : Nat) (set : Nat), na s - a < n → (a ≤ na s) → (set = ris s c0 a) → ∀ (H : Heap) (locs : List Loc), Hold X A [mO h Q km ln sp rs, aW X (Q 0) 125 s, aW X (Q 1) 125 rd, aW X (Q 2) 625 kp, aW X (Q 3) 400 tx, aW X (Q 4) 8 wi, aW X (Q 5) 8 gi].flatten H → va_S A s_.heap H locs → ∀ ls : Array Slot, lv_has ls 4 [(3, .int (iI ((a : Nat) : Int))), (2, .int (iI ((set : Nat) : Int))), (0, .ref (h)), (1, .int (iI (c0)))] → W p_ l e_ (rmD 3) s_ m_ (List.toArray [.ref (h), .int (iI (c0))]) below meth c_ H locs 0 0 Q_ (F0 m_ 16 ls []) := by
        intro n
        induction n with
        | zero => intro a set hmu hi hset H locs hH hS ls hl; exact absurd hmu (Nat.not_lt_zero _)
        | succ n ih16 => 
          intro a set hmu hi hset H locs hH hS ls hl
          refine lv_iload_n S.1 S.2.1 dX6_rolesInScene_16 rfl (lv_at hl 0 rfl) ?_
          refine lv_aload_n S.1 S.2.1 dX6_rolesInScene_17 rfl (lv_at hl 2 rfl) ?_
          refine zv_get (v := .ref (Q 0)) S hAM hH nX6_rolesInScene_X6 0 rfl rfl 0 (by decide) mX6_rolesInScene_1 rfl rfl dX6_rolesInScene_18 ?_
          refine lv_bipush (v := iI (((44 : Nat) : Int))) S.1 S.2.1 dX6_rolesInScene_21 (by decide) ?_
          refine zv_iald S hAM hH 1 rfl (44) rfl (by decide) (by decide) dX6_rolesInScene_23 ?_
          refine zv_top (z := s 44) (z2 := ((na s : Nat) : Int)) hs.e44 ?_
          refine zv_icmp_ge (tgt := 64) S dX6_rolesInScene_24 (by decide) (by omega) (by omega) (fun c_24 => ?_) (fun c_24 => ?_)
          · skip
            refine lv_iload_n S.1 S.2.1 dX6_rolesInScene_64 rfl (lv_at hl 1 rfl) ?_
            exact hret 65 ls _ _ (((set : Nat) : Int)) () dX6_rolesInScene_65 rfl (by have e9 : a = na s := (by omega); rw [hset, e9, if_pos (by omega)]) hH hS
          · skip
            refine lv_iload_n S.1 S.2.1 dX6_rolesInScene_27 rfl (lv_at hl 1 rfl) ?_
            refine lv_aload_n S.1 S.2.1 dX6_rolesInScene_28 rfl (lv_at hl 2 rfl) ?_
            refine zv_get (v := .ref (Q 0)) S hAM hH nX6_rolesInScene_X6 0 rfl rfl 0 (by decide) mX6_rolesInScene_1 rfl rfl dX6_rolesInScene_29 ?_
            refine lv_bipush (v := iI (((45 : Nat) : Int))) S.1 S.2.1 dX6_rolesInScene_32 (by decide) ?_
            refine lv_iconst (v := iI (((4 : Nat) : Int))) S.1 S.2.1 dX6_rolesInScene_34 (by decide) ?_
            refine lv_iload_n S.1 S.2.1 dX6_rolesInScene_35 rfl (lv_at hl 0 rfl) ?_
            refine zv_imul (z := (((4 * a) : Nat) : Int)) S dX6_rolesInScene_36 (by omega) ?_
            refine zv_iadd (z := (((45 + (4 * a)) : Nat) : Int)) S dX6_rolesInScene_37 (by omega) ?_
            refine lv_iconst (v := iI (((1 : Nat) : Int))) S.1 S.2.1 dX6_rolesInScene_38 (by decide) ?_
            refine zv_iadd (z := ((((45 + (4 * a)) + 1) : Nat) : Int)) S dX6_rolesInScene_39 (by omega) ?_
            refine zv_iald S hAM hH 1 rfl (((45 + (4 * a)) + 1)) rfl (by omega) (by decide) dX6_rolesInScene_40 ?_
            refine lv_iload_n S.1 S.2.1 dX6_rolesInScene_41 rfl (lv_at hl 3 rfl) ?_
            refine zv_icmp_ne (tgt := 55) S dX6_rolesInScene_42 (by decide) (hs.inRk _ (by omega)) (by omega) (fun c_42 => ?_) (fun c_42 => ?_)
            · skip
              refine lv_iconst (v := iI (((0 : Nat) : Int))) S.1 S.2.1 dX6_rolesInScene_55 (by decide) ?_
              refine zv_ior (z := ((set : Nat) : Int)) S dX6_rolesInScene_56 (by rw [iI_or, Nat.or_zero]) ?_
              refine lv_istore_n (lv' := [(2, .int (iI ((set : Nat) : Int))), (3, .int (iI ((a : Nat) : Int))), (0, .ref (h)), (1, .int (iI (c0)))]) S.1 S.2.1 dX6_rolesInScene_57 rfl hl (by decide) rfl (fun ls hl => ?_)
              refine zv_iinc (z := (((a + 1) : Nat) : Int)) (lv' := [(3, .int (iI (((a + 1) : Nat) : Int))), (2, .int (iI ((set : Nat) : Int))), (0, .ref (h)), (1, .int (iI (c0)))]) S dX6_rolesInScene_58 hl (k := 1) rfl (by omega) (by decide) rfl (fun ls hl => ?_)
              refine lv_goto (tgt := 16) S.1 S.2.1 dX6_rolesInScene_61 (by decide) ?_
              exact ih16  ((a + 1)) (set) (by omega) (by omega) (by rw [ris]; split <;> first | (rw [hset]; done) | (exfalso; omega)) _ _ hH hS ls (lv_sub hl [0, 1, 2, 3] rfl)
            · skip
              refine lv_iconst (v := iI (((1 : Nat) : Int))) S.1 S.2.1 dX6_rolesInScene_45 (by decide) ?_
              refine lv_aload_n S.1 S.2.1 dX6_rolesInScene_46 rfl (lv_at hl 2 rfl) ?_
              refine lv_iload_n S.1 S.2.1 dX6_rolesInScene_47 rfl (lv_at hl 0 rfl) ?_
              refine zc_Vi (n := 1) (As := [.int (iI ((a : Nat) : Int))]) (rest := [.int (iI ((1 : Nat) : Int)), .int (iI ((set : Nat) : Int))]) S hAM hA (kX6_roleOf l X h Q s rd kp km tx ln sp rs wi gi a hs (by omega)) rfl gX6_rolesInScene_X6_roleOf  (by decide +kernel) ⟨Nat.le_of_ble_eq_true rfl, Nat.le_of_ble_eq_true rfl⟩ hH hS [0, 1, 2, 3, 4, 5, 6] rfl 7 rfl (List.Perm.refl _) 6 0 rfl rfl rfl hl.1 rfl (Nat.le_of_ble_eq_true rfl) dX6_rolesInScene_48 ⟨Nat.le_of_ble_eq_true rfl, Nat.le_of_ble_eq_true rfl⟩ (fun z5 _ H locs hp6 hH hS => ?_)
              have hH : Hold X A [mO h Q km ln sp rs, aW X (Q 0) 125 s, aW X (Q 1) 125 rd, aW X (Q 2) 625 kp, aW X (Q 3) 400 tx, aW X (Q 4) 8 wi, aW X (Q 5) 8 gi].flatten H := hH
              obtain rfl := hp6
              refine zv_ishl (z := (((2 ^ (rl s a)) : Nat) : Int)) S dX6_rolesInScene_51 (iI_shl1 _ (by have := hs.rl8 a (by omega); omega)) ?_
              refine lv_goto (tgt := 56) S.1 S.2.1 dX6_rolesInScene_52 (by decide) ?_
              refine zv_ior (z := (((set ||| (2 ^ (rl s a))) : Nat) : Int)) S dX6_rolesInScene_56 (iI_or _ _) ?_
              refine lv_istore_n (lv' := [(2, .int (iI (((set ||| (2 ^ (rl s a))) : Nat) : Int))), (3, .int (iI ((a : Nat) : Int))), (0, .ref (h)), (1, .int (iI (c0)))]) S.1 S.2.1 dX6_rolesInScene_57 rfl hl (by decide) rfl (fun ls hl => ?_)
              refine zv_iinc (z := (((a + 1) : Nat) : Int)) (lv' := [(3, .int (iI (((a + 1) : Nat) : Int))), (2, .int (iI (((set ||| (2 ^ (rl s a))) : Nat) : Int))), (0, .ref (h)), (1, .int (iI (c0)))]) S dX6_rolesInScene_58 hl (k := 1) rfl (by omega) (by decide) rfl (fun ls hl => ?_)
              refine lv_goto (tgt := 16) S.1 S.2.1 dX6_rolesInScene_61 (by decide) ?_
              exact ih16  ((a + 1)) ((set ||| (2 ^ (rl s a)))) (by omega) (by omega) (by rw [ris]; split <;> first | (rw [hset]; done) | (exfalso; omega)) _ _ hH hS ls (lv_sub hl [0, 1, 2, 3] rfl)
      exact lp16 (na s - (0) + 1) (0) (0) (Nat.lt_succ_self _) (Nat.zero_le _) rfl _ _ hH hS ls (lv_sub hl [0, 1, 2, 3] rfl)
    · exact (show False by omega).elim
  · refine zv_top (z := 0) (z2 := ((0 : Nat) : Int)) rfl ?_
    refine zv_if_ne (tgt := 12) S dX6_rolesInScene_5 (by decide) (by decide) (fun c_5 => ?_) (fun c_5 => ?_)
    · exact (show False by omega).elim
    · skip
      refine lv_sipush (v := iI (-1001)) S.1 S.2.1 dX6_rolesInScene_8 (by decide) ?_
      exact hret 11 ls _ _ (-1001) () dX6_rolesInScene_11 rfl (by rw [if_neg (by omega)]) hH hS
end
