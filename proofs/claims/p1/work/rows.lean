section
-- ===== PART A: goes FIRST, ahead of the names: the tables' words, and 'selects' of the private methods out of them =====
/-- a private method of a class that the tables say can be made, by its rows of tables_1 -/
def lw_okq (q : MethodName × Nat) : Prop := (q.1.cls ≠ "java/lang/invoke/MethodHandle" ∧ q.1.cls ≠ "java/lang/invoke/VarHandle") ∧ Cond.instantiable q.1.cls q.2 ∈ tables_1 ∧ Cond.privateMethod q.1 ∈ tables_1 ∧ Cond.instanceMethod q.1 ∈ tables_1
theorem lw_p0 : lw_okq (⟨"AskTree", "readTold", "(IIII)Z"⟩, 14) := ⟨⟨by decide +kernel, by decide +kernel⟩, List.mem_of_getElem? (i := 13) (by decide +kernel), List.mem_of_getElem? (i := 281) (by decide +kernel), List.mem_of_getElem? (i := 282) (by decide +kernel)⟩
theorem lw_p1 : lw_okq (⟨"AskTree", "readPair", "(II)V"⟩, 14) := ⟨⟨by decide +kernel, by decide +kernel⟩, List.mem_of_getElem? (i := 13) (by decide +kernel), List.mem_of_getElem? (i := 285) (by decide +kernel), List.mem_of_getElem? (i := 286) (by decide +kernel)⟩
theorem lw_p2 : lw_okq (⟨"AskTree$Cases", "putInOrder", "(II)V"⟩, 5) := ⟨⟨by decide +kernel, by decide +kernel⟩, List.mem_of_getElem? (i := 21) (by decide +kernel), List.mem_of_getElem? (i := 293) (by decide +kernel), List.mem_of_getElem? (i := 294) (by decide +kernel)⟩
theorem lw_p3 : lw_okq (⟨"AskTree", "isCase", "(I)Z"⟩, 14) := ⟨⟨by decide +kernel, by decide +kernel⟩, List.mem_of_getElem? (i := 13) (by decide +kernel), List.mem_of_getElem? (i := 304) (by decide +kernel), List.mem_of_getElem? (i := 305) (by decide +kernel)⟩
theorem lw_p4 : lw_okq (⟨"AskTree$Cases", "takeOutOfOrder", "(II)V"⟩, 5) := ⟨⟨by decide +kernel, by decide +kernel⟩, List.mem_of_getElem? (i := 21) (by decide +kernel), List.mem_of_getElem? (i := 312) (by decide +kernel), List.mem_of_getElem? (i := 313) (by decide +kernel)⟩
theorem lw_p5 : lw_okq (⟨"AskTree", "placeFor", "(I)LAskTree$Tree;"⟩, 14) := ⟨⟨by decide +kernel, by decide +kernel⟩, List.mem_of_getElem? (i := 13) (by decide +kernel), List.mem_of_getElem? (i := 337) (by decide +kernel), List.mem_of_getElem? (i := 338) (by decide +kernel)⟩
theorem lw_p6 : lw_okq (⟨"AskTree$Grower", "branch", "(LAskTree$Tree;III)I"⟩, 12) := ⟨⟨by decide +kernel, by decide +kernel⟩, List.mem_of_getElem? (i := 83) (by decide +kernel), List.mem_of_getElem? (i := 394) (by decide +kernel), List.mem_of_getElem? (i := 395) (by decide +kernel)⟩
theorem lw_p7 : lw_okq (⟨"AskTree$Grower", "seek", "(II)Z"⟩, 12) := ⟨⟨by decide +kernel, by decide +kernel⟩, List.mem_of_getElem? (i := 83) (by decide +kernel), List.mem_of_getElem? (i := 417) (by decide +kernel), List.mem_of_getElem? (i := 418) (by decide +kernel)⟩
theorem lw_p8 : lw_okq (⟨"AskTree$Grower", "readGaps", "(III)I"⟩, 12) := ⟨⟨by decide +kernel, by decide +kernel⟩, List.mem_of_getElem? (i := 83) (by decide +kernel), List.mem_of_getElem? (i := 429) (by decide +kernel), List.mem_of_getElem? (i := 430) (by decide +kernel)⟩
theorem lw_p9 : lw_okq (⟨"AskTree$Grower", "seekIn", "(III)V"⟩, 12) := ⟨⟨by decide +kernel, by decide +kernel⟩, List.mem_of_getElem? (i := 83) (by decide +kernel), List.mem_of_getElem? (i := 436) (by decide +kernel), List.mem_of_getElem? (i := 437) (by decide +kernel)⟩
theorem lw_p10 : lw_okq (⟨"AskTree$Grower", "weigh", "(IIII)V"⟩, 12) := ⟨⟨by decide +kernel, by decide +kernel⟩, List.mem_of_getElem? (i := 83) (by decide +kernel), List.mem_of_getElem? (i := 440) (by decide +kernel), List.mem_of_getElem? (i := 441) (by decide +kernel)⟩
theorem lw_p11 : lw_okq (⟨"AskTree$Rows", "partRow", "(II)I"⟩, 5) := ⟨⟨by decide +kernel, by decide +kernel⟩, List.mem_of_getElem? (i := 58) (by decide +kernel), List.mem_of_getElem? (i := 455) (by decide +kernel), List.mem_of_getElem? (i := 456) (by decide +kernel)⟩
theorem lw_p12 : lw_okq (⟨"AskTree$Finder", "build", "(LAskTree$Tree;IIII)I"⟩, 12) := ⟨⟨by decide +kernel, by decide +kernel⟩, List.mem_of_getElem? (i := 126) (by decide +kernel), List.mem_of_getElem? (i := 471) (by decide +kernel), List.mem_of_getElem? (i := 472) (by decide +kernel)⟩
theorem lw_p13 : lw_okq (⟨"AskTree$Finder", "takeOne", "(II)V"⟩, 12) := ⟨⟨by decide +kernel, by decide +kernel⟩, List.mem_of_getElem? (i := 126) (by decide +kernel), List.mem_of_getElem? (i := 477) (by decide +kernel), List.mem_of_getElem? (i := 478) (by decide +kernel)⟩
theorem lw_p14 : lw_okq (⟨"AskTree$Finder", "seekOne", "(III)V"⟩, 12) := ⟨⟨by decide +kernel, by decide +kernel⟩, List.mem_of_getElem? (i := 126) (by decide +kernel), List.mem_of_getElem? (i := 485) (by decide +kernel), List.mem_of_getElem? (i := 486) (by decide +kernel)⟩
theorem lw_p15 : lw_okq (⟨"AskTree$Finder", "seekOneIn", "(IIII)V"⟩, 12) := ⟨⟨by decide +kernel, by decide +kernel⟩, List.mem_of_getElem? (i := 126) (by decide +kernel), List.mem_of_getElem? (i := 493) (by decide +kernel), List.mem_of_getElem? (i := 494) (by decide +kernel)⟩
def lw_privs_1 : List (MethodName × Nat) := [(⟨"AskTree", "readTold", "(IIII)Z"⟩, 14), (⟨"AskTree", "readPair", "(II)V"⟩, 14), (⟨"AskTree$Cases", "putInOrder", "(II)V"⟩, 5), (⟨"AskTree", "isCase", "(I)Z"⟩, 14), (⟨"AskTree$Cases", "takeOutOfOrder", "(II)V"⟩, 5), (⟨"AskTree", "placeFor", "(I)LAskTree$Tree;"⟩, 14), (⟨"AskTree$Grower", "branch", "(LAskTree$Tree;III)I"⟩, 12), (⟨"AskTree$Grower", "seek", "(II)Z"⟩, 12), (⟨"AskTree$Grower", "readGaps", "(III)I"⟩, 12), (⟨"AskTree$Grower", "seekIn", "(III)V"⟩, 12), (⟨"AskTree$Grower", "weigh", "(IIII)V"⟩, 12), (⟨"AskTree$Rows", "partRow", "(II)I"⟩, 5), (⟨"AskTree$Finder", "build", "(LAskTree$Tree;IIII)I"⟩, 12), (⟨"AskTree$Finder", "takeOne", "(II)V"⟩, 12), (⟨"AskTree$Finder", "seekOne", "(III)V"⟩, 12), (⟨"AskTree$Finder", "seekOneIn", "(IIII)V"⟩, 12)]
theorem lw_r1 : ∀ q ∈ lw_privs_1, lw_okq q := List.forall_mem_cons.mpr ⟨lw_p0, List.forall_mem_cons.mpr ⟨lw_p1, List.forall_mem_cons.mpr ⟨lw_p2, List.forall_mem_cons.mpr ⟨lw_p3, List.forall_mem_cons.mpr ⟨lw_p4, List.forall_mem_cons.mpr ⟨lw_p5, List.forall_mem_cons.mpr ⟨lw_p6, List.forall_mem_cons.mpr ⟨lw_p7, List.forall_mem_cons.mpr ⟨lw_p8, List.forall_mem_cons.mpr ⟨lw_p9, List.forall_mem_cons.mpr ⟨lw_p10, List.forall_mem_cons.mpr ⟨lw_p11, List.forall_mem_cons.mpr ⟨lw_p12, List.forall_mem_cons.mpr ⟨lw_p13, List.forall_mem_cons.mpr ⟨lw_p14, List.forall_mem_cons.mpr ⟨lw_p15, fun _ h => absurd h List.not_mem_nil⟩⟩⟩⟩⟩⟩⟩⟩⟩⟩⟩⟩⟩⟩⟩⟩
theorem lw_p16 : lw_okq (⟨"AskTree$Finder", "judgeOne", "(II)V"⟩, 12) := ⟨⟨by decide +kernel, by decide +kernel⟩, List.mem_of_getElem? (i := 126) (by decide +kernel), List.mem_of_getElem? (i := 497) (by decide +kernel), List.mem_of_getElem? (i := 498) (by decide +kernel)⟩
theorem lw_p17 : lw_okq (⟨"AskTree$Finder", "seekTop", "(III)V"⟩, 12) := ⟨⟨by decide +kernel, by decide +kernel⟩, List.mem_of_getElem? (i := 126) (by decide +kernel), List.mem_of_getElem? (i := 501) (by decide +kernel), List.mem_of_getElem? (i := 502) (by decide +kernel)⟩
theorem lw_p18 : lw_okq (⟨"AskTree$Finder", "judgeTop", "(IIII)V"⟩, 12) := ⟨⟨by decide +kernel, by decide +kernel⟩, List.mem_of_getElem? (i := 126) (by decide +kernel), List.mem_of_getElem? (i := 506) (by decide +kernel), List.mem_of_getElem? (i := 507) (by decide +kernel)⟩
theorem lw_p19 : lw_okq (⟨"AskTree", "treeAt", "(I)LAskTree$Tree;"⟩, 14) := ⟨⟨by decide +kernel, by decide +kernel⟩, List.mem_of_getElem? (i := 13) (by decide +kernel), List.mem_of_getElem? (i := 516) (by decide +kernel), List.mem_of_getElem? (i := 517) (by decide +kernel)⟩
theorem lw_p20 : lw_okq (⟨"AskTree$Pruner", "leafCost", "(LAskTree$Tree;I)I"⟩, 5) := ⟨⟨by decide +kernel, by decide +kernel⟩, List.mem_of_getElem? (i := 169) (by decide +kernel), List.mem_of_getElem? (i := 524) (by decide +kernel), List.mem_of_getElem? (i := 525) (by decide +kernel)⟩
theorem lw_p21 : lw_okq (⟨"AskTree$Pruner", "copy", "(LAskTree$Tree;LAskTree$Tree;II)I"⟩, 5) := ⟨⟨by decide +kernel, by decide +kernel⟩, List.mem_of_getElem? (i := 169) (by decide +kernel), List.mem_of_getElem? (i := 551) (by decide +kernel), List.mem_of_getElem? (i := 552) (by decide +kernel)⟩
theorem lw_p22 : lw_okq (⟨"AskTree$Pruner", "weighNode", "(LAskTree$Tree;I)V"⟩, 5) := ⟨⟨by decide +kernel, by decide +kernel⟩, List.mem_of_getElem? (i := 169) (by decide +kernel), List.mem_of_getElem? (i := 565) (by decide +kernel), List.mem_of_getElem? (i := 566) (by decide +kernel)⟩
theorem lw_p23 : lw_okq (⟨"AskTree", "missed", "(LAskTree$Tree;I)I"⟩, 14) := ⟨⟨by decide +kernel, by decide +kernel⟩, List.mem_of_getElem? (i := 13) (by decide +kernel), List.mem_of_getElem? (i := 580) (by decide +kernel), List.mem_of_getElem? (i := 581) (by decide +kernel)⟩
theorem lw_p24 : lw_okq (⟨"AskTree", "missesNow", "(LAskTree$Tree;)I"⟩, 14) := ⟨⟨by decide +kernel, by decide +kernel⟩, List.mem_of_getElem? (i := 13) (by decide +kernel), List.mem_of_getElem? (i := 616) (by decide +kernel), List.mem_of_getElem? (i := 617) (by decide +kernel)⟩
theorem lw_p25 : lw_okq (⟨"AskTree$Rules", "note", "(IIZ)V"⟩, 7) := ⟨⟨by decide +kernel, by decide +kernel⟩, List.mem_of_getElem? (i := 193) (by decide +kernel), List.mem_of_getElem? (i := 658) (by decide +kernel), List.mem_of_getElem? (i := 659) (by decide +kernel)⟩
theorem lw_p26 : lw_okq (⟨"AskTree$Rules", "noteSort", "(IIZ)V"⟩, 7) := ⟨⟨by decide +kernel, by decide +kernel⟩, List.mem_of_getElem? (i := 193) (by decide +kernel), List.mem_of_getElem? (i := 662) (by decide +kernel), List.mem_of_getElem? (i := 663) (by decide +kernel)⟩
theorem lw_p27 : lw_okq (⟨"AskTree$Rules", "isBarred", "(II)Z"⟩, 7) := ⟨⟨by decide +kernel, by decide +kernel⟩, List.mem_of_getElem? (i := 193) (by decide +kernel), List.mem_of_getElem? (i := 666) (by decide +kernel), List.mem_of_getElem? (i := 667) (by decide +kernel)⟩
theorem lw_p28 : lw_okq (⟨"AskTree$Rules", "canFollow", "(I)Z"⟩, 7) := ⟨⟨by decide +kernel, by decide +kernel⟩, List.mem_of_getElem? (i := 193) (by decide +kernel), List.mem_of_getElem? (i := 676) (by decide +kernel), List.mem_of_getElem? (i := 677) (by decide +kernel)⟩
theorem lw_p29 : lw_okq (⟨"AskTree", "toldHasGap", "()Z"⟩, 14) := ⟨⟨by decide +kernel, by decide +kernel⟩, List.mem_of_getElem? (i := 13) (by decide +kernel), List.mem_of_getElem? (i := 688) (by decide +kernel), List.mem_of_getElem? (i := 689) (by decide +kernel)⟩
theorem lw_p30 : lw_okq (⟨"AskTree", "nearestOtherLeaf", "(LAskTree$Tree;)I"⟩, 14) := ⟨⟨by decide +kernel, by decide +kernel⟩, List.mem_of_getElem? (i := 13) (by decide +kernel), List.mem_of_getElem? (i := 692) (by decide +kernel), List.mem_of_getElem? (i := 693) (by decide +kernel)⟩
theorem lw_p31 : lw_okq (⟨"AskTree$Rules", "turn", "(II)I"⟩, 7) := ⟨⟨by decide +kernel, by decide +kernel⟩, List.mem_of_getElem? (i := 193) (by decide +kernel), List.mem_of_getElem? (i := 704) (by decide +kernel), List.mem_of_getElem? (i := 705) (by decide +kernel)⟩
def lw_privs_2 : List (MethodName × Nat) := [(⟨"AskTree$Finder", "judgeOne", "(II)V"⟩, 12), (⟨"AskTree$Finder", "seekTop", "(III)V"⟩, 12), (⟨"AskTree$Finder", "judgeTop", "(IIII)V"⟩, 12), (⟨"AskTree", "treeAt", "(I)LAskTree$Tree;"⟩, 14), (⟨"AskTree$Pruner", "leafCost", "(LAskTree$Tree;I)I"⟩, 5), (⟨"AskTree$Pruner", "copy", "(LAskTree$Tree;LAskTree$Tree;II)I"⟩, 5), (⟨"AskTree$Pruner", "weighNode", "(LAskTree$Tree;I)V"⟩, 5), (⟨"AskTree", "missed", "(LAskTree$Tree;I)I"⟩, 14), (⟨"AskTree", "missesNow", "(LAskTree$Tree;)I"⟩, 14), (⟨"AskTree$Rules", "note", "(IIZ)V"⟩, 7), (⟨"AskTree$Rules", "noteSort", "(IIZ)V"⟩, 7), (⟨"AskTree$Rules", "isBarred", "(II)Z"⟩, 7), (⟨"AskTree$Rules", "canFollow", "(I)Z"⟩, 7), (⟨"AskTree", "toldHasGap", "()Z"⟩, 14), (⟨"AskTree", "nearestOtherLeaf", "(LAskTree$Tree;)I"⟩, 14), (⟨"AskTree$Rules", "turn", "(II)I"⟩, 7)]
theorem lw_r2 : ∀ q ∈ lw_privs_2, lw_okq q := List.forall_mem_cons.mpr ⟨lw_p16, List.forall_mem_cons.mpr ⟨lw_p17, List.forall_mem_cons.mpr ⟨lw_p18, List.forall_mem_cons.mpr ⟨lw_p19, List.forall_mem_cons.mpr ⟨lw_p20, List.forall_mem_cons.mpr ⟨lw_p21, List.forall_mem_cons.mpr ⟨lw_p22, List.forall_mem_cons.mpr ⟨lw_p23, List.forall_mem_cons.mpr ⟨lw_p24, List.forall_mem_cons.mpr ⟨lw_p25, List.forall_mem_cons.mpr ⟨lw_p26, List.forall_mem_cons.mpr ⟨lw_p27, List.forall_mem_cons.mpr ⟨lw_p28, List.forall_mem_cons.mpr ⟨lw_p29, List.forall_mem_cons.mpr ⟨lw_p30, List.forall_mem_cons.mpr ⟨lw_p31, fun _ h => absurd h List.not_mem_nil⟩⟩⟩⟩⟩⟩⟩⟩⟩⟩⟩⟩⟩⟩⟩⟩
theorem lw_p32 : lw_okq (⟨"AskTreeModel", "take", "(IIIIZ)Z"⟩, 23) := ⟨⟨by decide +kernel, by decide +kernel⟩, List.mem_of_getElem? (i := 727) (by decide +kernel), List.mem_of_getElem? (i := 812) (by decide +kernel), List.mem_of_getElem? (i := 813) (by decide +kernel)⟩
theorem lw_p33 : lw_okq (⟨"AskTreeModel", "growNode", "(III)I"⟩, 23) := ⟨⟨by decide +kernel, by decide +kernel⟩, List.mem_of_getElem? (i := 727) (by decide +kernel), List.mem_of_getElem? (i := 836) (by decide +kernel), List.mem_of_getElem? (i := 837) (by decide +kernel)⟩
theorem lw_p34 : lw_okq (⟨"AskTreeModel", "newNode", "(I)I"⟩, 23) := ⟨⟨by decide +kernel, by decide +kernel⟩, List.mem_of_getElem? (i := 727) (by decide +kernel), List.mem_of_getElem? (i := 840) (by decide +kernel), List.mem_of_getElem? (i := 841) (by decide +kernel)⟩
theorem lw_p35 : lw_okq (⟨"AskTreeModel", "countRow", "(I)V"⟩, 23) := ⟨⟨by decide +kernel, by decide +kernel⟩, List.mem_of_getElem? (i := 727) (by decide +kernel), List.mem_of_getElem? (i := 844) (by decide +kernel), List.mem_of_getElem? (i := 845) (by decide +kernel)⟩
theorem lw_p36 : lw_okq (⟨"AskTreeModel", "place", "(II)I"⟩, 23) := ⟨⟨by decide +kernel, by decide +kernel⟩, List.mem_of_getElem? (i := 727) (by decide +kernel), List.mem_of_getElem? (i := 848) (by decide +kernel), List.mem_of_getElem? (i := 849) (by decide +kernel)⟩
theorem lw_p37 : lw_okq (⟨"AskTreeModel", "wrongAt", "(I)I"⟩, 23) := ⟨⟨by decide +kernel, by decide +kernel⟩, List.mem_of_getElem? (i := 727) (by decide +kernel), List.mem_of_getElem? (i := 852) (by decide +kernel), List.mem_of_getElem? (i := 853) (by decide +kernel)⟩
theorem lw_p38 : lw_okq (⟨"AskTreeModel", "countAt", "(I)I"⟩, 23) := ⟨⟨by decide +kernel, by decide +kernel⟩, List.mem_of_getElem? (i := 727) (by decide +kernel), List.mem_of_getElem? (i := 856) (by decide +kernel), List.mem_of_getElem? (i := 857) (by decide +kernel)⟩
theorem lw_p39 : lw_okq (⟨"AskTreeModel", "classAt", "(I)I"⟩, 23) := ⟨⟨by decide +kernel, by decide +kernel⟩, List.mem_of_getElem? (i := 727) (by decide +kernel), List.mem_of_getElem? (i := 860) (by decide +kernel), List.mem_of_getElem? (i := 861) (by decide +kernel)⟩
theorem lw_p40 : lw_okq (⟨"AskTreeModel", "findQuestion", "(II)Z"⟩, 23) := ⟨⟨by decide +kernel, by decide +kernel⟩, List.mem_of_getElem? (i := 727) (by decide +kernel), List.mem_of_getElem? (i := 864) (by decide +kernel), List.mem_of_getElem? (i := 865) (by decide +kernel)⟩
theorem lw_p41 : lw_okq (⟨"AskTreeModel", "countYes", "(III)V"⟩, 23) := ⟨⟨by decide +kernel, by decide +kernel⟩, List.mem_of_getElem? (i := 727) (by decide +kernel), List.mem_of_getElem? (i := 871) (by decide +kernel), List.mem_of_getElem? (i := 872) (by decide +kernel)⟩
theorem lw_p42 : lw_okq (⟨"AskTreeModel", "gapsYes", "(III)Z"⟩, 23) := ⟨⟨by decide +kernel, by decide +kernel⟩, List.mem_of_getElem? (i := 727) (by decide +kernel), List.mem_of_getElem? (i := 875) (by decide +kernel), List.mem_of_getElem? (i := 876) (by decide +kernel)⟩
theorem lw_p43 : lw_okq (⟨"AskTreeModel", "answers", "(III)Z"⟩, 23) := ⟨⟨by decide +kernel, by decide +kernel⟩, List.mem_of_getElem? (i := 727) (by decide +kernel), List.mem_of_getElem? (i := 879) (by decide +kernel), List.mem_of_getElem? (i := 880) (by decide +kernel)⟩
theorem lw_p44 : lw_okq (⟨"AskTreeModel", "goesYes", "(IIIZ)Z"⟩, 23) := ⟨⟨by decide +kernel, by decide +kernel⟩, List.mem_of_getElem? (i := 727) (by decide +kernel), List.mem_of_getElem? (i := 883) (by decide +kernel), List.mem_of_getElem? (i := 884) (by decide +kernel)⟩
theorem lw_p45 : lw_okq (⟨"AskTreeModel", "ask", "(IIIZ)V"⟩, 23) := ⟨⟨by decide +kernel, by decide +kernel⟩, List.mem_of_getElem? (i := 727) (by decide +kernel), List.mem_of_getElem? (i := 887) (by decide +kernel), List.mem_of_getElem? (i := 888) (by decide +kernel)⟩
theorem lw_p46 : lw_okq (⟨"AskTreeModel", "lead", "(IIIZZ)V"⟩, 23) := ⟨⟨by decide +kernel, by decide +kernel⟩, List.mem_of_getElem? (i := 727) (by decide +kernel), List.mem_of_getElem? (i := 891) (by decide +kernel), List.mem_of_getElem? (i := 892) (by decide +kernel)⟩
theorem lw_p47 : lw_okq (⟨"AskTreeModel", "bestNode", "(II)I"⟩, 23) := ⟨⟨by decide +kernel, by decide +kernel⟩, List.mem_of_getElem? (i := 727) (by decide +kernel), List.mem_of_getElem? (i := 899) (by decide +kernel), List.mem_of_getElem? (i := 900) (by decide +kernel)⟩
def lw_privs_3 : List (MethodName × Nat) := [(⟨"AskTreeModel", "take", "(IIIIZ)Z"⟩, 23), (⟨"AskTreeModel", "growNode", "(III)I"⟩, 23), (⟨"AskTreeModel", "newNode", "(I)I"⟩, 23), (⟨"AskTreeModel", "countRow", "(I)V"⟩, 23), (⟨"AskTreeModel", "place", "(II)I"⟩, 23), (⟨"AskTreeModel", "wrongAt", "(I)I"⟩, 23), (⟨"AskTreeModel", "countAt", "(I)I"⟩, 23), (⟨"AskTreeModel", "classAt", "(I)I"⟩, 23), (⟨"AskTreeModel", "findQuestion", "(II)Z"⟩, 23), (⟨"AskTreeModel", "countYes", "(III)V"⟩, 23), (⟨"AskTreeModel", "gapsYes", "(III)Z"⟩, 23), (⟨"AskTreeModel", "answers", "(III)Z"⟩, 23), (⟨"AskTreeModel", "goesYes", "(IIIZ)Z"⟩, 23), (⟨"AskTreeModel", "ask", "(IIIZ)V"⟩, 23), (⟨"AskTreeModel", "lead", "(IIIZZ)V"⟩, 23), (⟨"AskTreeModel", "bestNode", "(II)I"⟩, 23)]
theorem lw_r3 : ∀ q ∈ lw_privs_3, lw_okq q := List.forall_mem_cons.mpr ⟨lw_p32, List.forall_mem_cons.mpr ⟨lw_p33, List.forall_mem_cons.mpr ⟨lw_p34, List.forall_mem_cons.mpr ⟨lw_p35, List.forall_mem_cons.mpr ⟨lw_p36, List.forall_mem_cons.mpr ⟨lw_p37, List.forall_mem_cons.mpr ⟨lw_p38, List.forall_mem_cons.mpr ⟨lw_p39, List.forall_mem_cons.mpr ⟨lw_p40, List.forall_mem_cons.mpr ⟨lw_p41, List.forall_mem_cons.mpr ⟨lw_p42, List.forall_mem_cons.mpr ⟨lw_p43, List.forall_mem_cons.mpr ⟨lw_p44, List.forall_mem_cons.mpr ⟨lw_p45, List.forall_mem_cons.mpr ⟨lw_p46, List.forall_mem_cons.mpr ⟨lw_p47, fun _ h => absurd h List.not_mem_nil⟩⟩⟩⟩⟩⟩⟩⟩⟩⟩⟩⟩⟩⟩⟩⟩
theorem lw_p48 : lw_okq (⟨"AskTreeModel", "search", "(II)V"⟩, 23) := ⟨⟨by decide +kernel, by decide +kernel⟩, List.mem_of_getElem? (i := 727) (by decide +kernel), List.mem_of_getElem? (i := 903) (by decide +kernel), List.mem_of_getElem? (i := 904) (by decide +kernel)⟩
theorem lw_p49 : lw_okq (⟨"AskTreeModel", "countNext", "(I)I"⟩, 23) := ⟨⟨by decide +kernel, by decide +kernel⟩, List.mem_of_getElem? (i := 727) (by decide +kernel), List.mem_of_getElem? (i := 907) (by decide +kernel), List.mem_of_getElem? (i := 908) (by decide +kernel)⟩
theorem lw_p50 : lw_okq (⟨"AskTreeModel", "isTree", "(I)Z"⟩, 23) := ⟨⟨by decide +kernel, by decide +kernel⟩, List.mem_of_getElem? (i := 727) (by decide +kernel), List.mem_of_getElem? (i := 915) (by decide +kernel), List.mem_of_getElem? (i := 916) (by decide +kernel)⟩
theorem lw_p51 : lw_okq (⟨"AskTreeModel", "cutNode", "(IIII)I"⟩, 23) := ⟨⟨by decide +kernel, by decide +kernel⟩, List.mem_of_getElem? (i := 727) (by decide +kernel), List.mem_of_getElem? (i := 919) (by decide +kernel), List.mem_of_getElem? (i := 920) (by decide +kernel)⟩
theorem lw_p52 : lw_okq (⟨"AskTreeModel", "isLeaf", "(I)Z"⟩, 23) := ⟨⟨by decide +kernel, by decide +kernel⟩, List.mem_of_getElem? (i := 727) (by decide +kernel), List.mem_of_getElem? (i := 923) (by decide +kernel), List.mem_of_getElem? (i := 924) (by decide +kernel)⟩
theorem lw_p53 : lw_okq (⟨"AskTreeModel", "costOf", "(IIII)J"⟩, 23) := ⟨⟨by decide +kernel, by decide +kernel⟩, List.mem_of_getElem? (i := 727) (by decide +kernel), List.mem_of_getElem? (i := 927) (by decide +kernel), List.mem_of_getElem? (i := 928) (by decide +kernel)⟩
theorem lw_p54 : lw_okq (⟨"AskTreeModel", "wrongBelow", "(II)I"⟩, 23) := ⟨⟨by decide +kernel, by decide +kernel⟩, List.mem_of_getElem? (i := 727) (by decide +kernel), List.mem_of_getElem? (i := 935) (by decide +kernel), List.mem_of_getElem? (i := 936) (by decide +kernel)⟩
theorem lw_p55 : lw_okq (⟨"AskTreeModel", "leavesBelow", "(II)I"⟩, 23) := ⟨⟨by decide +kernel, by decide +kernel⟩, List.mem_of_getElem? (i := 727) (by decide +kernel), List.mem_of_getElem? (i := 939) (by decide +kernel), List.mem_of_getElem? (i := 940) (by decide +kernel)⟩
theorem lw_p56 : lw_okq (⟨"AskTreeModel", "isWrong", "(II)Z"⟩, 23) := ⟨⟨by decide +kernel, by decide +kernel⟩, List.mem_of_getElem? (i := 727) (by decide +kernel), List.mem_of_getElem? (i := 947) (by decide +kernel), List.mem_of_getElem? (i := 948) (by decide +kernel)⟩
theorem lw_p57 : lw_okq (⟨"AskTreeModel", "takeCase", "(I)V"⟩, 23) := ⟨⟨by decide +kernel, by decide +kernel⟩, List.mem_of_getElem? (i := 727) (by decide +kernel), List.mem_of_getElem? (i := 951) (by decide +kernel), List.mem_of_getElem? (i := 952) (by decide +kernel)⟩
theorem lw_p58 : lw_okq (⟨"AskTreeModel", "leafOf", "(I)I"⟩, 23) := ⟨⟨by decide +kernel, by decide +kernel⟩, List.mem_of_getElem? (i := 727) (by decide +kernel), List.mem_of_getElem? (i := 955) (by decide +kernel), List.mem_of_getElem? (i := 956) (by decide +kernel)⟩
theorem lw_p59 : lw_okq (⟨"AskTreeModel", "askedOf", "(IIII)I"⟩, 23) := ⟨⟨by decide +kernel, by decide +kernel⟩, List.mem_of_getElem? (i := 727) (by decide +kernel), List.mem_of_getElem? (i := 995) (by decide +kernel), List.mem_of_getElem? (i := 996) (by decide +kernel)⟩
theorem lw_p60 : lw_okq (⟨"AskTreeModel", "pathTo", "(II)I"⟩, 23) := ⟨⟨by decide +kernel, by decide +kernel⟩, List.mem_of_getElem? (i := 727) (by decide +kernel), List.mem_of_getElem? (i := 999) (by decide +kernel), List.mem_of_getElem? (i := 1000) (by decide +kernel)⟩
theorem lw_p61 : lw_okq (⟨"AskTreeModel", "isAbout", "(III)Z"⟩, 23) := ⟨⟨by decide +kernel, by decide +kernel⟩, List.mem_of_getElem? (i := 727) (by decide +kernel), List.mem_of_getElem? (i := 1003) (by decide +kernel), List.mem_of_getElem? (i := 1004) (by decide +kernel)⟩
theorem lw_p62 : lw_okq (⟨"AskTreeModel", "numberAt", "(II)I"⟩, 23) := ⟨⟨by decide +kernel, by decide +kernel⟩, List.mem_of_getElem? (i := 727) (by decide +kernel), List.mem_of_getElem? (i := 1007) (by decide +kernel), List.mem_of_getElem? (i := 1008) (by decide +kernel)⟩
theorem lw_p63 : lw_okq (⟨"AskTreeModel", "mustBeYes", "(II)Z"⟩, 23) := ⟨⟨by decide +kernel, by decide +kernel⟩, List.mem_of_getElem? (i := 727) (by decide +kernel), List.mem_of_getElem? (i := 1011) (by decide +kernel), List.mem_of_getElem? (i := 1012) (by decide +kernel)⟩
def lw_privs_4 : List (MethodName × Nat) := [(⟨"AskTreeModel", "search", "(II)V"⟩, 23), (⟨"AskTreeModel", "countNext", "(I)I"⟩, 23), (⟨"AskTreeModel", "isTree", "(I)Z"⟩, 23), (⟨"AskTreeModel", "cutNode", "(IIII)I"⟩, 23), (⟨"AskTreeModel", "isLeaf", "(I)Z"⟩, 23), (⟨"AskTreeModel", "costOf", "(IIII)J"⟩, 23), (⟨"AskTreeModel", "wrongBelow", "(II)I"⟩, 23), (⟨"AskTreeModel", "leavesBelow", "(II)I"⟩, 23), (⟨"AskTreeModel", "isWrong", "(II)Z"⟩, 23), (⟨"AskTreeModel", "takeCase", "(I)V"⟩, 23), (⟨"AskTreeModel", "leafOf", "(I)I"⟩, 23), (⟨"AskTreeModel", "askedOf", "(IIII)I"⟩, 23), (⟨"AskTreeModel", "pathTo", "(II)I"⟩, 23), (⟨"AskTreeModel", "isAbout", "(III)Z"⟩, 23), (⟨"AskTreeModel", "numberAt", "(II)I"⟩, 23), (⟨"AskTreeModel", "mustBeYes", "(II)Z"⟩, 23)]
theorem lw_r4 : ∀ q ∈ lw_privs_4, lw_okq q := List.forall_mem_cons.mpr ⟨lw_p48, List.forall_mem_cons.mpr ⟨lw_p49, List.forall_mem_cons.mpr ⟨lw_p50, List.forall_mem_cons.mpr ⟨lw_p51, List.forall_mem_cons.mpr ⟨lw_p52, List.forall_mem_cons.mpr ⟨lw_p53, List.forall_mem_cons.mpr ⟨lw_p54, List.forall_mem_cons.mpr ⟨lw_p55, List.forall_mem_cons.mpr ⟨lw_p56, List.forall_mem_cons.mpr ⟨lw_p57, List.forall_mem_cons.mpr ⟨lw_p58, List.forall_mem_cons.mpr ⟨lw_p59, List.forall_mem_cons.mpr ⟨lw_p60, List.forall_mem_cons.mpr ⟨lw_p61, List.forall_mem_cons.mpr ⟨lw_p62, List.forall_mem_cons.mpr ⟨lw_p63, fun _ h => absurd h List.not_mem_nil⟩⟩⟩⟩⟩⟩⟩⟩⟩⟩⟩⟩⟩⟩⟩⟩
theorem lw_p64 : lw_okq (⟨"AskTreeModel", "follows", "(IIII)Z"⟩, 23) := ⟨⟨by decide +kernel, by decide +kernel⟩, List.mem_of_getElem? (i := 727) (by decide +kernel), List.mem_of_getElem? (i := 1015) (by decide +kernel), List.mem_of_getElem? (i := 1016) (by decide +kernel)⟩
theorem lw_p65 : lw_okq (⟨"AskTreeModel", "becomes", "(IIII)I"⟩, 23) := ⟨⟨by decide +kernel, by decide +kernel⟩, List.mem_of_getElem? (i := 727) (by decide +kernel), List.mem_of_getElem? (i := 1023) (by decide +kernel), List.mem_of_getElem? (i := 1024) (by decide +kernel)⟩
def lw_privs_5 : List (MethodName × Nat) := [(⟨"AskTreeModel", "follows", "(IIII)Z"⟩, 23), (⟨"AskTreeModel", "becomes", "(IIII)I"⟩, 23)]
theorem lw_r5 : ∀ q ∈ lw_privs_5, lw_okq q := List.forall_mem_cons.mpr ⟨lw_p64, List.forall_mem_cons.mpr ⟨lw_p65, fun _ h => absurd h List.not_mem_nil⟩⟩
def lw_privs : List (MethodName × Nat) := lw_privs_1 ++ (lw_privs_2 ++ (lw_privs_3 ++ (lw_privs_4 ++ (lw_privs_5))))
def lw_tbl : List Cond := k2_sels lw_privs ++ tables_1
theorem lw_privs_ok : ∀ q ∈ lw_privs, lw_okq q := by
  show ∀ q ∈ lw_privs_1 ++ (lw_privs_2 ++ (lw_privs_3 ++ (lw_privs_4 ++ (lw_privs_5)))), lw_okq q
  exact List.forall_mem_append.mpr ⟨lw_r1, List.forall_mem_append.mpr ⟨lw_r2, List.forall_mem_append.mpr ⟨lw_r3, List.forall_mem_append.mpr ⟨lw_r4, lw_r5⟩⟩⟩⟩
end
section
theorem goodIn_r {big : List Cond} (ws : List Cond) (ps : List Nat) (hp : ws = ps.filterMap (fun i => big[i]?)) (h : ws.all goodWord = true) : GoodIn big ws := by
  intro w hw
  have h1 := List.all_eq_true.mp h w hw
  rw [hp] at hw
  obtain ⟨i, -, hi⟩ := List.mem_filterMap.mp hw
  have hm : w ∈ big := by first | exact List.mem_of_getElem? hi | exact List.getElem?_mem hi
  exact ⟨hm, good_of_word h1⟩
theorem goodIn_app {big a b : List Cond} (ha : GoodIn big a) (hb : GoodIn big b) : GoodIn big (a ++ b) := fun w h => (List.mem_append.mp h).elim (ha w) (hb w)
theorem goodIn_ca {big a b : List Cond} {c : Cond} (ha : GoodIn big (c :: a)) (hb : GoodIn big b) : GoodIn big (c :: (a ++ b)) := fun w h => (List.mem_cons.mp h).elim (fun e => ha w (List.mem_cons.mpr (Or.inl e))) (fun h => (List.mem_append.mp h).elim (fun h => ha w (List.mem_cons.mpr (Or.inr h))) (hb w))
theorem goodIn_sub {big ws : List Cond} (hm : ∀ w ∈ ws, w ∈ big) (h : ws.all goodWord = true) : GoodIn big ws := fun w hw => ⟨hm w hw, good_of_word (List.all_eq_true.mp h w hw)⟩
def RX0 : String := "AskTree$Cases"
def TX0 : u_T := fun k => match k with
  | 0 => ("AskTree$Cases", "kinds", "[I", true)
  | 1 => ("AskTree$Cases", "classes", "[I", true)
  | 2 => ("AskTree$Cases", "marks", "[I", true)
  | 3 => ("AskTree$Cases", "order", "[I", true)
  | _ => ("AskTree$Cases", "size", "I", false)
def tyX0 : Nat → FieldType := fun k => match k with
  | 0 => .array .int
  | 1 => .array .int
  | 2 => .array .int
  | 3 => .array .int
  | _ => .int
abbrev wsX00 : List Cond := u_ws RX0 TX0 5
theorem nmX0 : ∀ a, a < 5 → ∀ b, b < 5 → a ≠ b → (TX0 a).2.1 ≠ (TX0 b).2.1 := by decide +kernel
theorem tyX0_ok : ∀ k, k < 5 → parseFieldDescriptor (TX0 k).2.2.1 = some (tyX0 k) := by decide +kernel
abbrev cX0_init : ByteArray := prog_2_method_1_code
def yX0_init : MethodName := ⟨RX0, "<init>", "()V"⟩
abbrev cX0_append : ByteArray := prog_2_method_2_code
def yX0_append : MethodName := ⟨RX0, "append", "(I[I)V"⟩
abbrev cX0_putInOrder : ByteArray := prog_2_method_3_code
def yX0_putInOrder : MethodName := ⟨RX0, "putInOrder", "(II)V"⟩
abbrev cX0_takeOut : ByteArray := prog_2_method_4_code
def yX0_takeOut : MethodName := ⟨RX0, "takeOut", "(I)V"⟩
abbrev cX0_takeOutOfOrder : ByteArray := prog_2_method_5_code
def yX0_takeOutOfOrder : MethodName := ⟨RX0, "takeOutOfOrder", "(II)V"⟩
abbrev cX0_haveGaps : ByteArray := prog_2_method_6_code
def yX0_haveGaps : MethodName := ⟨RX0, "haveGaps", "()Z"⟩
def RX1 : String := "AskTree$Finder"
def TX1 : u_T := fun k => match k with
  | 0 => ("AskTree$Finder", "cases", "LAskTree$Cases;", true)
  | 1 => ("AskTree$Finder", "rows", "LAskTree$Rows;", true)
  | 2 => ("AskTree$Finder", "all", "[I", true)
  | 3 => ("AskTree$Finder", "yes", "[I", true)
  | 4 => ("AskTree$Finder", "oneMark", "I", false)
  | 5 => ("AskTree$Finder", "oneValue", "I", false)
  | 6 => ("AskTree$Finder", "oneWrong", "I", false)
  | 7 => ("AskTree$Finder", "oneTotal", "I", false)
  | 8 => ("AskTree$Finder", "topMark", "I", false)
  | 9 => ("AskTree$Finder", "topValue", "I", false)
  | 10 => ("AskTree$Finder", "topWrong", "I", false)
  | _ => ("AskTree$Finder", "topAsks", "I", false)
def tyX1 : Nat → FieldType := fun k => match k with
  | 0 => .object "AskTree$Cases"
  | 1 => .object "AskTree$Rows"
  | 2 => .array .int
  | 3 => .array .int
  | 4 => .int
  | 5 => .int
  | 6 => .int
  | 7 => .int
  | 8 => .int
  | 9 => .int
  | 10 => .int
  | _ => .int
abbrev wsX10 : List Cond := u_ws RX1 TX1 12
theorem nmX1 : ∀ a, a < 12 → ∀ b, b < 12 → a ≠ b → (TX1 a).2.1 ≠ (TX1 b).2.1 := by decide +kernel
theorem tyX1_ok : ∀ k, k < 12 → parseFieldDescriptor (TX1 k).2.2.1 = some (tyX1 k) := by decide +kernel
abbrev cX1_init : ByteArray := prog_3_method_1_code
def yX1_init : MethodName := ⟨RX1, "<init>", "(LAskTree$Cases;LAskTree$Rows;)V"⟩
abbrev cX1_findInto : ByteArray := prog_3_method_2_code
def yX1_findInto : MethodName := ⟨RX1, "findInto", "(LAskTree$Tree;I)V"⟩
abbrev cX1_build : ByteArray := prog_3_method_3_code
def yX1_build : MethodName := ⟨RX1, "build", "(LAskTree$Tree;IIII)I"⟩
abbrev cX1_takeOne : ByteArray := prog_3_method_4_code
def yX1_takeOne : MethodName := ⟨RX1, "takeOne", "(II)V"⟩
abbrev cX1_seekTop : ByteArray := prog_3_method_5_code
def yX1_seekTop : MethodName := ⟨RX1, "seekTop", "(III)V"⟩
abbrev cX1_judgeTop : ByteArray := prog_3_method_6_code
def yX1_judgeTop : MethodName := ⟨RX1, "judgeTop", "(IIII)V"⟩
abbrev cX1_seekOne : ByteArray := prog_3_method_7_code
def yX1_seekOne : MethodName := ⟨RX1, "seekOne", "(III)V"⟩
abbrev cX1_seekOneIn : ByteArray := prog_3_method_8_code
def yX1_seekOneIn : MethodName := ⟨RX1, "seekOneIn", "(IIII)V"⟩
abbrev cX1_judgeOne : ByteArray := prog_3_method_9_code
def yX1_judgeOne : MethodName := ⟨RX1, "judgeOne", "(II)V"⟩
def RX2 : String := "AskTree$Grower"
def TX2 : u_T := fun k => match k with
  | 0 => ("AskTree$Grower", "cases", "LAskTree$Cases;", true)
  | 1 => ("AskTree$Grower", "rows", "LAskTree$Rows;", true)
  | 2 => ("AskTree$Grower", "all", "[I", true)
  | 3 => ("AskTree$Grower", "gaps", "[I", true)
  | 4 => ("AskTree$Grower", "yes", "[I", true)
  | 5 => ("AskTree$Grower", "depth", "I", false)
  | 6 => ("AskTree$Grower", "least", "I", false)
  | 7 => ("AskTree$Grower", "mark", "I", false)
  | 8 => ("AskTree$Grower", "value", "I", false)
  | 9 => ("AskTree$Grower", "way", "I", false)
  | 10 => ("AskTree$Grower", "gainUpper", "J", false)
  | _ => ("AskTree$Grower", "gainLower", "J", false)
def tyX2 : Nat → FieldType := fun k => match k with
  | 0 => .object "AskTree$Cases"
  | 1 => .object "AskTree$Rows"
  | 2 => .array .int
  | 3 => .array .int
  | 4 => .array .int
  | 5 => .int
  | 6 => .int
  | 7 => .int
  | 8 => .int
  | 9 => .int
  | 10 => .long
  | _ => .long
abbrev wsX20 : List Cond := u_ws RX2 TX2 12
theorem nmX2 : ∀ a, a < 12 → ∀ b, b < 12 → a ≠ b → (TX2 a).2.1 ≠ (TX2 b).2.1 := by decide +kernel
theorem tyX2_ok : ∀ k, k < 12 → parseFieldDescriptor (TX2 k).2.2.1 = some (tyX2 k) := by decide +kernel
abbrev cX2_init : ByteArray := prog_4_method_1_code
def yX2_init : MethodName := ⟨RX2, "<init>", "(LAskTree$Cases;LAskTree$Rows;)V"⟩
abbrev cX2_growInto : ByteArray := prog_4_method_2_code
def yX2_growInto : MethodName := ⟨RX2, "growInto", "(LAskTree$Tree;II)V"⟩
abbrev cX2_branch : ByteArray := prog_4_method_3_code
def yX2_branch : MethodName := ⟨RX2, "branch", "(LAskTree$Tree;III)I"⟩
abbrev cX2_seek : ByteArray := prog_4_method_4_code
def yX2_seek : MethodName := ⟨RX2, "seek", "(II)Z"⟩
abbrev cX2_readGaps : ByteArray := prog_4_method_5_code
def yX2_readGaps : MethodName := ⟨RX2, "readGaps", "(III)I"⟩
abbrev cX2_seekIn : ByteArray := prog_4_method_6_code
def yX2_seekIn : MethodName := ⟨RX2, "seekIn", "(III)V"⟩
abbrev cX2_weigh : ByteArray := prog_4_method_7_code
def yX2_weigh : MethodName := ⟨RX2, "weigh", "(IIII)V"⟩
def RX3 : String := "AskTree$Pruner"
def TX3 : u_T := fun k => match k with
  | 0 => ("AskTree$Pruner", "costs", "[I", true)
  | 1 => ("AskTree$Pruner", "leafPrice", "I", false)
  | 2 => ("AskTree$Pruner", "wrongPrice", "I", false)
  | 3 => ("AskTree$Pruner", "upper", "I", false)
  | _ => ("AskTree$Pruner", "lower", "I", false)
def tyX3 : Nat → FieldType := fun k => match k with
  | 0 => .array .int
  | 1 => .int
  | 2 => .int
  | 3 => .int
  | _ => .int
abbrev wsX30 : List Cond := u_ws RX3 TX3 5
theorem nmX3 : ∀ a, a < 5 → ∀ b, b < 5 → a ≠ b → (TX3 a).2.1 ≠ (TX3 b).2.1 := by decide +kernel
theorem tyX3_ok : ∀ k, k < 5 → parseFieldDescriptor (TX3 k).2.2.1 = some (tyX3 k) := by decide +kernel
abbrev cX3_init : ByteArray := prog_5_method_1_code
def yX3_init : MethodName := ⟨RX3, "<init>", "()V"⟩
abbrev cX3_cutInto : ByteArray := prog_5_method_2_code
def yX3_cutInto : MethodName := ⟨RX3, "cutInto", "(LAskTree$Tree;LAskTree$Tree;II)V"⟩
abbrev cX3_leafCost : ByteArray := prog_5_method_3_code
def yX3_leafCost : MethodName := ⟨RX3, "leafCost", "(LAskTree$Tree;I)I"⟩
abbrev cX3_copy : ByteArray := prog_5_method_4_code
def yX3_copy : MethodName := ⟨RX3, "copy", "(LAskTree$Tree;LAskTree$Tree;II)I"⟩
abbrev cX3_findPrice : ByteArray := prog_5_method_5_code
def yX3_findPrice : MethodName := ⟨RX3, "findPrice", "(LAskTree$Tree;)V"⟩
abbrev cX3_weighNode : ByteArray := prog_5_method_6_code
def yX3_weighNode : MethodName := ⟨RX3, "weighNode", "(LAskTree$Tree;I)V"⟩
abbrev cX3_commonDivisor : ByteArray := prog_5_method_7_code
def yX3_commonDivisor : MethodName := ⟨RX3, "commonDivisor", "(II)I"⟩
def RX4 : String := "AskTree$Rows"
def TX4 : u_T := fun k => match k with
  | 0 => ("AskTree$Rows", "row", "[I", true)
  | 1 => ("AskTree$Rows", "sides", "[I", true)
  | 2 => ("AskTree$Rows", "kept", "[I", true)
  | 3 => ("AskTree$Rows", "cases", "LAskTree$Cases;", true)
  | _ => ("AskTree$Rows", "size", "I", false)
def tyX4 : Nat → FieldType := fun k => match k with
  | 0 => .array .int
  | 1 => .array .int
  | 2 => .array .int
  | 3 => .object "AskTree$Cases"
  | _ => .int
abbrev wsX40 : List Cond := u_ws RX4 TX4 5
theorem nmX4 : ∀ a, a < 5 → ∀ b, b < 5 → a ≠ b → (TX4 a).2.1 ≠ (TX4 b).2.1 := by decide +kernel
theorem tyX4_ok : ∀ k, k < 5 → parseFieldDescriptor (TX4 k).2.2.1 = some (tyX4 k) := by decide +kernel
abbrev cX4_init : ByteArray := prog_6_method_1_code
def yX4_init : MethodName := ⟨RX4, "<init>", "(LAskTree$Cases;)V"⟩
abbrev cX4_loadAll : ByteArray := prog_6_method_2_code
def yX4_loadAll : MethodName := ⟨RX4, "loadAll", "()V"⟩
abbrev cX4_loadWithout : ByteArray := prog_6_method_3_code
def yX4_loadWithout : MethodName := ⟨RX4, "loadWithout", "(II)V"⟩
abbrev cX4_caseAt : ByteArray := prog_6_method_4_code
def yX4_caseAt : MethodName := ⟨RX4, "caseAt", "(II)I"⟩
abbrev cX4_markAt : ByteArray := prog_6_method_5_code
def yX4_markAt : MethodName := ⟨RX4, "markAt", "(II)I"⟩
abbrev cX4_isSame : ByteArray := prog_6_method_6_code
def yX4_isSame : MethodName := ⟨RX4, "isSame", "(III)Z"⟩
abbrev cX4_tally : ByteArray := prog_6_method_7_code
def yX4_tally : MethodName := ⟨RX4, "tally", "(II[I)V"⟩
abbrev cX4_setSides : ByteArray := prog_6_method_8_code
def yX4_setSides : MethodName := ⟨RX4, "setSides", "(IIII)V"⟩
abbrev cX4_part : ByteArray := prog_6_method_9_code
def yX4_part : MethodName := ⟨RX4, "part", "(IIIII)I"⟩
abbrev cX4_partRow : ByteArray := prog_6_method_10_code
def yX4_partRow : MethodName := ⟨RX4, "partRow", "(II)I"⟩
def RX5 : String := "AskTree$Rules"
def TX5 : u_T := fun k => match k with
  | 0 => ("AskTree$Rules", "kinds", "[I", true)
  | 1 => ("AskTree$Rules", "least", "[I", true)
  | 2 => ("AskTree$Rules", "greatest", "[I", true)
  | 3 => ("AskTree$Rules", "must", "[I", true)
  | 4 => ("AskTree$Rules", "barredCount", "[I", true)
  | 5 => ("AskTree$Rules", "barred", "[I", true)
  | _ => ("AskTree$Rules", "clashes", "[Z", true)
def tyX5 : Nat → FieldType := fun k => match k with
  | 0 => .array .int
  | 1 => .array .int
  | 2 => .array .int
  | 3 => .array .int
  | 4 => .array .int
  | 5 => .array .int
  | _ => .array .boolean
abbrev wsX50 : List Cond := u_ws RX5 TX5 7
theorem nmX5 : ∀ a, a < 7 → ∀ b, b < 7 → a ≠ b → (TX5 a).2.1 ≠ (TX5 b).2.1 := by decide +kernel
theorem tyX5_ok : ∀ k, k < 7 → parseFieldDescriptor (TX5 k).2.2.1 = some (tyX5 k) := by decide +kernel
abbrev cX5_init : ByteArray := prog_7_method_1_code
def yX5_init : MethodName := ⟨RX5, "<init>", "([I)V"⟩
abbrev cX5_readFor : ByteArray := prog_7_method_2_code
def yX5_readFor : MethodName := ⟨RX5, "readFor", "(LAskTree$Tree;I)V"⟩
abbrev cX5_note : ByteArray := prog_7_method_3_code
def yX5_note : MethodName := ⟨RX5, "note", "(IIZ)V"⟩
abbrev cX5_noteSort : ByteArray := prog_7_method_4_code
def yX5_noteSort : MethodName := ⟨RX5, "noteSort", "(IIZ)V"⟩
abbrev cX5_isBarred : ByteArray := prog_7_method_5_code
def yX5_isBarred : MethodName := ⟨RX5, "isBarred", "(II)Z"⟩
abbrev cX5_canFollow : ByteArray := prog_7_method_6_code
def yX5_canFollow : MethodName := ⟨RX5, "canFollow", "(I)Z"⟩
abbrev cX5_canAllFollow : ByteArray := prog_7_method_7_code
def yX5_canAllFollow : MethodName := ⟨RX5, "canAllFollow", "()Z"⟩
abbrev cX5_first : ByteArray := prog_7_method_8_code
def yX5_first : MethodName := ⟨RX5, "first", "(I)I"⟩
abbrev cX5_second : ByteArray := prog_7_method_9_code
def yX5_second : MethodName := ⟨RX5, "second", "(I)I"⟩
abbrev cX5_turn : ByteArray := prog_7_method_10_code
def yX5_turn : MethodName := ⟨RX5, "turn", "(II)I"⟩
abbrev cX5_turnInto : ByteArray := prog_7_method_11_code
def yX5_turnInto : MethodName := ⟨RX5, "turnInto", "([I[I)V"⟩
abbrev cX5_offCount : ByteArray := prog_7_method_12_code
def yX5_offCount : MethodName := ⟨RX5, "offCount", "([I)I"⟩
abbrev cX5_wayTo : ByteArray := prog_7_method_13_code
def yX5_wayTo : MethodName := ⟨RX5, "wayTo", "([I)I"⟩
def RX6 : String := "AskTree$Tree"
def TX6 : u_T := fun k => match k with
  | 0 => ("AskTree$Tree", "asked", "[I", true)
  | 1 => ("AskTree$Tree", "values", "[I", true)
  | 2 => ("AskTree$Tree", "below", "[I", true)
  | 3 => ("AskTree$Tree", "ways", "[I", true)
  | 4 => ("AskTree$Tree", "above", "[I", true)
  | 5 => ("AskTree$Tree", "shares", "[I", true)
  | _ => ("AskTree$Tree", "size", "I", false)
def tyX6 : Nat → FieldType := fun k => match k with
  | 0 => .array .int
  | 1 => .array .int
  | 2 => .array .int
  | 3 => .array .int
  | 4 => .array .int
  | 5 => .array .int
  | _ => .int
abbrev wsX60 : List Cond := u_ws RX6 TX6 7
theorem nmX6 : ∀ a, a < 7 → ∀ b, b < 7 → a ≠ b → (TX6 a).2.1 ≠ (TX6 b).2.1 := by decide +kernel
theorem tyX6_ok : ∀ k, k < 7 → parseFieldDescriptor (TX6 k).2.2.1 = some (tyX6 k) := by decide +kernel
abbrev cX6_init : ByteArray := prog_8_method_1_code
def yX6_init : MethodName := ⟨RX6, "<init>", "()V"⟩
abbrev cX6_has : ByteArray := prog_8_method_2_code
def yX6_has : MethodName := ⟨RX6, "has", "(I)Z"⟩
abbrev cX6_isLeaf : ByteArray := prog_8_method_3_code
def yX6_isLeaf : MethodName := ⟨RX6, "isLeaf", "(I)Z"⟩
abbrev cX6_open : ByteArray := prog_8_method_4_code
def yX6_open : MethodName := ⟨RX6, "open", "(I[II)I"⟩
abbrev cX6_ask : ByteArray := prog_8_method_5_code
def yX6_ask : MethodName := ⟨RX6, "ask", "(IIII)V"⟩
abbrev cX6_total : ByteArray := prog_8_method_6_code
def yX6_total : MethodName := ⟨RX6, "total", "(I)I"⟩
abbrev cX6_verdict : ByteArray := prog_8_method_7_code
def yX6_verdict : MethodName := ⟨RX6, "verdict", "(I)I"⟩
abbrev cX6_misses : ByteArray := prog_8_method_8_code
def yX6_misses : MethodName := ⟨RX6, "misses", "(I)I"⟩
abbrev cX6_leaves : ByteArray := prog_8_method_9_code
def yX6_leaves : MethodName := ⟨RX6, "leaves", "()I"⟩
abbrev cX6_deepest : ByteArray := prog_8_method_10_code
def yX6_deepest : MethodName := ⟨RX6, "deepest", "()I"⟩
abbrev cX6_allMisses : ByteArray := prog_8_method_11_code
def yX6_allMisses : MethodName := ⟨RX6, "allMisses", "()I"⟩
abbrev cX6_leafFor : ByteArray := prog_8_method_12_code
def yX6_leafFor : MethodName := ⟨RX6, "leafFor", "([II[I)I"⟩
def RX7 : String := "AskTree"
def TX7 : u_T := fun k => match k with
  | 0 => ("AskTree", "cases", "LAskTree$Cases;", true)
  | 1 => ("AskTree", "rows", "LAskTree$Rows;", true)
  | 2 => ("AskTree", "grower", "LAskTree$Grower;", true)
  | 3 => ("AskTree", "finder", "LAskTree$Finder;", true)
  | 4 => ("AskTree", "pruner", "LAskTree$Pruner;", true)
  | 5 => ("AskTree", "rules", "LAskTree$Rules;", true)
  | 6 => ("AskTree", "trees", "[LAskTree$Tree;", true)
  | 7 => ("AskTree", "told", "[I", true)
  | 8 => ("AskTree", "turnedMarks", "[I", true)
  | 9 => ("AskTree", "ballots", "[I", true)
  | 10 => ("AskTree", "treeCount", "I", false)
  | 11 => ("AskTree", "lastLeaf", "I", false)
  | 12 => ("AskTree", "lastVoices", "I", false)
  | _ => ("AskTree", "hasTurned", "Z", false)
def tyX7 : Nat → FieldType := fun k => match k with
  | 0 => .object "AskTree$Cases"
  | 1 => .object "AskTree$Rows"
  | 2 => .object "AskTree$Grower"
  | 3 => .object "AskTree$Finder"
  | 4 => .object "AskTree$Pruner"
  | 5 => .object "AskTree$Rules"
  | 6 => .array (.object "AskTree$Tree")
  | 7 => .array .int
  | 8 => .array .int
  | 9 => .array .int
  | 10 => .int
  | 11 => .int
  | 12 => .int
  | _ => .boolean
abbrev wsX70 : List Cond := u_ws RX7 TX7 14
theorem nmX7 : ∀ a, a < 14 → ∀ b, b < 14 → a ≠ b → (TX7 a).2.1 ≠ (TX7 b).2.1 := by decide +kernel
theorem tyX7_ok : ∀ k, k < 14 → parseFieldDescriptor (TX7 k).2.2.1 = some (tyX7 k) := by decide +kernel
abbrev cX7_init : ByteArray := prog_1_method_1_code
def yX7_init : MethodName := ⟨RX7, "<init>", "()V"⟩
abbrev cX7_sort : ByteArray := prog_1_method_2_code
def yX7_sort : MethodName := ⟨RX7, "sort", "(II)I"⟩
abbrev cX7_add : ByteArray := prog_1_method_3_code
def yX7_add : MethodName := ⟨RX7, "add", "(IIIII)I"⟩
abbrev cX7_drop : ByteArray := prog_1_method_4_code
def yX7_drop : MethodName := ⟨RX7, "drop", "(I)I"⟩
abbrev cX7_mark : ByteArray := prog_1_method_5_code
def yX7_mark : MethodName := ⟨RX7, "mark", "(II)I"⟩
abbrev cX7_cls : ByteArray := prog_1_method_6_code
def yX7_cls : MethodName := ⟨RX7, "cls", "(I)I"⟩
abbrev cX7_grow : ByteArray := prog_1_method_7_code
def yX7_grow : MethodName := ⟨RX7, "grow", "(II)I"⟩
abbrev cX7_best : ByteArray := prog_1_method_8_code
def yX7_best : MethodName := ⟨RX7, "best", "(I)I"⟩
abbrev cX7_cut : ByteArray := prog_1_method_9_code
def yX7_cut : MethodName := ⟨RX7, "cut", "(III)I"⟩
abbrev cX7_price : ByteArray := prog_1_method_10_code
def yX7_price : MethodName := ⟨RX7, "price", "(II)I"⟩
abbrev cX7_folds : ByteArray := prog_1_method_11_code
def yX7_folds : MethodName := ⟨RX7, "folds", "(III)I"⟩
abbrev cX7_remove : ByteArray := prog_1_method_12_code
def yX7_remove : MethodName := ⟨RX7, "remove", "()I"⟩
abbrev cX7_tree : ByteArray := prog_1_method_13_code
def yX7_tree : MethodName := ⟨RX7, "tree", "(II)I"⟩
abbrev cX7_node : ByteArray := prog_1_method_14_code
def yX7_node : MethodName := ⟨RX7, "node", "(III)I"⟩
abbrev cX7_share : ByteArray := prog_1_method_15_code
def yX7_share : MethodName := ⟨RX7, "share", "(III)I"⟩
abbrev cX7_say : ByteArray := prog_1_method_16_code
def yX7_say : MethodName := ⟨RX7, "say", "(IIIII)I"⟩
abbrev cX7_said : ByteArray := prog_1_method_17_code
def yX7_said : MethodName := ⟨RX7, "said", "()I"⟩
abbrev cX7_vote : ByteArray := prog_1_method_18_code
def yX7_vote : MethodName := ⟨RX7, "vote", "(IIII)I"⟩
abbrev cX7_voices : ByteArray := prog_1_method_19_code
def yX7_voices : MethodName := ⟨RX7, "voices", "()I"⟩
abbrev cX7_rule : ByteArray := prog_1_method_20_code
def yX7_rule : MethodName := ⟨RX7, "rule", "(IIII)I"⟩
abbrev cX7_near : ByteArray := prog_1_method_21_code
def yX7_near : MethodName := ⟨RX7, "near", "(IIIII)I"⟩
abbrev cX7_turned : ByteArray := prog_1_method_22_code
def yX7_turned : MethodName := ⟨RX7, "turned", "(I)I"⟩
abbrev cX7_count : ByteArray := prog_1_method_23_code
def yX7_count : MethodName := ⟨RX7, "count", "(I)I"⟩
abbrev cX7_isCase : ByteArray := prog_1_method_24_code
def yX7_isCase : MethodName := ⟨RX7, "isCase", "(I)Z"⟩
abbrev cX7_isMark : ByteArray := prog_1_method_25_code
def yX7_isMark : MethodName := ⟨RX7, "isMark", "(I)Z"⟩
abbrev cX7_isClass : ByteArray := prog_1_method_26_code
def yX7_isClass : MethodName := ⟨RX7, "isClass", "(I)Z"⟩
abbrev cX7_canGrow : ByteArray := prog_1_method_27_code
def yX7_canGrow : MethodName := ⟨RX7, "canGrow", "(II)Z"⟩
abbrev cX7_treeAt : ByteArray := prog_1_method_28_code
def yX7_treeAt : MethodName := ⟨RX7, "treeAt", "(I)LAskTree$Tree;"⟩
abbrev cX7_placeFor : ByteArray := prog_1_method_29_code
def yX7_placeFor : MethodName := ⟨RX7, "placeFor", "(I)LAskTree$Tree;"⟩
abbrev cX7_readTold : ByteArray := prog_1_method_30_code
def yX7_readTold : MethodName := ⟨RX7, "readTold", "(IIII)Z"⟩
abbrev cX7_readPair : ByteArray := prog_1_method_31_code
def yX7_readPair : MethodName := ⟨RX7, "readPair", "(II)V"⟩
abbrev cX7_toldHasGap : ByteArray := prog_1_method_32_code
def yX7_toldHasGap : MethodName := ⟨RX7, "toldHasGap", "()Z"⟩
abbrev cX7_missed : ByteArray := prog_1_method_33_code
def yX7_missed : MethodName := ⟨RX7, "missed", "(LAskTree$Tree;I)I"⟩
abbrev cX7_missesNow : ByteArray := prog_1_method_34_code
def yX7_missesNow : MethodName := ⟨RX7, "missesNow", "(LAskTree$Tree;)I"⟩
abbrev cX7_nearestOtherLeaf : ByteArray := prog_1_method_35_code
def yX7_nearestOtherLeaf : MethodName := ⟨RX7, "nearestOtherLeaf", "(LAskTree$Tree;)I"⟩
abbrev cX7_firstGreatest : ByteArray := prog_1_method_36_code
def yX7_firstGreatest : MethodName := ⟨RX7, "firstGreatest", "([II)I"⟩
abbrev cX7_isYes : ByteArray := prog_1_method_37_code
def yX7_isYes : MethodName := ⟨RX7, "isYes", "(IIII)Z"⟩
abbrev cX7_clear : ByteArray := prog_1_method_38_code
def yX7_clear : MethodName := ⟨RX7, "clear", "([I)V"⟩
def RX8 : String := "AskTreeModel"
def TX8 : u_T := fun k => match k with
  | 0 => ("AskTreeModel", "marks", "[I", true)
  | 1 => ("AskTreeModel", "classes", "[I", true)
  | 2 => ("AskTreeModel", "cases", "I", false)
  | 3 => ("AskTreeModel", "isSort", "[Z", true)
  | 4 => ("AskTreeModel", "nodes", "[I", true)
  | 5 => ("AskTreeModel", "many", "[I", true)
  | 6 => ("AskTreeModel", "trees", "I", false)
  | 7 => ("AskTreeModel", "in", "[Z", true)
  | 8 => ("AskTreeModel", "making", "I", false)
  | 9 => ("AskTreeModel", "foundMark", "I", false)
  | 10 => ("AskTreeModel", "foundV", "I", false)
  | 11 => ("AskTreeModel", "asked", "[I", true)
  | 12 => ("AskTreeModel", "turned", "[I", true)
  | 13 => ("AskTreeModel", "hasTurned", "Z", false)
  | 14 => ("AskTreeModel", "saidLeaf", "I", false)
  | 15 => ("AskTreeModel", "voices", "I", false)
  | 16 => ("AskTreeModel", "heap", "[I", true)
  | 17 => ("AskTreeModel", "heapYes", "[I", true)
  | 18 => ("AskTreeModel", "path", "[I", true)
  | 19 => ("AskTreeModel", "bestWrong", "[I", true)
  | 20 => ("AskTreeModel", "bestAsked", "[I", true)
  | 21 => ("AskTreeModel", "bestMark", "[I", true)
  | _ => ("AskTreeModel", "bestV", "[I", true)
def tyX8 : Nat → FieldType := fun k => match k with
  | 0 => .array .int
  | 1 => .array .int
  | 2 => .int
  | 3 => .array .boolean
  | 4 => .array .int
  | 5 => .array .int
  | 6 => .int
  | 7 => .array .boolean
  | 8 => .int
  | 9 => .int
  | 10 => .int
  | 11 => .array .int
  | 12 => .array .int
  | 13 => .boolean
  | 14 => .int
  | 15 => .int
  | 16 => .array .int
  | 17 => .array .int
  | 18 => .array .int
  | 19 => .array .int
  | 20 => .array .int
  | 21 => .array .int
  | _ => .array .int
abbrev wsX80 : List Cond := u_ws RX8 TX8 23
theorem nmX8 : ∀ a, a < 23 → ∀ b, b < 23 → a ≠ b → (TX8 a).2.1 ≠ (TX8 b).2.1 := by decide +kernel
theorem tyX8_ok : ∀ k, k < 23 → parseFieldDescriptor (TX8 k).2.2.1 = some (tyX8 k) := by decide +kernel
abbrev cX8_init : ByteArray := prog_10_method_1_code
def yX8_init : MethodName := ⟨RX8, "<init>", "()V"⟩
abbrev cX8_sort : ByteArray := prog_10_method_2_code
def yX8_sort : MethodName := ⟨RX8, "sort", "(II)I"⟩
abbrev cX8_take : ByteArray := prog_10_method_3_code
def yX8_take : MethodName := ⟨RX8, "take", "(IIIIZ)Z"⟩
abbrev cX8_add : ByteArray := prog_10_method_4_code
def yX8_add : MethodName := ⟨RX8, "add", "(IIIII)I"⟩
abbrev cX8_drop : ByteArray := prog_10_method_5_code
def yX8_drop : MethodName := ⟨RX8, "drop", "(I)I"⟩
abbrev cX8_mark : ByteArray := prog_10_method_6_code
def yX8_mark : MethodName := ⟨RX8, "mark", "(II)I"⟩
abbrev cX8_cls : ByteArray := prog_10_method_7_code
def yX8_cls : MethodName := ⟨RX8, "cls", "(I)I"⟩
abbrev cX8_place : ByteArray := prog_10_method_8_code
def yX8_place : MethodName := ⟨RX8, "place", "(II)I"⟩
abbrev cX8_countAt : ByteArray := prog_10_method_9_code
def yX8_countAt : MethodName := ⟨RX8, "countAt", "(I)I"⟩
abbrev cX8_classAt : ByteArray := prog_10_method_10_code
def yX8_classAt : MethodName := ⟨RX8, "classAt", "(I)I"⟩
abbrev cX8_wrongAt : ByteArray := prog_10_method_11_code
def yX8_wrongAt : MethodName := ⟨RX8, "wrongAt", "(I)I"⟩
abbrev cX8_isLeaf : ByteArray := prog_10_method_12_code
def yX8_isLeaf : MethodName := ⟨RX8, "isLeaf", "(I)Z"⟩
abbrev cX8_answers : ByteArray := prog_10_method_13_code
def yX8_answers : MethodName := ⟨RX8, "answers", "(III)Z"⟩
abbrev cX8_gapsYes : ByteArray := prog_10_method_14_code
def yX8_gapsYes : MethodName := ⟨RX8, "gapsYes", "(III)Z"⟩
abbrev cX8_goesYes : ByteArray := prog_10_method_15_code
def yX8_goesYes : MethodName := ⟨RX8, "goesYes", "(IIIZ)Z"⟩
abbrev cX8_countRow : ByteArray := prog_10_method_16_code
def yX8_countRow : MethodName := ⟨RX8, "countRow", "(I)V"⟩
abbrev cX8_countYes : ByteArray := prog_10_method_17_code
def yX8_countYes : MethodName := ⟨RX8, "countYes", "(III)V"⟩
abbrev cX8_findQuestion : ByteArray := prog_10_method_18_code
def yX8_findQuestion : MethodName := ⟨RX8, "findQuestion", "(II)Z"⟩
abbrev cX8_squares : ByteArray := prog_10_method_19_code
def yX8_squares : MethodName := ⟨RX8, "squares", "([I)J"⟩
abbrev cX8_newNode : ByteArray := prog_10_method_20_code
def yX8_newNode : MethodName := ⟨RX8, "newNode", "(I)I"⟩
abbrev cX8_lead : ByteArray := prog_10_method_21_code
def yX8_lead : MethodName := ⟨RX8, "lead", "(IIIZZ)V"⟩
abbrev cX8_ask : ByteArray := prog_10_method_22_code
def yX8_ask : MethodName := ⟨RX8, "ask", "(IIIZ)V"⟩
abbrev cX8_growNode : ByteArray := prog_10_method_23_code
def yX8_growNode : MethodName := ⟨RX8, "growNode", "(III)I"⟩
abbrev cX8_areGrowing : ByteArray := prog_10_method_24_code
def yX8_areGrowing : MethodName := ⟨RX8, "areGrowing", "(II)Z"⟩
abbrev cX8_grow : ByteArray := prog_10_method_25_code
def yX8_grow : MethodName := ⟨RX8, "grow", "(II)I"⟩
abbrev cX8_search : ByteArray := prog_10_method_26_code
def yX8_search : MethodName := ⟨RX8, "search", "(II)V"⟩
abbrev cX8_countNext : ByteArray := prog_10_method_27_code
def yX8_countNext : MethodName := ⟨RX8, "countNext", "(I)I"⟩
abbrev cX8_bestNode : ByteArray := prog_10_method_28_code
def yX8_bestNode : MethodName := ⟨RX8, "bestNode", "(II)I"⟩
abbrev cX8_best : ByteArray := prog_10_method_29_code
def yX8_best : MethodName := ⟨RX8, "best", "(I)I"⟩
abbrev cX8_isTree : ByteArray := prog_10_method_30_code
def yX8_isTree : MethodName := ⟨RX8, "isTree", "(I)Z"⟩
abbrev cX8_costOf : ByteArray := prog_10_method_31_code
def yX8_costOf : MethodName := ⟨RX8, "costOf", "(IIII)J"⟩
abbrev cX8_cutNode : ByteArray := prog_10_method_32_code
def yX8_cutNode : MethodName := ⟨RX8, "cutNode", "(IIII)I"⟩
abbrev cX8_cut : ByteArray := prog_10_method_33_code
def yX8_cut : MethodName := ⟨RX8, "cut", "(III)I"⟩
abbrev cX8_leavesBelow : ByteArray := prog_10_method_34_code
def yX8_leavesBelow : MethodName := ⟨RX8, "leavesBelow", "(II)I"⟩
abbrev cX8_wrongBelow : ByteArray := prog_10_method_35_code
def yX8_wrongBelow : MethodName := ⟨RX8, "wrongBelow", "(II)I"⟩
abbrev cX8_price : ByteArray := prog_10_method_36_code
def yX8_price : MethodName := ⟨RX8, "price", "(II)I"⟩
abbrev cX8_leafOf : ByteArray := prog_10_method_37_code
def yX8_leafOf : MethodName := ⟨RX8, "leafOf", "(I)I"⟩
abbrev cX8_takeCase : ByteArray := prog_10_method_38_code
def yX8_takeCase : MethodName := ⟨RX8, "takeCase", "(I)V"⟩
abbrev cX8_isWrong : ByteArray := prog_10_method_39_code
def yX8_isWrong : MethodName := ⟨RX8, "isWrong", "(II)Z"⟩
abbrev cX8_folds : ByteArray := prog_10_method_40_code
def yX8_folds : MethodName := ⟨RX8, "folds", "(III)I"⟩
abbrev cX8_remove : ByteArray := prog_10_method_41_code
def yX8_remove : MethodName := ⟨RX8, "remove", "()I"⟩
abbrev cX8_tree : ByteArray := prog_10_method_42_code
def yX8_tree : MethodName := ⟨RX8, "tree", "(II)I"⟩
abbrev cX8_node : ByteArray := prog_10_method_43_code
def yX8_node : MethodName := ⟨RX8, "node", "(III)I"⟩
abbrev cX8_share : ByteArray := prog_10_method_44_code
def yX8_share : MethodName := ⟨RX8, "share", "(III)I"⟩
abbrev cX8_say : ByteArray := prog_10_method_45_code
def yX8_say : MethodName := ⟨RX8, "say", "(IIIII)I"⟩
abbrev cX8_said : ByteArray := prog_10_method_46_code
def yX8_said : MethodName := ⟨RX8, "said", "()I"⟩
abbrev cX8_vote : ByteArray := prog_10_method_47_code
def yX8_vote : MethodName := ⟨RX8, "vote", "(IIII)I"⟩
abbrev cX8_voices : ByteArray := prog_10_method_48_code
def yX8_voices : MethodName := ⟨RX8, "voices", "()I"⟩
abbrev cX8_pathTo : ByteArray := prog_10_method_49_code
def yX8_pathTo : MethodName := ⟨RX8, "pathTo", "(II)I"⟩
abbrev cX8_follows : ByteArray := prog_10_method_50_code
def yX8_follows : MethodName := ⟨RX8, "follows", "(IIII)Z"⟩
abbrev cX8_isAbout : ByteArray := prog_10_method_51_code
def yX8_isAbout : MethodName := ⟨RX8, "isAbout", "(III)Z"⟩
abbrev cX8_numberAt : ByteArray := prog_10_method_52_code
def yX8_numberAt : MethodName := ⟨RX8, "numberAt", "(II)I"⟩
abbrev cX8_mustBeYes : ByteArray := prog_10_method_53_code
def yX8_mustBeYes : MethodName := ⟨RX8, "mustBeYes", "(II)Z"⟩
abbrev cX8_askedOf : ByteArray := prog_10_method_54_code
def yX8_askedOf : MethodName := ⟨RX8, "askedOf", "(IIII)I"⟩
abbrev cX8_rule : ByteArray := prog_10_method_55_code
def yX8_rule : MethodName := ⟨RX8, "rule", "(IIII)I"⟩
abbrev cX8_becomes : ByteArray := prog_10_method_56_code
def yX8_becomes : MethodName := ⟨RX8, "becomes", "(IIII)I"⟩
abbrev cX8_near : ByteArray := prog_10_method_57_code
def yX8_near : MethodName := ⟨RX8, "near", "(IIIII)I"⟩
abbrev cX8_turned : ByteArray := prog_10_method_58_code
def yX8_turned : MethodName := ⟨RX8, "turned", "(I)I"⟩
abbrev cX8_count : ByteArray := prog_10_method_59_code
def yX8_count : MethodName := ⟨RX8, "count", "(I)I"⟩
def RJ9 : String := "java/lang/Math"
def TJ9 : u_T := fun k => match k with
  | _ => ("", "", "", false)
def tyJ9 : Nat → FieldType := fun k => match k with
  | _ => .int
abbrev wsJ90 : List Cond := u_ws RJ9 TJ9 0
theorem nmJ9 : ∀ a, a < 0 → ∀ b, b < 0 → a ≠ b → (TJ9 a).2.1 ≠ (TJ9 b).2.1 := by decide +kernel
theorem tyJ9_ok : ∀ k, k < 0 → parseFieldDescriptor (TJ9 k).2.2.1 = some (tyJ9 k) := by decide +kernel
abbrev cJ9_abs_0f7a4 : ByteArray := prog_11_method_59_code
def yJ9_abs_0f7a4 : MethodName := ⟨RJ9, "abs", "(I)I"⟩
abbrev cJ9_max_7cf53 : ByteArray := prog_11_method_65_code
def yJ9_max_7cf53 : MethodName := ⟨RJ9, "max", "(II)I"⟩
abbrev cJ9_min_7cf53 : ByteArray := prog_11_method_69_code
def yJ9_min_7cf53 : MethodName := ⟨RJ9, "min", "(II)I"⟩
def RJ10 : String := "java/lang/System"
def TJ10 : u_T := fun k => match k with
  | _ => ("", "", "", false)
def tyJ10 : Nat → FieldType := fun k => match k with
  | _ => .int
abbrev wsJ100 : List Cond := u_ws RJ10 TJ10 0
theorem nmJ10 : ∀ a, a < 0 → ∀ b, b < 0 → a ≠ b → (TJ10 a).2.1 ≠ (TJ10 b).2.1 := by decide +kernel
theorem tyJ10_ok : ∀ k, k < 0 → parseFieldDescriptor (TJ10 k).2.2.1 = some (tyJ10 k) := by decide +kernel
def RL : String := "AskTreeLaw"
abbrev cL_law : ByteArray := code
def yL_law : MethodName := ⟨RL, "law", "([I)Z"⟩
def wsX0_init : List Cond := .code yX0_init cX0_init 1 none :: ([.methodLink RX0 3 objectInit, .instanceMethod objectInit, .code objectInit ⟨#[0xb1]⟩ 1 none, .arrayClass .int, .fieldLink RX0 9 "AskTree$Cases" "kinds" "[I", .fieldLink RX0 15 "AskTree$Cases" "classes" "[I", .fieldLink RX0 18 "AskTree$Cases" "marks" "[I", .fieldLink RX0 21 "AskTree$Cases" "order" "[I", .fieldLink RX0 24 "AskTree$Cases" "size" "I"] ++ wsX00)
def wsX0_putInOrder : List Cond := .code yX0_putInOrder cX0_putInOrder 5 none :: ([.fieldLink RX0 24 "AskTree$Cases" "size" "I", .fieldLink RX0 18 "AskTree$Cases" "marks" "[I", .fieldLink RX0 21 "AskTree$Cases" "order" "[I", .methodLink RX0 32 arraycopyName, .native arraycopyName, .static arraycopyName, .initialized "java/lang/System"] ++ wsX00)
def wsX0_append : List Cond := .code yX0_append cX0_append 4 none :: ([.fieldLink RX0 24 "AskTree$Cases" "size" "I", .fieldLink RX0 15 "AskTree$Cases" "classes" "[I", .fieldLink RX0 18 "AskTree$Cases" "marks" "[I", .methodLink RX0 28 yX0_putInOrder, .instanceMethod yX0_putInOrder, .selects RX0 yX0_putInOrder yX0_putInOrder, .initialized RX0, .code yX0_putInOrder cX0_putInOrder 5 none, .fieldLink RX0 21 "AskTree$Cases" "order" "[I", .methodLink RX0 32 arraycopyName, .native arraycopyName, .static arraycopyName, .initialized "java/lang/System"] ++ wsX00)
def wsX0_takeOutOfOrder : List Cond := .code yX0_takeOutOfOrder cX0_takeOutOfOrder 6 none :: ([.fieldLink RX0 24 "AskTree$Cases" "size" "I", .fieldLink RX0 21 "AskTree$Cases" "order" "[I"] ++ wsX00)
def wsX0_takeOut : List Cond := .code yX0_takeOut cX0_takeOut 4 none :: ([.fieldLink RX0 24 "AskTree$Cases" "size" "I", .fieldLink RX0 15 "AskTree$Cases" "classes" "[I", .methodLink RX0 32 arraycopyName, .native arraycopyName, .static arraycopyName, .initialized "java/lang/System", .fieldLink RX0 18 "AskTree$Cases" "marks" "[I", .methodLink RX0 38 yX0_takeOutOfOrder, .instanceMethod yX0_takeOutOfOrder, .selects RX0 yX0_takeOutOfOrder yX0_takeOutOfOrder, .initialized RX0, .code yX0_takeOutOfOrder cX0_takeOutOfOrder 6 none, .fieldLink RX0 21 "AskTree$Cases" "order" "[I"] ++ wsX00)
def wsX0_haveGaps : List Cond := .code yX0_haveGaps cX0_haveGaps 2 (some .boolean) :: ([.fieldLink RX0 24 "AskTree$Cases" "size" "I", .fieldLink RX0 18 "AskTree$Cases" "marks" "[I", .fieldLink RX0 21 "AskTree$Cases" "order" "[I"] ++ wsX00)
def wsX1_init : List Cond := .code yX1_init cX1_init 3 none :: ([.methodLink RX1 3 objectInit, .instanceMethod objectInit, .code objectInit ⟨#[0xb1]⟩ 1 none, .arrayClass .int, .fieldLink RX1 9 "AskTree$Finder" "all" "[I", .fieldLink RX1 15 "AskTree$Finder" "yes" "[I", .fieldLink RX1 18 "AskTree$Finder" "cases" "LAskTree$Cases;", .fieldLink RX1 22 "AskTree$Finder" "rows" "LAskTree$Rows;"] ++ wsX10)
def wsX7_clear : List Cond := .code yX7_clear cX7_clear 2 none :: ([])
def wsX4_caseAt : List Cond := .code yX4_caseAt cX4_caseAt 3 (some .int) :: ([.fieldLink RX4 9 "AskTree$Rows" "row" "[I"] ++ wsX40)
def wsX4_tally : List Cond := .code yX4_tally cX4_tally 5 none :: ([.fieldLink RX4 25 "AskTree$Rows" "cases" "LAskTree$Cases;", .fieldLink RX4 52 "AskTree$Cases" "classes" "[I", .static yX7_clear, .initialized RX7, .code yX7_clear cX7_clear 2 none, .methodLink RX4 55 yX4_caseAt, .instanceMethod yX4_caseAt, .selects RX4 yX4_caseAt yX4_caseAt, .initialized RX4, .code yX4_caseAt cX4_caseAt 3 (some .int), .fieldLink RX4 9 "AskTree$Rows" "row" "[I"] ++ wsX40 ++ wsX00)
def wsX6_open : List Cond := .code yX6_open cX6_open 5 (some .int) :: ([.fieldLink RX6 30 "AskTree$Tree" "size" "I", .fieldLink RX6 9 "AskTree$Tree" "asked" "[I", .fieldLink RX6 15 "AskTree$Tree" "values" "[I", .fieldLink RX6 18 "AskTree$Tree" "below" "[I", .fieldLink RX6 21 "AskTree$Tree" "ways" "[I", .fieldLink RX6 24 "AskTree$Tree" "above" "[I", .fieldLink RX6 27 "AskTree$Tree" "shares" "[I", .methodLink RX6 41 arraycopyName, .native arraycopyName, .static arraycopyName, .initialized "java/lang/System"] ++ wsX60)
def wsX4_setSides : List Cond := .code yX4_setSides cX4_setSides 6 none :: ([.fieldLink RX4 15 "AskTree$Rows" "sides" "[I", .methodLink RX4 55 yX4_caseAt, .instanceMethod yX4_caseAt, .selects RX4 yX4_caseAt yX4_caseAt, .initialized RX4, .code yX4_caseAt cX4_caseAt 3 (some .int), .fieldLink RX4 9 "AskTree$Rows" "row" "[I"] ++ wsX40)
def wsX7_firstGreatest : List Cond := .code yX7_firstGreatest cX7_firstGreatest 4 (some .int) :: ([])
def wsX4_markAt : List Cond := .code yX4_markAt cX4_markAt 3 (some .int) :: ([.fieldLink RX4 25 "AskTree$Rows" "cases" "LAskTree$Cases;", .fieldLink RX4 41 "AskTree$Cases" "marks" "[I", .fieldLink RX4 9 "AskTree$Rows" "row" "[I"] ++ wsX40 ++ wsX00)
def wsX4_isSame : List Cond := .code yX4_isSame cX4_isSame 4 (some .boolean) :: ([.methodLink RX4 44 yX4_markAt, .instanceMethod yX4_markAt, .selects RX4 yX4_markAt yX4_markAt, .initialized RX4, .code yX4_markAt cX4_markAt 3 (some .int), .fieldLink RX4 25 "AskTree$Rows" "cases" "LAskTree$Cases;", .fieldLink RX4 41 "AskTree$Cases" "marks" "[I", .fieldLink RX4 9 "AskTree$Rows" "row" "[I"] ++ wsX40 ++ wsX00)
def wsX1_judgeOne : List Cond := .code yX1_judgeOne cX1_judgeOne 8 none :: ([.fieldLink RX1 15 "AskTree$Finder" "yes" "[I", .fieldLink RX1 9 "AskTree$Finder" "all" "[I", .fieldLink RX1 118 "AskTree$Finder" "oneTotal" "I", .fieldLink RX1 86 "AskTree$Finder" "oneWrong" "I", .fieldLink RX1 80 "AskTree$Finder" "oneMark" "I", .fieldLink RX1 83 "AskTree$Finder" "oneValue" "I"] ++ wsX10)
def wsX1_seekOneIn_r1 : List Cond := [Cond.fieldLink RX1 18 "AskTree$Finder" "cases" "LAskTree$Cases;", Cond.fieldLink RX1 96 "AskTree$Cases" "kinds" "[I", Cond.fieldLink RX1 15 "AskTree$Finder" "yes" "[I", Cond.fieldLink RX1 22 "AskTree$Finder" "rows" "LAskTree$Rows;", Cond.fieldLink RX1 108 "AskTree$Rows" "sides" "[I", Cond.fieldLink RX1 131 "AskTree$Cases" "marks" "[I", Cond.fieldLink RX1 121 "AskTree$Cases" "classes" "[I", Cond.static yX7_clear, Cond.initialized RX7, Cond.code yX7_clear cX7_clear 2 none, Cond.methodLink RX1 111 yX4_caseAt, Cond.instanceMethod yX4_caseAt, Cond.selects RX4 yX4_caseAt yX4_caseAt, Cond.initialized RX4, Cond.code yX4_caseAt cX4_caseAt 3 (some .int), Cond.fieldLink RX4 9 "AskTree$Rows" "row" "[I", Cond.methodLink RX1 134 yX1_judgeOne, Cond.instanceMethod yX1_judgeOne, Cond.selects RX1 yX1_judgeOne yX1_judgeOne, Cond.initialized RX1, Cond.code yX1_judgeOne cX1_judgeOne 8 none, Cond.fieldLink RX1 9 "AskTree$Finder" "all" "[I", Cond.fieldLink RX1 118 "AskTree$Finder" "oneTotal" "I", Cond.fieldLink RX1 86 "AskTree$Finder" "oneWrong" "I"]
def wsX1_seekOneIn_r2 : List Cond := [Cond.fieldLink RX1 80 "AskTree$Finder" "oneMark" "I", Cond.fieldLink RX1 83 "AskTree$Finder" "oneValue" "I"]
def wsX1_seekOneIn : List Cond := .code yX1_seekOneIn cX1_seekOneIn 11 none :: ((wsX1_seekOneIn_r1 ++ wsX1_seekOneIn_r2) ++ wsX10 ++ wsX00 ++ wsX40)
def wsX1_seekOne_r1 : List Cond := [Cond.fieldLink RX1 9 "AskTree$Finder" "all" "[I", Cond.fieldLink RX1 118 "AskTree$Finder" "oneTotal" "I", Cond.fieldLink RX1 22 "AskTree$Finder" "rows" "LAskTree$Rows;", Cond.fieldLink RX1 108 "AskTree$Rows" "sides" "[I", Cond.fieldLink RX1 18 "AskTree$Finder" "cases" "LAskTree$Cases;", Cond.fieldLink RX1 121 "AskTree$Cases" "classes" "[I", Cond.fieldLink RX1 80 "AskTree$Finder" "oneMark" "I", Cond.fieldLink RX1 83 "AskTree$Finder" "oneValue" "I", Cond.fieldLink RX1 86 "AskTree$Finder" "oneWrong" "I", Cond.static yX7_clear, Cond.initialized RX7, Cond.code yX7_clear cX7_clear 2 none, Cond.methodLink RX1 111 yX4_caseAt, Cond.instanceMethod yX4_caseAt, Cond.selects RX4 yX4_caseAt yX4_caseAt, Cond.initialized RX4, Cond.code yX4_caseAt cX4_caseAt 3 (some .int), Cond.fieldLink RX4 9 "AskTree$Rows" "row" "[I", Cond.static yX7_firstGreatest, Cond.code yX7_firstGreatest cX7_firstGreatest 4 (some .int), Cond.methodLink RX1 92 yX4_isSame, Cond.instanceMethod yX4_isSame, Cond.selects RX4 yX4_isSame yX4_isSame, Cond.code yX4_isSame cX4_isSame 4 (some .boolean)]
def wsX1_seekOne_r2 : List Cond := [Cond.methodLink RX4 44 yX4_markAt, Cond.instanceMethod yX4_markAt, Cond.selects RX4 yX4_markAt yX4_markAt, Cond.code yX4_markAt cX4_markAt 3 (some .int), Cond.fieldLink RX4 25 "AskTree$Rows" "cases" "LAskTree$Cases;", Cond.fieldLink RX4 41 "AskTree$Cases" "marks" "[I", Cond.methodLink RX1 128 yX1_seekOneIn, Cond.instanceMethod yX1_seekOneIn, Cond.selects RX1 yX1_seekOneIn yX1_seekOneIn, Cond.initialized RX1, Cond.code yX1_seekOneIn cX1_seekOneIn 11 none, Cond.fieldLink RX1 96 "AskTree$Cases" "kinds" "[I", Cond.fieldLink RX1 15 "AskTree$Finder" "yes" "[I", Cond.fieldLink RX1 131 "AskTree$Cases" "marks" "[I", Cond.methodLink RX1 134 yX1_judgeOne, Cond.instanceMethod yX1_judgeOne, Cond.selects RX1 yX1_judgeOne yX1_judgeOne, Cond.code yX1_judgeOne cX1_judgeOne 8 none]
def wsX1_seekOne : List Cond := .code yX1_seekOne cX1_seekOne 6 none :: ((wsX1_seekOne_r1 ++ wsX1_seekOne_r2) ++ wsX10 ++ wsX40 ++ wsX00)
def wsX1_takeOne_r1 : List Cond := [Cond.fieldLink RX1 22 "AskTree$Finder" "rows" "LAskTree$Rows;", Cond.fieldLink RX1 80 "AskTree$Finder" "oneMark" "I", Cond.fieldLink RX1 57 "AskTree$Finder" "topMark" "I", Cond.fieldLink RX1 83 "AskTree$Finder" "oneValue" "I", Cond.fieldLink RX1 60 "AskTree$Finder" "topValue" "I", Cond.fieldLink RX1 86 "AskTree$Finder" "oneWrong" "I", Cond.fieldLink RX1 50 "AskTree$Finder" "topWrong" "I", Cond.fieldLink RX1 89 "AskTree$Finder" "topAsks" "I", Cond.methodLink RX1 74 yX4_setSides, Cond.instanceMethod yX4_setSides, Cond.selects RX4 yX4_setSides yX4_setSides, Cond.initialized RX4, Cond.code yX4_setSides cX4_setSides 6 none, Cond.fieldLink RX4 15 "AskTree$Rows" "sides" "[I", Cond.methodLink RX4 55 yX4_caseAt, Cond.instanceMethod yX4_caseAt, Cond.selects RX4 yX4_caseAt yX4_caseAt, Cond.code yX4_caseAt cX4_caseAt 3 (some .int), Cond.fieldLink RX4 9 "AskTree$Rows" "row" "[I", Cond.methodLink RX1 77 yX1_seekOne, Cond.instanceMethod yX1_seekOne, Cond.selects RX1 yX1_seekOne yX1_seekOne, Cond.initialized RX1, Cond.code yX1_seekOne cX1_seekOne 6 none]
def wsX1_takeOne_r2 : List Cond := [Cond.fieldLink RX1 9 "AskTree$Finder" "all" "[I", Cond.fieldLink RX1 118 "AskTree$Finder" "oneTotal" "I", Cond.fieldLink RX1 108 "AskTree$Rows" "sides" "[I", Cond.fieldLink RX1 18 "AskTree$Finder" "cases" "LAskTree$Cases;", Cond.fieldLink RX1 121 "AskTree$Cases" "classes" "[I", Cond.static yX7_clear, Cond.initialized RX7, Cond.code yX7_clear cX7_clear 2 none, Cond.methodLink RX1 111 yX4_caseAt, Cond.static yX7_firstGreatest, Cond.code yX7_firstGreatest cX7_firstGreatest 4 (some .int), Cond.methodLink RX1 92 yX4_isSame, Cond.instanceMethod yX4_isSame, Cond.selects RX4 yX4_isSame yX4_isSame, Cond.code yX4_isSame cX4_isSame 4 (some .boolean), Cond.methodLink RX4 44 yX4_markAt, Cond.instanceMethod yX4_markAt, Cond.selects RX4 yX4_markAt yX4_markAt, Cond.code yX4_markAt cX4_markAt 3 (some .int), Cond.fieldLink RX4 25 "AskTree$Rows" "cases" "LAskTree$Cases;", Cond.fieldLink RX4 41 "AskTree$Cases" "marks" "[I", Cond.methodLink RX1 128 yX1_seekOneIn, Cond.instanceMethod yX1_seekOneIn, Cond.selects RX1 yX1_seekOneIn yX1_seekOneIn]
def wsX1_takeOne_r3 : List Cond := [Cond.code yX1_seekOneIn cX1_seekOneIn 11 none, Cond.fieldLink RX1 96 "AskTree$Cases" "kinds" "[I", Cond.fieldLink RX1 15 "AskTree$Finder" "yes" "[I", Cond.fieldLink RX1 131 "AskTree$Cases" "marks" "[I", Cond.methodLink RX1 134 yX1_judgeOne, Cond.instanceMethod yX1_judgeOne, Cond.selects RX1 yX1_judgeOne yX1_judgeOne, Cond.code yX1_judgeOne cX1_judgeOne 8 none]
def wsX1_takeOne : List Cond := .code yX1_takeOne cX1_takeOne 3 none :: ((wsX1_takeOne_r1 ++ (wsX1_takeOne_r2 ++ wsX1_takeOne_r3)) ++ wsX10 ++ wsX40 ++ wsX00)
def wsX1_judgeTop_r1 : List Cond := [Cond.fieldLink RX1 86 "AskTree$Finder" "oneWrong" "I", Cond.fieldLink RX1 80 "AskTree$Finder" "oneMark" "I", Cond.fieldLink RX1 50 "AskTree$Finder" "topWrong" "I", Cond.fieldLink RX1 89 "AskTree$Finder" "topAsks" "I", Cond.fieldLink RX1 57 "AskTree$Finder" "topMark" "I", Cond.fieldLink RX1 60 "AskTree$Finder" "topValue" "I", Cond.methodLink RX1 77 yX1_seekOne, Cond.instanceMethod yX1_seekOne, Cond.selects RX1 yX1_seekOne yX1_seekOne, Cond.initialized RX1, Cond.code yX1_seekOne cX1_seekOne 6 none, Cond.fieldLink RX1 9 "AskTree$Finder" "all" "[I", Cond.fieldLink RX1 118 "AskTree$Finder" "oneTotal" "I", Cond.fieldLink RX1 22 "AskTree$Finder" "rows" "LAskTree$Rows;", Cond.fieldLink RX1 108 "AskTree$Rows" "sides" "[I", Cond.fieldLink RX1 18 "AskTree$Finder" "cases" "LAskTree$Cases;", Cond.fieldLink RX1 121 "AskTree$Cases" "classes" "[I", Cond.fieldLink RX1 83 "AskTree$Finder" "oneValue" "I", Cond.static yX7_clear, Cond.initialized RX7, Cond.code yX7_clear cX7_clear 2 none, Cond.methodLink RX1 111 yX4_caseAt, Cond.instanceMethod yX4_caseAt, Cond.selects RX4 yX4_caseAt yX4_caseAt]
def wsX1_judgeTop_r2 : List Cond := [Cond.initialized RX4, Cond.code yX4_caseAt cX4_caseAt 3 (some .int), Cond.fieldLink RX4 9 "AskTree$Rows" "row" "[I", Cond.static yX7_firstGreatest, Cond.code yX7_firstGreatest cX7_firstGreatest 4 (some .int), Cond.methodLink RX1 92 yX4_isSame, Cond.instanceMethod yX4_isSame, Cond.selects RX4 yX4_isSame yX4_isSame, Cond.code yX4_isSame cX4_isSame 4 (some .boolean), Cond.methodLink RX4 44 yX4_markAt, Cond.instanceMethod yX4_markAt, Cond.selects RX4 yX4_markAt yX4_markAt, Cond.code yX4_markAt cX4_markAt 3 (some .int), Cond.fieldLink RX4 25 "AskTree$Rows" "cases" "LAskTree$Cases;", Cond.fieldLink RX4 41 "AskTree$Cases" "marks" "[I", Cond.methodLink RX1 128 yX1_seekOneIn, Cond.instanceMethod yX1_seekOneIn, Cond.selects RX1 yX1_seekOneIn yX1_seekOneIn, Cond.code yX1_seekOneIn cX1_seekOneIn 11 none, Cond.fieldLink RX1 96 "AskTree$Cases" "kinds" "[I", Cond.fieldLink RX1 15 "AskTree$Finder" "yes" "[I", Cond.fieldLink RX1 131 "AskTree$Cases" "marks" "[I", Cond.methodLink RX1 134 yX1_judgeOne, Cond.instanceMethod yX1_judgeOne]
def wsX1_judgeTop_r3 : List Cond := [Cond.selects RX1 yX1_judgeOne yX1_judgeOne, Cond.code yX1_judgeOne cX1_judgeOne 8 none]
def wsX1_judgeTop : List Cond := .code yX1_judgeTop cX1_judgeTop 7 none :: ((wsX1_judgeTop_r1 ++ (wsX1_judgeTop_r2 ++ wsX1_judgeTop_r3)) ++ wsX10 ++ wsX40 ++ wsX00)
def wsX1_seekTop_r1 : List Cond := [Cond.fieldLink RX1 22 "AskTree$Finder" "rows" "LAskTree$Rows;", Cond.fieldLink RX1 18 "AskTree$Finder" "cases" "LAskTree$Cases;", Cond.fieldLink RX1 96 "AskTree$Cases" "kinds" "[I", Cond.fieldLink RX1 108 "AskTree$Rows" "sides" "[I", Cond.methodLink RX1 92 yX4_isSame, Cond.instanceMethod yX4_isSame, Cond.selects RX4 yX4_isSame yX4_isSame, Cond.initialized RX4, Cond.code yX4_isSame cX4_isSame 4 (some .boolean), Cond.methodLink RX4 44 yX4_markAt, Cond.instanceMethod yX4_markAt, Cond.selects RX4 yX4_markAt yX4_markAt, Cond.code yX4_markAt cX4_markAt 3 (some .int), Cond.fieldLink RX4 25 "AskTree$Rows" "cases" "LAskTree$Cases;", Cond.fieldLink RX4 41 "AskTree$Cases" "marks" "[I", Cond.fieldLink RX4 9 "AskTree$Rows" "row" "[I", Cond.methodLink RX1 74 yX4_setSides, Cond.instanceMethod yX4_setSides, Cond.selects RX4 yX4_setSides yX4_setSides, Cond.code yX4_setSides cX4_setSides 6 none, Cond.fieldLink RX4 15 "AskTree$Rows" "sides" "[I", Cond.methodLink RX4 55 yX4_caseAt, Cond.instanceMethod yX4_caseAt, Cond.selects RX4 yX4_caseAt yX4_caseAt]
def wsX1_seekTop_r2 : List Cond := [Cond.code yX4_caseAt cX4_caseAt 3 (some .int), Cond.methodLink RX1 101 yX4_markAt, Cond.methodLink RX1 105 yX1_judgeTop, Cond.instanceMethod yX1_judgeTop, Cond.selects RX1 yX1_judgeTop yX1_judgeTop, Cond.initialized RX1, Cond.code yX1_judgeTop cX1_judgeTop 7 none, Cond.fieldLink RX1 86 "AskTree$Finder" "oneWrong" "I", Cond.fieldLink RX1 80 "AskTree$Finder" "oneMark" "I", Cond.fieldLink RX1 50 "AskTree$Finder" "topWrong" "I", Cond.fieldLink RX1 89 "AskTree$Finder" "topAsks" "I", Cond.fieldLink RX1 57 "AskTree$Finder" "topMark" "I", Cond.fieldLink RX1 60 "AskTree$Finder" "topValue" "I", Cond.methodLink RX1 77 yX1_seekOne, Cond.instanceMethod yX1_seekOne, Cond.selects RX1 yX1_seekOne yX1_seekOne, Cond.code yX1_seekOne cX1_seekOne 6 none, Cond.fieldLink RX1 9 "AskTree$Finder" "all" "[I", Cond.fieldLink RX1 118 "AskTree$Finder" "oneTotal" "I", Cond.fieldLink RX1 121 "AskTree$Cases" "classes" "[I", Cond.fieldLink RX1 83 "AskTree$Finder" "oneValue" "I", Cond.static yX7_clear, Cond.initialized RX7, Cond.code yX7_clear cX7_clear 2 none]
def wsX1_seekTop_r3 : List Cond := [Cond.methodLink RX1 111 yX4_caseAt, Cond.static yX7_firstGreatest, Cond.code yX7_firstGreatest cX7_firstGreatest 4 (some .int), Cond.methodLink RX1 128 yX1_seekOneIn, Cond.instanceMethod yX1_seekOneIn, Cond.selects RX1 yX1_seekOneIn yX1_seekOneIn, Cond.code yX1_seekOneIn cX1_seekOneIn 11 none, Cond.fieldLink RX1 15 "AskTree$Finder" "yes" "[I", Cond.fieldLink RX1 131 "AskTree$Cases" "marks" "[I", Cond.methodLink RX1 134 yX1_judgeOne, Cond.instanceMethod yX1_judgeOne, Cond.selects RX1 yX1_judgeOne yX1_judgeOne, Cond.code yX1_judgeOne cX1_judgeOne 8 none]
def wsX1_seekTop : List Cond := .code yX1_seekTop cX1_seekTop 8 none :: ((wsX1_seekTop_r1 ++ (wsX1_seekTop_r2 ++ wsX1_seekTop_r3)) ++ wsX10 ++ wsX00 ++ wsX40)
def wsX7_isYes : List Cond := .code yX7_isYes cX7_isYes 4 (some .boolean) :: ([])
def wsX4_partRow : List Cond := .code yX4_partRow cX4_partRow 7 (some .int) :: ([.fieldLink RX4 9 "AskTree$Rows" "row" "[I", .fieldLink RX4 15 "AskTree$Rows" "sides" "[I", .fieldLink RX4 18 "AskTree$Rows" "kept" "[I", .methodLink RX4 34 arraycopyName, .native arraycopyName, .static arraycopyName, .initialized "java/lang/System"] ++ wsX40)
def wsX4_part : List Cond := .code yX4_part cX4_part 9 (some .int) :: ([.fieldLink RX4 25 "AskTree$Rows" "cases" "LAskTree$Cases;", .fieldLink RX4 58 "AskTree$Cases" "kinds" "[I", .fieldLink RX4 15 "AskTree$Rows" "sides" "[I", .fieldLink RX4 41 "AskTree$Cases" "marks" "[I", .methodLink RX4 55 yX4_caseAt, .instanceMethod yX4_caseAt, .selects RX4 yX4_caseAt yX4_caseAt, .initialized RX4, .code yX4_caseAt cX4_caseAt 3 (some .int), .fieldLink RX4 9 "AskTree$Rows" "row" "[I", .static yX7_isYes, .initialized RX7, .code yX7_isYes cX7_isYes 4 (some .boolean), .methodLink RX4 65 yX4_partRow, .instanceMethod yX4_partRow, .selects RX4 yX4_partRow yX4_partRow, .code yX4_partRow cX4_partRow 7 (some .int), .fieldLink RX4 18 "AskTree$Rows" "kept" "[I", .methodLink RX4 34 arraycopyName, .native arraycopyName, .static arraycopyName, .initialized "java/lang/System"] ++ wsX40 ++ wsX00)
def wsX6_ask : List Cond := .code yX6_ask cX6_ask 5 none :: ([.fieldLink RX6 9 "AskTree$Tree" "asked" "[I", .fieldLink RX6 15 "AskTree$Tree" "values" "[I", .fieldLink RX6 21 "AskTree$Tree" "ways" "[I"] ++ wsX60)
def wsX1_build_r1 : List Cond := [Cond.fieldLink RX1 22 "AskTree$Finder" "rows" "LAskTree$Rows;", Cond.fieldLink RX1 9 "AskTree$Finder" "all" "[I", Cond.fieldLink RX1 50 "AskTree$Finder" "topWrong" "I", Cond.fieldLink RX1 57 "AskTree$Finder" "topMark" "I", Cond.fieldLink RX1 60 "AskTree$Finder" "topValue" "I", Cond.fieldLink RX1 71 "AskTree$Tree" "below" "[I", Cond.methodLink RX1 36 yX4_tally, Cond.instanceMethod yX4_tally, Cond.selects RX4 yX4_tally yX4_tally, Cond.initialized RX4, Cond.code yX4_tally cX4_tally 5 none, Cond.fieldLink RX4 25 "AskTree$Rows" "cases" "LAskTree$Cases;", Cond.fieldLink RX4 52 "AskTree$Cases" "classes" "[I", Cond.static yX7_clear, Cond.initialized RX7, Cond.code yX7_clear cX7_clear 2 none, Cond.methodLink RX4 55 yX4_caseAt, Cond.instanceMethod yX4_caseAt, Cond.selects RX4 yX4_caseAt yX4_caseAt, Cond.code yX4_caseAt cX4_caseAt 3 (some .int), Cond.fieldLink RX4 9 "AskTree$Rows" "row" "[I", Cond.methodLink RX1 40 yX6_open, Cond.instanceMethod yX6_open, Cond.selects RX6 yX6_open yX6_open]
def wsX1_build_r2 : List Cond := [Cond.initialized RX6, Cond.code yX6_open cX6_open 5 (some .int), Cond.fieldLink RX6 30 "AskTree$Tree" "size" "I", Cond.fieldLink RX6 9 "AskTree$Tree" "asked" "[I", Cond.fieldLink RX6 15 "AskTree$Tree" "values" "[I", Cond.fieldLink RX6 18 "AskTree$Tree" "below" "[I", Cond.fieldLink RX6 21 "AskTree$Tree" "ways" "[I", Cond.fieldLink RX6 24 "AskTree$Tree" "above" "[I", Cond.fieldLink RX6 27 "AskTree$Tree" "shares" "[I", Cond.methodLink RX6 41 arraycopyName, Cond.native arraycopyName, Cond.static arraycopyName, Cond.initialized "java/lang/System", Cond.methodLink RX1 46 yX1_takeOne, Cond.instanceMethod yX1_takeOne, Cond.selects RX1 yX1_takeOne yX1_takeOne, Cond.initialized RX1, Cond.code yX1_takeOne cX1_takeOne 3 none, Cond.fieldLink RX1 80 "AskTree$Finder" "oneMark" "I", Cond.fieldLink RX1 83 "AskTree$Finder" "oneValue" "I", Cond.fieldLink RX1 86 "AskTree$Finder" "oneWrong" "I", Cond.fieldLink RX1 89 "AskTree$Finder" "topAsks" "I", Cond.methodLink RX1 74 yX4_setSides, Cond.instanceMethod yX4_setSides]
def wsX1_build_r3 : List Cond := [Cond.selects RX4 yX4_setSides yX4_setSides, Cond.code yX4_setSides cX4_setSides 6 none, Cond.fieldLink RX4 15 "AskTree$Rows" "sides" "[I", Cond.methodLink RX1 77 yX1_seekOne, Cond.instanceMethod yX1_seekOne, Cond.selects RX1 yX1_seekOne yX1_seekOne, Cond.code yX1_seekOne cX1_seekOne 6 none, Cond.fieldLink RX1 118 "AskTree$Finder" "oneTotal" "I", Cond.fieldLink RX1 108 "AskTree$Rows" "sides" "[I", Cond.fieldLink RX1 18 "AskTree$Finder" "cases" "LAskTree$Cases;", Cond.fieldLink RX1 121 "AskTree$Cases" "classes" "[I", Cond.methodLink RX1 111 yX4_caseAt, Cond.static yX7_firstGreatest, Cond.code yX7_firstGreatest cX7_firstGreatest 4 (some .int), Cond.methodLink RX1 92 yX4_isSame, Cond.instanceMethod yX4_isSame, Cond.selects RX4 yX4_isSame yX4_isSame, Cond.code yX4_isSame cX4_isSame 4 (some .boolean), Cond.methodLink RX4 44 yX4_markAt, Cond.instanceMethod yX4_markAt, Cond.selects RX4 yX4_markAt yX4_markAt, Cond.code yX4_markAt cX4_markAt 3 (some .int), Cond.fieldLink RX4 41 "AskTree$Cases" "marks" "[I", Cond.methodLink RX1 128 yX1_seekOneIn]
def wsX1_build_r4 : List Cond := [Cond.instanceMethod yX1_seekOneIn, Cond.selects RX1 yX1_seekOneIn yX1_seekOneIn, Cond.code yX1_seekOneIn cX1_seekOneIn 11 none, Cond.fieldLink RX1 96 "AskTree$Cases" "kinds" "[I", Cond.fieldLink RX1 15 "AskTree$Finder" "yes" "[I", Cond.fieldLink RX1 131 "AskTree$Cases" "marks" "[I", Cond.methodLink RX1 134 yX1_judgeOne, Cond.instanceMethod yX1_judgeOne, Cond.selects RX1 yX1_judgeOne yX1_judgeOne, Cond.code yX1_judgeOne cX1_judgeOne 8 none, Cond.methodLink RX1 53 yX1_seekTop, Cond.instanceMethod yX1_seekTop, Cond.selects RX1 yX1_seekTop yX1_seekTop, Cond.code yX1_seekTop cX1_seekTop 8 none, Cond.methodLink RX1 101 yX4_markAt, Cond.methodLink RX1 105 yX1_judgeTop, Cond.instanceMethod yX1_judgeTop, Cond.selects RX1 yX1_judgeTop yX1_judgeTop, Cond.code yX1_judgeTop cX1_judgeTop 7 none, Cond.methodLink RX1 63 yX4_part, Cond.instanceMethod yX4_part, Cond.selects RX4 yX4_part yX4_part, Cond.code yX4_part cX4_part 9 (some .int), Cond.fieldLink RX4 58 "AskTree$Cases" "kinds" "[I"]
def wsX1_build_r5 : List Cond := [Cond.static yX7_isYes, Cond.code yX7_isYes cX7_isYes 4 (some .boolean), Cond.methodLink RX4 65 yX4_partRow, Cond.instanceMethod yX4_partRow, Cond.selects RX4 yX4_partRow yX4_partRow, Cond.code yX4_partRow cX4_partRow 7 (some .int), Cond.fieldLink RX4 18 "AskTree$Rows" "kept" "[I", Cond.methodLink RX4 34 arraycopyName, Cond.methodLink RX1 67 yX6_ask, Cond.instanceMethod yX6_ask, Cond.selects RX6 yX6_ask yX6_ask, Cond.code yX6_ask cX6_ask 5 none, Cond.methodLink RX1 32 yX1_build, Cond.instanceMethod yX1_build, Cond.selects RX1 yX1_build yX1_build]
def wsX1_build : List Cond := .code yX1_build cX1_build 11 (some .int) :: ((wsX1_build_r1 ++ (wsX1_build_r2 ++ (wsX1_build_r3 ++ (wsX1_build_r4 ++ wsX1_build_r5)))) ++ wsX10 ++ wsX60 ++ wsX40 ++ wsX00)
def wsX1_findInto_r1 : List Cond := [Cond.fieldLink RX1 22 "AskTree$Finder" "rows" "LAskTree$Rows;", Cond.fieldLink RX1 26 "AskTree$Rows" "size" "I", Cond.methodLink RX1 32 yX1_build, Cond.instanceMethod yX1_build, Cond.selects RX1 yX1_build yX1_build, Cond.initialized RX1, Cond.code yX1_build cX1_build 11 (some .int), Cond.fieldLink RX1 9 "AskTree$Finder" "all" "[I", Cond.fieldLink RX1 50 "AskTree$Finder" "topWrong" "I", Cond.fieldLink RX1 57 "AskTree$Finder" "topMark" "I", Cond.fieldLink RX1 60 "AskTree$Finder" "topValue" "I", Cond.fieldLink RX1 71 "AskTree$Tree" "below" "[I", Cond.methodLink RX1 36 yX4_tally, Cond.instanceMethod yX4_tally, Cond.selects RX4 yX4_tally yX4_tally, Cond.initialized RX4, Cond.code yX4_tally cX4_tally 5 none, Cond.fieldLink RX4 25 "AskTree$Rows" "cases" "LAskTree$Cases;", Cond.fieldLink RX4 52 "AskTree$Cases" "classes" "[I", Cond.static yX7_clear, Cond.initialized RX7, Cond.code yX7_clear cX7_clear 2 none, Cond.methodLink RX4 55 yX4_caseAt, Cond.instanceMethod yX4_caseAt]
def wsX1_findInto_r2 : List Cond := [Cond.selects RX4 yX4_caseAt yX4_caseAt, Cond.code yX4_caseAt cX4_caseAt 3 (some .int), Cond.fieldLink RX4 9 "AskTree$Rows" "row" "[I", Cond.methodLink RX1 40 yX6_open, Cond.instanceMethod yX6_open, Cond.selects RX6 yX6_open yX6_open, Cond.initialized RX6, Cond.code yX6_open cX6_open 5 (some .int), Cond.fieldLink RX6 30 "AskTree$Tree" "size" "I", Cond.fieldLink RX6 9 "AskTree$Tree" "asked" "[I", Cond.fieldLink RX6 15 "AskTree$Tree" "values" "[I", Cond.fieldLink RX6 18 "AskTree$Tree" "below" "[I", Cond.fieldLink RX6 21 "AskTree$Tree" "ways" "[I", Cond.fieldLink RX6 24 "AskTree$Tree" "above" "[I", Cond.fieldLink RX6 27 "AskTree$Tree" "shares" "[I", Cond.methodLink RX6 41 arraycopyName, Cond.native arraycopyName, Cond.static arraycopyName, Cond.initialized "java/lang/System", Cond.methodLink RX1 46 yX1_takeOne, Cond.instanceMethod yX1_takeOne, Cond.selects RX1 yX1_takeOne yX1_takeOne, Cond.code yX1_takeOne cX1_takeOne 3 none, Cond.fieldLink RX1 80 "AskTree$Finder" "oneMark" "I"]
def wsX1_findInto_r3 : List Cond := [Cond.fieldLink RX1 83 "AskTree$Finder" "oneValue" "I", Cond.fieldLink RX1 86 "AskTree$Finder" "oneWrong" "I", Cond.fieldLink RX1 89 "AskTree$Finder" "topAsks" "I", Cond.methodLink RX1 74 yX4_setSides, Cond.instanceMethod yX4_setSides, Cond.selects RX4 yX4_setSides yX4_setSides, Cond.code yX4_setSides cX4_setSides 6 none, Cond.fieldLink RX4 15 "AskTree$Rows" "sides" "[I", Cond.methodLink RX1 77 yX1_seekOne, Cond.instanceMethod yX1_seekOne, Cond.selects RX1 yX1_seekOne yX1_seekOne, Cond.code yX1_seekOne cX1_seekOne 6 none, Cond.fieldLink RX1 118 "AskTree$Finder" "oneTotal" "I", Cond.fieldLink RX1 108 "AskTree$Rows" "sides" "[I", Cond.fieldLink RX1 18 "AskTree$Finder" "cases" "LAskTree$Cases;", Cond.fieldLink RX1 121 "AskTree$Cases" "classes" "[I", Cond.methodLink RX1 111 yX4_caseAt, Cond.static yX7_firstGreatest, Cond.code yX7_firstGreatest cX7_firstGreatest 4 (some .int), Cond.methodLink RX1 92 yX4_isSame, Cond.instanceMethod yX4_isSame, Cond.selects RX4 yX4_isSame yX4_isSame, Cond.code yX4_isSame cX4_isSame 4 (some .boolean), Cond.methodLink RX4 44 yX4_markAt]
def wsX1_findInto_r4 : List Cond := [Cond.instanceMethod yX4_markAt, Cond.selects RX4 yX4_markAt yX4_markAt, Cond.code yX4_markAt cX4_markAt 3 (some .int), Cond.fieldLink RX4 41 "AskTree$Cases" "marks" "[I", Cond.methodLink RX1 128 yX1_seekOneIn, Cond.instanceMethod yX1_seekOneIn, Cond.selects RX1 yX1_seekOneIn yX1_seekOneIn, Cond.code yX1_seekOneIn cX1_seekOneIn 11 none, Cond.fieldLink RX1 96 "AskTree$Cases" "kinds" "[I", Cond.fieldLink RX1 15 "AskTree$Finder" "yes" "[I", Cond.fieldLink RX1 131 "AskTree$Cases" "marks" "[I", Cond.methodLink RX1 134 yX1_judgeOne, Cond.instanceMethod yX1_judgeOne, Cond.selects RX1 yX1_judgeOne yX1_judgeOne, Cond.code yX1_judgeOne cX1_judgeOne 8 none, Cond.methodLink RX1 53 yX1_seekTop, Cond.instanceMethod yX1_seekTop, Cond.selects RX1 yX1_seekTop yX1_seekTop, Cond.code yX1_seekTop cX1_seekTop 8 none, Cond.methodLink RX1 101 yX4_markAt, Cond.methodLink RX1 105 yX1_judgeTop, Cond.instanceMethod yX1_judgeTop, Cond.selects RX1 yX1_judgeTop yX1_judgeTop, Cond.code yX1_judgeTop cX1_judgeTop 7 none]
def wsX1_findInto_r5 : List Cond := [Cond.methodLink RX1 63 yX4_part, Cond.instanceMethod yX4_part, Cond.selects RX4 yX4_part yX4_part, Cond.code yX4_part cX4_part 9 (some .int), Cond.fieldLink RX4 58 "AskTree$Cases" "kinds" "[I", Cond.static yX7_isYes, Cond.code yX7_isYes cX7_isYes 4 (some .boolean), Cond.methodLink RX4 65 yX4_partRow, Cond.instanceMethod yX4_partRow, Cond.selects RX4 yX4_partRow yX4_partRow, Cond.code yX4_partRow cX4_partRow 7 (some .int), Cond.fieldLink RX4 18 "AskTree$Rows" "kept" "[I", Cond.methodLink RX4 34 arraycopyName, Cond.methodLink RX1 67 yX6_ask, Cond.instanceMethod yX6_ask, Cond.selects RX6 yX6_ask yX6_ask, Cond.code yX6_ask cX6_ask 5 none]
def wsX1_findInto : List Cond := .code yX1_findInto cX1_findInto 3 none :: ((wsX1_findInto_r1 ++ (wsX1_findInto_r2 ++ (wsX1_findInto_r3 ++ (wsX1_findInto_r4 ++ wsX1_findInto_r5)))) ++ wsX10 ++ wsX40 ++ wsX60 ++ wsX00)
def wsX2_init : List Cond := .code yX2_init cX2_init 3 none :: ([.methodLink RX2 3 objectInit, .instanceMethod objectInit, .code objectInit ⟨#[0xb1]⟩ 1 none, .arrayClass .int, .fieldLink RX2 9 "AskTree$Grower" "all" "[I", .fieldLink RX2 15 "AskTree$Grower" "gaps" "[I", .fieldLink RX2 18 "AskTree$Grower" "yes" "[I", .fieldLink RX2 21 "AskTree$Grower" "cases" "LAskTree$Cases;", .fieldLink RX2 25 "AskTree$Grower" "rows" "LAskTree$Rows;"] ++ wsX20)
def wsX2_readGaps : List Cond := .code yX2_readGaps cX2_readGaps 5 (some .int) :: ([.fieldLink RX2 15 "AskTree$Grower" "gaps" "[I", .fieldLink RX2 25 "AskTree$Grower" "rows" "LAskTree$Rows;", .fieldLink RX2 21 "AskTree$Grower" "cases" "LAskTree$Cases;", .fieldLink RX2 108 "AskTree$Cases" "classes" "[I", .static yX7_clear, .initialized RX7, .code yX7_clear cX7_clear 2 none, .methodLink RX2 105 yX4_markAt, .instanceMethod yX4_markAt, .selects RX4 yX4_markAt yX4_markAt, .initialized RX4, .code yX4_markAt cX4_markAt 3 (some .int), .fieldLink RX4 25 "AskTree$Rows" "cases" "LAskTree$Cases;", .fieldLink RX4 41 "AskTree$Cases" "marks" "[I", .fieldLink RX4 9 "AskTree$Rows" "row" "[I", .methodLink RX2 113 yX4_caseAt, .instanceMethod yX4_caseAt, .selects RX4 yX4_caseAt yX4_caseAt, .code yX4_caseAt cX4_caseAt 3 (some .int)] ++ wsX20 ++ wsX00 ++ wsX40)
def wsX2_weigh : List Cond := .code yX2_weigh cX2_weigh 16 none :: ([.fieldLink RX2 18 "AskTree$Grower" "yes" "[I", .fieldLink RX2 15 "AskTree$Grower" "gaps" "[I", .fieldLink RX2 9 "AskTree$Grower" "all" "[I", .fieldLink RX2 39 "AskTree$Grower" "least" "I", .fieldLink RX2 69 "AskTree$Grower" "mark" "I", .fieldLink RX2 122 "AskTree$Grower" "gainLower" "J", .fieldLink RX2 126 "AskTree$Grower" "gainUpper" "J", .fieldLink RX2 72 "AskTree$Grower" "value" "I", .fieldLink RX2 75 "AskTree$Grower" "way" "I"] ++ wsX20)
def wsX2_seekIn_r1 : List Cond := [Cond.fieldLink RX2 21 "AskTree$Grower" "cases" "LAskTree$Cases;", Cond.fieldLink RX2 116 "AskTree$Cases" "kinds" "[I", Cond.fieldLink RX2 18 "AskTree$Grower" "yes" "[I", Cond.fieldLink RX2 25 "AskTree$Grower" "rows" "LAskTree$Rows;", Cond.fieldLink RX2 108 "AskTree$Cases" "classes" "[I", Cond.static yX7_clear, Cond.initialized RX7, Cond.code yX7_clear cX7_clear 2 none, Cond.methodLink RX2 105 yX4_markAt, Cond.instanceMethod yX4_markAt, Cond.selects RX4 yX4_markAt yX4_markAt, Cond.initialized RX4, Cond.code yX4_markAt cX4_markAt 3 (some .int), Cond.fieldLink RX4 25 "AskTree$Rows" "cases" "LAskTree$Cases;", Cond.fieldLink RX4 41 "AskTree$Cases" "marks" "[I", Cond.fieldLink RX4 9 "AskTree$Rows" "row" "[I", Cond.methodLink RX2 119 yX2_weigh, Cond.instanceMethod yX2_weigh, Cond.selects RX2 yX2_weigh yX2_weigh, Cond.initialized RX2, Cond.code yX2_weigh cX2_weigh 16 none, Cond.fieldLink RX2 15 "AskTree$Grower" "gaps" "[I", Cond.fieldLink RX2 9 "AskTree$Grower" "all" "[I", Cond.fieldLink RX2 39 "AskTree$Grower" "least" "I"]
def wsX2_seekIn_r2 : List Cond := [Cond.fieldLink RX2 69 "AskTree$Grower" "mark" "I", Cond.fieldLink RX2 122 "AskTree$Grower" "gainLower" "J", Cond.fieldLink RX2 126 "AskTree$Grower" "gainUpper" "J", Cond.fieldLink RX2 72 "AskTree$Grower" "value" "I", Cond.fieldLink RX2 75 "AskTree$Grower" "way" "I", Cond.methodLink RX2 113 yX4_caseAt, Cond.instanceMethod yX4_caseAt, Cond.selects RX4 yX4_caseAt yX4_caseAt, Cond.code yX4_caseAt cX4_caseAt 3 (some .int)]
def wsX2_seekIn : List Cond := .code yX2_seekIn cX2_seekIn 9 none :: ((wsX2_seekIn_r1 ++ wsX2_seekIn_r2) ++ wsX20 ++ wsX00 ++ wsX40)
def wsX2_seek_r1 : List Cond := [Cond.fieldLink RX2 69 "AskTree$Grower" "mark" "I", Cond.fieldLink RX2 25 "AskTree$Grower" "rows" "LAskTree$Rows;", Cond.methodLink RX2 89 yX4_isSame, Cond.instanceMethod yX4_isSame, Cond.selects RX4 yX4_isSame yX4_isSame, Cond.initialized RX4, Cond.code yX4_isSame cX4_isSame 4 (some .boolean), Cond.methodLink RX4 44 yX4_markAt, Cond.instanceMethod yX4_markAt, Cond.selects RX4 yX4_markAt yX4_markAt, Cond.code yX4_markAt cX4_markAt 3 (some .int), Cond.fieldLink RX4 25 "AskTree$Rows" "cases" "LAskTree$Cases;", Cond.fieldLink RX4 41 "AskTree$Cases" "marks" "[I", Cond.fieldLink RX4 9 "AskTree$Rows" "row" "[I", Cond.methodLink RX2 93 yX2_readGaps, Cond.instanceMethod yX2_readGaps, Cond.selects RX2 yX2_readGaps yX2_readGaps, Cond.initialized RX2, Cond.code yX2_readGaps cX2_readGaps 5 (some .int), Cond.fieldLink RX2 15 "AskTree$Grower" "gaps" "[I", Cond.fieldLink RX2 21 "AskTree$Grower" "cases" "LAskTree$Cases;", Cond.fieldLink RX2 108 "AskTree$Cases" "classes" "[I", Cond.static yX7_clear, Cond.initialized RX7]
def wsX2_seek_r2 : List Cond := [Cond.code yX7_clear cX7_clear 2 none, Cond.methodLink RX2 105 yX4_markAt, Cond.methodLink RX2 113 yX4_caseAt, Cond.instanceMethod yX4_caseAt, Cond.selects RX4 yX4_caseAt yX4_caseAt, Cond.code yX4_caseAt cX4_caseAt 3 (some .int), Cond.methodLink RX2 97 yX2_seekIn, Cond.instanceMethod yX2_seekIn, Cond.selects RX2 yX2_seekIn yX2_seekIn, Cond.code yX2_seekIn cX2_seekIn 9 none, Cond.fieldLink RX2 116 "AskTree$Cases" "kinds" "[I", Cond.fieldLink RX2 18 "AskTree$Grower" "yes" "[I", Cond.methodLink RX2 119 yX2_weigh, Cond.instanceMethod yX2_weigh, Cond.selects RX2 yX2_weigh yX2_weigh, Cond.code yX2_weigh cX2_weigh 16 none, Cond.fieldLink RX2 9 "AskTree$Grower" "all" "[I", Cond.fieldLink RX2 39 "AskTree$Grower" "least" "I", Cond.fieldLink RX2 122 "AskTree$Grower" "gainLower" "J", Cond.fieldLink RX2 126 "AskTree$Grower" "gainUpper" "J", Cond.fieldLink RX2 72 "AskTree$Grower" "value" "I", Cond.fieldLink RX2 75 "AskTree$Grower" "way" "I"]
def wsX2_seek : List Cond := .code yX2_seek cX2_seek 4 (some .boolean) :: ((wsX2_seek_r1 ++ wsX2_seek_r2) ++ wsX20 ++ wsX40 ++ wsX00)
def wsX2_branch_r1 : List Cond := [Cond.fieldLink RX2 25 "AskTree$Grower" "rows" "LAskTree$Rows;", Cond.fieldLink RX2 9 "AskTree$Grower" "all" "[I", Cond.fieldLink RX2 35 "AskTree$Grower" "depth" "I", Cond.fieldLink RX2 69 "AskTree$Grower" "mark" "I", Cond.fieldLink RX2 72 "AskTree$Grower" "value" "I", Cond.fieldLink RX2 75 "AskTree$Grower" "way" "I", Cond.fieldLink RX2 86 "AskTree$Tree" "below" "[I", Cond.methodLink RX2 51 yX4_tally, Cond.instanceMethod yX4_tally, Cond.selects RX4 yX4_tally yX4_tally, Cond.initialized RX4, Cond.code yX4_tally cX4_tally 5 none, Cond.fieldLink RX4 25 "AskTree$Rows" "cases" "LAskTree$Cases;", Cond.fieldLink RX4 52 "AskTree$Cases" "classes" "[I", Cond.static yX7_clear, Cond.initialized RX7, Cond.code yX7_clear cX7_clear 2 none, Cond.methodLink RX4 55 yX4_caseAt, Cond.instanceMethod yX4_caseAt, Cond.selects RX4 yX4_caseAt yX4_caseAt, Cond.code yX4_caseAt cX4_caseAt 3 (some .int), Cond.fieldLink RX4 9 "AskTree$Rows" "row" "[I", Cond.methodLink RX2 55 yX6_open, Cond.instanceMethod yX6_open]
def wsX2_branch_r2 : List Cond := [Cond.selects RX6 yX6_open yX6_open, Cond.initialized RX6, Cond.code yX6_open cX6_open 5 (some .int), Cond.fieldLink RX6 30 "AskTree$Tree" "size" "I", Cond.fieldLink RX6 9 "AskTree$Tree" "asked" "[I", Cond.fieldLink RX6 15 "AskTree$Tree" "values" "[I", Cond.fieldLink RX6 18 "AskTree$Tree" "below" "[I", Cond.fieldLink RX6 21 "AskTree$Tree" "ways" "[I", Cond.fieldLink RX6 24 "AskTree$Tree" "above" "[I", Cond.fieldLink RX6 27 "AskTree$Tree" "shares" "[I", Cond.methodLink RX6 41 arraycopyName, Cond.native arraycopyName, Cond.static arraycopyName, Cond.initialized "java/lang/System", Cond.static yX7_firstGreatest, Cond.code yX7_firstGreatest cX7_firstGreatest 4 (some .int), Cond.methodLink RX2 65 yX2_seek, Cond.instanceMethod yX2_seek, Cond.selects RX2 yX2_seek yX2_seek, Cond.initialized RX2, Cond.code yX2_seek cX2_seek 4 (some .boolean), Cond.methodLink RX2 89 yX4_isSame, Cond.instanceMethod yX4_isSame, Cond.selects RX4 yX4_isSame yX4_isSame]
def wsX2_branch_r3 : List Cond := [Cond.code yX4_isSame cX4_isSame 4 (some .boolean), Cond.methodLink RX4 44 yX4_markAt, Cond.instanceMethod yX4_markAt, Cond.selects RX4 yX4_markAt yX4_markAt, Cond.code yX4_markAt cX4_markAt 3 (some .int), Cond.fieldLink RX4 41 "AskTree$Cases" "marks" "[I", Cond.methodLink RX2 93 yX2_readGaps, Cond.instanceMethod yX2_readGaps, Cond.selects RX2 yX2_readGaps yX2_readGaps, Cond.code yX2_readGaps cX2_readGaps 5 (some .int), Cond.fieldLink RX2 15 "AskTree$Grower" "gaps" "[I", Cond.fieldLink RX2 21 "AskTree$Grower" "cases" "LAskTree$Cases;", Cond.fieldLink RX2 108 "AskTree$Cases" "classes" "[I", Cond.methodLink RX2 105 yX4_markAt, Cond.methodLink RX2 113 yX4_caseAt, Cond.methodLink RX2 97 yX2_seekIn, Cond.instanceMethod yX2_seekIn, Cond.selects RX2 yX2_seekIn yX2_seekIn, Cond.code yX2_seekIn cX2_seekIn 9 none, Cond.fieldLink RX2 116 "AskTree$Cases" "kinds" "[I", Cond.fieldLink RX2 18 "AskTree$Grower" "yes" "[I", Cond.methodLink RX2 119 yX2_weigh, Cond.instanceMethod yX2_weigh, Cond.selects RX2 yX2_weigh yX2_weigh]
def wsX2_branch_r4 : List Cond := [Cond.code yX2_weigh cX2_weigh 16 none, Cond.fieldLink RX2 39 "AskTree$Grower" "least" "I", Cond.fieldLink RX2 122 "AskTree$Grower" "gainLower" "J", Cond.fieldLink RX2 126 "AskTree$Grower" "gainUpper" "J", Cond.methodLink RX2 78 yX6_ask, Cond.instanceMethod yX6_ask, Cond.selects RX6 yX6_ask yX6_ask, Cond.code yX6_ask cX6_ask 5 none, Cond.methodLink RX2 82 yX4_part, Cond.instanceMethod yX4_part, Cond.selects RX4 yX4_part yX4_part, Cond.code yX4_part cX4_part 9 (some .int), Cond.fieldLink RX4 58 "AskTree$Cases" "kinds" "[I", Cond.fieldLink RX4 15 "AskTree$Rows" "sides" "[I", Cond.static yX7_isYes, Cond.code yX7_isYes cX7_isYes 4 (some .boolean), Cond.methodLink RX4 65 yX4_partRow, Cond.instanceMethod yX4_partRow, Cond.selects RX4 yX4_partRow yX4_partRow, Cond.code yX4_partRow cX4_partRow 7 (some .int), Cond.fieldLink RX4 18 "AskTree$Rows" "kept" "[I", Cond.methodLink RX4 34 arraycopyName, Cond.methodLink RX2 47 yX2_branch, Cond.instanceMethod yX2_branch]
def wsX2_branch_r5 : List Cond := [Cond.selects RX2 yX2_branch yX2_branch]
def wsX2_branch : List Cond := .code yX2_branch cX2_branch 7 (some .int) :: ((wsX2_branch_r1 ++ (wsX2_branch_r2 ++ (wsX2_branch_r3 ++ (wsX2_branch_r4 ++ wsX2_branch_r5)))) ++ wsX20 ++ wsX60 ++ wsX40 ++ wsX00)
def wsX2_growInto_r1 : List Cond := [Cond.methodLink RX2 29 Lib.Math.min.name, Cond.static Lib.Math.min.name, Cond.initialized "java/lang/Math", Cond.code Lib.Math.min.name Lib.Math.min.code 2 (some .int), Cond.fieldLink RX2 35 "AskTree$Grower" "depth" "I", Cond.fieldLink RX2 39 "AskTree$Grower" "least" "I", Cond.fieldLink RX2 25 "AskTree$Grower" "rows" "LAskTree$Rows;", Cond.fieldLink RX2 42 "AskTree$Rows" "size" "I", Cond.methodLink RX2 47 yX2_branch, Cond.instanceMethod yX2_branch, Cond.selects RX2 yX2_branch yX2_branch, Cond.initialized RX2, Cond.code yX2_branch cX2_branch 7 (some .int), Cond.fieldLink RX2 9 "AskTree$Grower" "all" "[I", Cond.fieldLink RX2 69 "AskTree$Grower" "mark" "I", Cond.fieldLink RX2 72 "AskTree$Grower" "value" "I", Cond.fieldLink RX2 75 "AskTree$Grower" "way" "I", Cond.fieldLink RX2 86 "AskTree$Tree" "below" "[I", Cond.methodLink RX2 51 yX4_tally, Cond.instanceMethod yX4_tally, Cond.selects RX4 yX4_tally yX4_tally, Cond.initialized RX4, Cond.code yX4_tally cX4_tally 5 none, Cond.fieldLink RX4 25 "AskTree$Rows" "cases" "LAskTree$Cases;"]
def wsX2_growInto_r2 : List Cond := [Cond.fieldLink RX4 52 "AskTree$Cases" "classes" "[I", Cond.static yX7_clear, Cond.initialized RX7, Cond.code yX7_clear cX7_clear 2 none, Cond.methodLink RX4 55 yX4_caseAt, Cond.instanceMethod yX4_caseAt, Cond.selects RX4 yX4_caseAt yX4_caseAt, Cond.code yX4_caseAt cX4_caseAt 3 (some .int), Cond.fieldLink RX4 9 "AskTree$Rows" "row" "[I", Cond.methodLink RX2 55 yX6_open, Cond.instanceMethod yX6_open, Cond.selects RX6 yX6_open yX6_open, Cond.initialized RX6, Cond.code yX6_open cX6_open 5 (some .int), Cond.fieldLink RX6 30 "AskTree$Tree" "size" "I", Cond.fieldLink RX6 9 "AskTree$Tree" "asked" "[I", Cond.fieldLink RX6 15 "AskTree$Tree" "values" "[I", Cond.fieldLink RX6 18 "AskTree$Tree" "below" "[I", Cond.fieldLink RX6 21 "AskTree$Tree" "ways" "[I", Cond.fieldLink RX6 24 "AskTree$Tree" "above" "[I", Cond.fieldLink RX6 27 "AskTree$Tree" "shares" "[I", Cond.methodLink RX6 41 arraycopyName, Cond.native arraycopyName, Cond.static arraycopyName]
def wsX2_growInto_r3 : List Cond := [Cond.initialized "java/lang/System", Cond.static yX7_firstGreatest, Cond.code yX7_firstGreatest cX7_firstGreatest 4 (some .int), Cond.methodLink RX2 65 yX2_seek, Cond.instanceMethod yX2_seek, Cond.selects RX2 yX2_seek yX2_seek, Cond.code yX2_seek cX2_seek 4 (some .boolean), Cond.methodLink RX2 89 yX4_isSame, Cond.instanceMethod yX4_isSame, Cond.selects RX4 yX4_isSame yX4_isSame, Cond.code yX4_isSame cX4_isSame 4 (some .boolean), Cond.methodLink RX4 44 yX4_markAt, Cond.instanceMethod yX4_markAt, Cond.selects RX4 yX4_markAt yX4_markAt, Cond.code yX4_markAt cX4_markAt 3 (some .int), Cond.fieldLink RX4 41 "AskTree$Cases" "marks" "[I", Cond.methodLink RX2 93 yX2_readGaps, Cond.instanceMethod yX2_readGaps, Cond.selects RX2 yX2_readGaps yX2_readGaps, Cond.code yX2_readGaps cX2_readGaps 5 (some .int), Cond.fieldLink RX2 15 "AskTree$Grower" "gaps" "[I", Cond.fieldLink RX2 21 "AskTree$Grower" "cases" "LAskTree$Cases;", Cond.fieldLink RX2 108 "AskTree$Cases" "classes" "[I", Cond.methodLink RX2 105 yX4_markAt]
def wsX2_growInto_r4 : List Cond := [Cond.methodLink RX2 113 yX4_caseAt, Cond.methodLink RX2 97 yX2_seekIn, Cond.instanceMethod yX2_seekIn, Cond.selects RX2 yX2_seekIn yX2_seekIn, Cond.code yX2_seekIn cX2_seekIn 9 none, Cond.fieldLink RX2 116 "AskTree$Cases" "kinds" "[I", Cond.fieldLink RX2 18 "AskTree$Grower" "yes" "[I", Cond.methodLink RX2 119 yX2_weigh, Cond.instanceMethod yX2_weigh, Cond.selects RX2 yX2_weigh yX2_weigh, Cond.code yX2_weigh cX2_weigh 16 none, Cond.fieldLink RX2 122 "AskTree$Grower" "gainLower" "J", Cond.fieldLink RX2 126 "AskTree$Grower" "gainUpper" "J", Cond.methodLink RX2 78 yX6_ask, Cond.instanceMethod yX6_ask, Cond.selects RX6 yX6_ask yX6_ask, Cond.code yX6_ask cX6_ask 5 none, Cond.methodLink RX2 82 yX4_part, Cond.instanceMethod yX4_part, Cond.selects RX4 yX4_part yX4_part, Cond.code yX4_part cX4_part 9 (some .int), Cond.fieldLink RX4 58 "AskTree$Cases" "kinds" "[I", Cond.fieldLink RX4 15 "AskTree$Rows" "sides" "[I", Cond.static yX7_isYes]
def wsX2_growInto_r5 : List Cond := [Cond.code yX7_isYes cX7_isYes 4 (some .boolean), Cond.methodLink RX4 65 yX4_partRow, Cond.instanceMethod yX4_partRow, Cond.selects RX4 yX4_partRow yX4_partRow, Cond.code yX4_partRow cX4_partRow 7 (some .int), Cond.fieldLink RX4 18 "AskTree$Rows" "kept" "[I", Cond.methodLink RX4 34 arraycopyName]
def wsX2_growInto : List Cond := .code yX2_growInto cX2_growInto 4 none :: ((wsX2_growInto_r1 ++ (wsX2_growInto_r2 ++ (wsX2_growInto_r3 ++ (wsX2_growInto_r4 ++ wsX2_growInto_r5)))) ++ wsX20 ++ wsX40 ++ wsX60 ++ wsX00)
def wsX3_init : List Cond := .code yX3_init cX3_init 1 none :: ([.methodLink RX3 3 objectInit, .instanceMethod objectInit, .code objectInit ⟨#[0xb1]⟩ 1 none, .arrayClass .int, .fieldLink RX3 9 "AskTree$Pruner" "costs" "[I", .fieldLink RX3 15 "AskTree$Pruner" "upper" "I", .fieldLink RX3 19 "AskTree$Pruner" "lower" "I"] ++ wsX30)
def wsX6_total : List Cond := .code yX6_total cX6_total 3 (some .int) :: ([.fieldLink RX6 27 "AskTree$Tree" "shares" "[I"] ++ wsX60)
def wsX6_verdict : List Cond := .code yX6_verdict cX6_verdict 2 (some .int) :: ([.fieldLink RX6 27 "AskTree$Tree" "shares" "[I", .static yX7_firstGreatest, .initialized RX7, .code yX7_firstGreatest cX7_firstGreatest 4 (some .int)] ++ wsX60)
def wsX6_misses : List Cond := .code yX6_misses cX6_misses 2 (some .int) :: ([.fieldLink RX6 27 "AskTree$Tree" "shares" "[I", .methodLink RX6 51 yX6_total, .instanceMethod yX6_total, .selects RX6 yX6_total yX6_total, .initialized RX6, .code yX6_total cX6_total 3 (some .int), .methodLink RX6 55 yX6_verdict, .instanceMethod yX6_verdict, .selects RX6 yX6_verdict yX6_verdict, .code yX6_verdict cX6_verdict 2 (some .int), .static yX7_firstGreatest, .initialized RX7, .code yX7_firstGreatest cX7_firstGreatest 4 (some .int)] ++ wsX60)
def wsX3_leafCost : List Cond := .code yX3_leafCost cX3_leafCost 3 (some .int) :: ([.fieldLink RX3 25 "AskTree$Pruner" "wrongPrice" "I", .fieldLink RX3 22 "AskTree$Pruner" "leafPrice" "I", .methodLink RX3 54 yX6_misses, .instanceMethod yX6_misses, .selects RX6 yX6_misses yX6_misses, .initialized RX6, .code yX6_misses cX6_misses 2 (some .int), .fieldLink RX6 27 "AskTree$Tree" "shares" "[I", .methodLink RX6 51 yX6_total, .instanceMethod yX6_total, .selects RX6 yX6_total yX6_total, .code yX6_total cX6_total 3 (some .int), .methodLink RX6 55 yX6_verdict, .instanceMethod yX6_verdict, .selects RX6 yX6_verdict yX6_verdict, .code yX6_verdict cX6_verdict 2 (some .int), .static yX7_firstGreatest, .initialized RX7, .code yX7_firstGreatest cX7_firstGreatest 4 (some .int)] ++ wsX30 ++ wsX60)
def wsX6_has : List Cond := .code yX6_has cX6_has 2 (some .boolean) :: ([.fieldLink RX6 30 "AskTree$Tree" "size" "I"] ++ wsX60)
def wsX7_isMark : List Cond := .code yX7_isMark cX7_isMark 1 (some .boolean) :: ([])
def wsX6_isLeaf : List Cond := .code yX6_isLeaf cX6_isLeaf 2 (some .boolean) :: ([.fieldLink RX6 9 "AskTree$Tree" "asked" "[I", .fieldLink RX6 18 "AskTree$Tree" "below" "[I", .methodLink RX6 34 yX6_has, .instanceMethod yX6_has, .selects RX6 yX6_has yX6_has, .initialized RX6, .code yX6_has cX6_has 2 (some .boolean), .fieldLink RX6 30 "AskTree$Tree" "size" "I", .static yX7_isMark, .initialized RX7, .code yX7_isMark cX7_isMark 1 (some .boolean)] ++ wsX60)
def wsX3_copy_r1 : List Cond := [Cond.fieldLink RX3 58 "AskTree$Tree" "shares" "[I", Cond.fieldLink RX3 9 "AskTree$Pruner" "costs" "[I", Cond.fieldLink RX3 65 "AskTree$Tree" "asked" "[I", Cond.fieldLink RX3 68 "AskTree$Tree" "values" "[I", Cond.fieldLink RX3 71 "AskTree$Tree" "ways" "[I", Cond.fieldLink RX3 41 "AskTree$Tree" "below" "[I", Cond.methodLink RX3 61 yX6_open, Cond.instanceMethod yX6_open, Cond.selects RX6 yX6_open yX6_open, Cond.initialized RX6, Cond.code yX6_open cX6_open 5 (some .int), Cond.fieldLink RX6 30 "AskTree$Tree" "size" "I", Cond.fieldLink RX6 9 "AskTree$Tree" "asked" "[I", Cond.fieldLink RX6 15 "AskTree$Tree" "values" "[I", Cond.fieldLink RX6 18 "AskTree$Tree" "below" "[I", Cond.fieldLink RX6 21 "AskTree$Tree" "ways" "[I", Cond.fieldLink RX6 24 "AskTree$Tree" "above" "[I", Cond.fieldLink RX6 27 "AskTree$Tree" "shares" "[I", Cond.methodLink RX6 41 arraycopyName, Cond.native arraycopyName, Cond.static arraycopyName, Cond.initialized "java/lang/System", Cond.methodLink RX3 37 yX6_isLeaf, Cond.instanceMethod yX6_isLeaf]
def wsX3_copy_r2 : List Cond := [Cond.selects RX6 yX6_isLeaf yX6_isLeaf, Cond.code yX6_isLeaf cX6_isLeaf 2 (some .boolean), Cond.methodLink RX6 34 yX6_has, Cond.instanceMethod yX6_has, Cond.selects RX6 yX6_has yX6_has, Cond.code yX6_has cX6_has 2 (some .boolean), Cond.static yX7_isMark, Cond.initialized RX7, Cond.code yX7_isMark cX7_isMark 1 (some .boolean), Cond.methodLink RX3 33 yX3_leafCost, Cond.instanceMethod yX3_leafCost, Cond.selects RX3 yX3_leafCost yX3_leafCost, Cond.initialized RX3, Cond.code yX3_leafCost cX3_leafCost 3 (some .int), Cond.fieldLink RX3 25 "AskTree$Pruner" "wrongPrice" "I", Cond.fieldLink RX3 22 "AskTree$Pruner" "leafPrice" "I", Cond.methodLink RX3 54 yX6_misses, Cond.instanceMethod yX6_misses, Cond.selects RX6 yX6_misses yX6_misses, Cond.code yX6_misses cX6_misses 2 (some .int), Cond.methodLink RX6 51 yX6_total, Cond.instanceMethod yX6_total, Cond.selects RX6 yX6_total yX6_total, Cond.code yX6_total cX6_total 3 (some .int)]
def wsX3_copy_r3 : List Cond := [Cond.methodLink RX6 55 yX6_verdict, Cond.instanceMethod yX6_verdict, Cond.selects RX6 yX6_verdict yX6_verdict, Cond.code yX6_verdict cX6_verdict 2 (some .int), Cond.static yX7_firstGreatest, Cond.code yX7_firstGreatest cX7_firstGreatest 4 (some .int), Cond.methodLink RX3 74 yX6_ask, Cond.instanceMethod yX6_ask, Cond.selects RX6 yX6_ask yX6_ask, Cond.code yX6_ask cX6_ask 5 none, Cond.methodLink RX3 50 yX3_copy, Cond.instanceMethod yX3_copy, Cond.selects RX3 yX3_copy yX3_copy]
def wsX3_copy : List Cond := .code yX3_copy cX3_copy 7 (some .int) :: ((wsX3_copy_r1 ++ (wsX3_copy_r2 ++ wsX3_copy_r3)) ++ wsX60 ++ wsX30)
def wsX3_cutInto_r1 : List Cond := [Cond.fieldLink RX3 22 "AskTree$Pruner" "leafPrice" "I", Cond.fieldLink RX3 25 "AskTree$Pruner" "wrongPrice" "I", Cond.fieldLink RX3 28 "AskTree$Tree" "size" "I", Cond.fieldLink RX3 9 "AskTree$Pruner" "costs" "[I", Cond.fieldLink RX3 41 "AskTree$Tree" "below" "[I", Cond.methodLink RX3 44 Lib.Math.min.name, Cond.static Lib.Math.min.name, Cond.initialized "java/lang/Math", Cond.code Lib.Math.min.name Lib.Math.min.code 2 (some .int), Cond.methodLink RX3 33 yX3_leafCost, Cond.instanceMethod yX3_leafCost, Cond.selects RX3 yX3_leafCost yX3_leafCost, Cond.initialized RX3, Cond.code yX3_leafCost cX3_leafCost 3 (some .int), Cond.methodLink RX3 54 yX6_misses, Cond.instanceMethod yX6_misses, Cond.selects RX6 yX6_misses yX6_misses, Cond.initialized RX6, Cond.code yX6_misses cX6_misses 2 (some .int), Cond.fieldLink RX6 27 "AskTree$Tree" "shares" "[I", Cond.methodLink RX6 51 yX6_total, Cond.instanceMethod yX6_total, Cond.selects RX6 yX6_total yX6_total, Cond.code yX6_total cX6_total 3 (some .int)]
def wsX3_cutInto_r2 : List Cond := [Cond.methodLink RX6 55 yX6_verdict, Cond.instanceMethod yX6_verdict, Cond.selects RX6 yX6_verdict yX6_verdict, Cond.code yX6_verdict cX6_verdict 2 (some .int), Cond.static yX7_firstGreatest, Cond.initialized RX7, Cond.code yX7_firstGreatest cX7_firstGreatest 4 (some .int), Cond.methodLink RX3 37 yX6_isLeaf, Cond.instanceMethod yX6_isLeaf, Cond.selects RX6 yX6_isLeaf yX6_isLeaf, Cond.code yX6_isLeaf cX6_isLeaf 2 (some .boolean), Cond.fieldLink RX6 9 "AskTree$Tree" "asked" "[I", Cond.fieldLink RX6 18 "AskTree$Tree" "below" "[I", Cond.methodLink RX6 34 yX6_has, Cond.instanceMethod yX6_has, Cond.selects RX6 yX6_has yX6_has, Cond.code yX6_has cX6_has 2 (some .boolean), Cond.fieldLink RX6 30 "AskTree$Tree" "size" "I", Cond.static yX7_isMark, Cond.code yX7_isMark cX7_isMark 1 (some .boolean), Cond.methodLink RX3 50 yX3_copy, Cond.instanceMethod yX3_copy, Cond.selects RX3 yX3_copy yX3_copy, Cond.code yX3_copy cX3_copy 7 (some .int)]
def wsX3_cutInto_r3 : List Cond := [Cond.fieldLink RX3 58 "AskTree$Tree" "shares" "[I", Cond.fieldLink RX3 65 "AskTree$Tree" "asked" "[I", Cond.fieldLink RX3 68 "AskTree$Tree" "values" "[I", Cond.fieldLink RX3 71 "AskTree$Tree" "ways" "[I", Cond.methodLink RX3 61 yX6_open, Cond.instanceMethod yX6_open, Cond.selects RX6 yX6_open yX6_open, Cond.code yX6_open cX6_open 5 (some .int), Cond.fieldLink RX6 15 "AskTree$Tree" "values" "[I", Cond.fieldLink RX6 21 "AskTree$Tree" "ways" "[I", Cond.fieldLink RX6 24 "AskTree$Tree" "above" "[I", Cond.methodLink RX6 41 arraycopyName, Cond.native arraycopyName, Cond.static arraycopyName, Cond.initialized "java/lang/System", Cond.methodLink RX3 74 yX6_ask, Cond.instanceMethod yX6_ask, Cond.selects RX6 yX6_ask yX6_ask, Cond.code yX6_ask cX6_ask 5 none]
def wsX3_cutInto : List Cond := .code yX3_cutInto cX3_cutInto 6 none :: ((wsX3_cutInto_r1 ++ (wsX3_cutInto_r2 ++ wsX3_cutInto_r3)) ++ wsX30 ++ wsX60)
def wsX3_weighNode_r1 : List Cond := [Cond.fieldLink RX3 28 "AskTree$Tree" "size" "I", Cond.fieldLink RX3 85 "AskTree$Tree" "above" "[I", Cond.fieldLink RX3 19 "AskTree$Pruner" "lower" "I", Cond.fieldLink RX3 15 "AskTree$Pruner" "upper" "I", Cond.methodLink RX3 54 yX6_misses, Cond.instanceMethod yX6_misses, Cond.selects RX6 yX6_misses yX6_misses, Cond.initialized RX6, Cond.code yX6_misses cX6_misses 2 (some .int), Cond.fieldLink RX6 27 "AskTree$Tree" "shares" "[I", Cond.methodLink RX6 51 yX6_total, Cond.instanceMethod yX6_total, Cond.selects RX6 yX6_total yX6_total, Cond.code yX6_total cX6_total 3 (some .int), Cond.methodLink RX6 55 yX6_verdict, Cond.instanceMethod yX6_verdict, Cond.selects RX6 yX6_verdict yX6_verdict, Cond.code yX6_verdict cX6_verdict 2 (some .int), Cond.static yX7_firstGreatest, Cond.initialized RX7, Cond.code yX7_firstGreatest cX7_firstGreatest 4 (some .int), Cond.methodLink RX3 37 yX6_isLeaf, Cond.instanceMethod yX6_isLeaf, Cond.selects RX6 yX6_isLeaf yX6_isLeaf]
def wsX3_weighNode_r2 : List Cond := [Cond.code yX6_isLeaf cX6_isLeaf 2 (some .boolean), Cond.fieldLink RX6 9 "AskTree$Tree" "asked" "[I", Cond.fieldLink RX6 18 "AskTree$Tree" "below" "[I", Cond.methodLink RX6 34 yX6_has, Cond.instanceMethod yX6_has, Cond.selects RX6 yX6_has yX6_has, Cond.code yX6_has cX6_has 2 (some .boolean), Cond.fieldLink RX6 30 "AskTree$Tree" "size" "I", Cond.static yX7_isMark, Cond.code yX7_isMark cX7_isMark 1 (some .boolean)]
def wsX3_weighNode : List Cond := .code yX3_weighNode cX3_weighNode 6 none :: ((wsX3_weighNode_r1 ++ wsX3_weighNode_r2) ++ wsX60 ++ wsX30)
def wsX3_commonDivisor : List Cond := .code yX3_commonDivisor cX3_commonDivisor 4 (some .int) :: ([])
def wsX3_findPrice_r1 : List Cond := [Cond.fieldLink RX3 15 "AskTree$Pruner" "upper" "I", Cond.fieldLink RX3 19 "AskTree$Pruner" "lower" "I", Cond.fieldLink RX3 28 "AskTree$Tree" "size" "I", Cond.methodLink RX3 37 yX6_isLeaf, Cond.instanceMethod yX6_isLeaf, Cond.selects RX6 yX6_isLeaf yX6_isLeaf, Cond.initialized RX6, Cond.code yX6_isLeaf cX6_isLeaf 2 (some .boolean), Cond.fieldLink RX6 9 "AskTree$Tree" "asked" "[I", Cond.fieldLink RX6 18 "AskTree$Tree" "below" "[I", Cond.methodLink RX6 34 yX6_has, Cond.instanceMethod yX6_has, Cond.selects RX6 yX6_has yX6_has, Cond.code yX6_has cX6_has 2 (some .boolean), Cond.fieldLink RX6 30 "AskTree$Tree" "size" "I", Cond.static yX7_isMark, Cond.initialized RX7, Cond.code yX7_isMark cX7_isMark 1 (some .boolean), Cond.methodLink RX3 78 yX3_weighNode, Cond.instanceMethod yX3_weighNode, Cond.selects RX3 yX3_weighNode yX3_weighNode, Cond.initialized RX3, Cond.code yX3_weighNode cX3_weighNode 6 none, Cond.fieldLink RX3 85 "AskTree$Tree" "above" "[I"]
def wsX3_findPrice_r2 : List Cond := [Cond.methodLink RX3 54 yX6_misses, Cond.instanceMethod yX6_misses, Cond.selects RX6 yX6_misses yX6_misses, Cond.code yX6_misses cX6_misses 2 (some .int), Cond.fieldLink RX6 27 "AskTree$Tree" "shares" "[I", Cond.methodLink RX6 51 yX6_total, Cond.instanceMethod yX6_total, Cond.selects RX6 yX6_total yX6_total, Cond.code yX6_total cX6_total 3 (some .int), Cond.methodLink RX6 55 yX6_verdict, Cond.instanceMethod yX6_verdict, Cond.selects RX6 yX6_verdict yX6_verdict, Cond.code yX6_verdict cX6_verdict 2 (some .int), Cond.static yX7_firstGreatest, Cond.code yX7_firstGreatest cX7_firstGreatest 4 (some .int), Cond.methodLink RX3 82 yX3_commonDivisor, Cond.static yX3_commonDivisor, Cond.code yX3_commonDivisor cX3_commonDivisor 4 (some .int)]
def wsX3_findPrice : List Cond := .code yX3_findPrice cX3_findPrice 3 none :: ((wsX3_findPrice_r1 ++ wsX3_findPrice_r2) ++ wsX30 ++ wsX60)
def wsX4_init : List Cond := .code yX4_init cX4_init 2 none :: ([.methodLink RX4 3 objectInit, .instanceMethod objectInit, .code objectInit ⟨#[0xb1]⟩ 1 none, .arrayClass .int, .fieldLink RX4 9 "AskTree$Rows" "row" "[I", .fieldLink RX4 15 "AskTree$Rows" "sides" "[I", .fieldLink RX4 18 "AskTree$Rows" "kept" "[I", .fieldLink RX4 21 "AskTree$Rows" "size" "I", .fieldLink RX4 25 "AskTree$Rows" "cases" "LAskTree$Cases;"] ++ wsX40)
def wsX4_loadAll : List Cond := .code yX4_loadAll cX4_loadAll 1 none :: ([.fieldLink RX4 25 "AskTree$Rows" "cases" "LAskTree$Cases;", .fieldLink RX4 29 "AskTree$Cases" "order" "[I", .fieldLink RX4 9 "AskTree$Rows" "row" "[I", .methodLink RX4 34 arraycopyName, .native arraycopyName, .static arraycopyName, .initialized "java/lang/System", .fieldLink RX4 40 "AskTree$Cases" "size" "I", .fieldLink RX4 21 "AskTree$Rows" "size" "I"] ++ wsX40 ++ wsX00)
def wsX4_loadWithout : List Cond := .code yX4_loadWithout cX4_loadWithout 7 none :: ([.fieldLink RX4 21 "AskTree$Rows" "size" "I", .fieldLink RX4 25 "AskTree$Rows" "cases" "LAskTree$Cases;", .fieldLink RX4 40 "AskTree$Cases" "size" "I", .fieldLink RX4 29 "AskTree$Cases" "order" "[I", .fieldLink RX4 9 "AskTree$Rows" "row" "[I"] ++ wsX40 ++ wsX00)
def wsX5_init : List Cond := .code yX5_init cX5_init 2 none :: ([.methodLink RX5 3 objectInit, .instanceMethod objectInit, .code objectInit ⟨#[0xb1]⟩ 1 none, .arrayClass .int, .fieldLink RX5 9 "AskTree$Rules" "least" "[I", .fieldLink RX5 15 "AskTree$Rules" "greatest" "[I", .fieldLink RX5 18 "AskTree$Rules" "must" "[I", .fieldLink RX5 21 "AskTree$Rules" "barredCount" "[I", .fieldLink RX5 24 "AskTree$Rules" "barred" "[I", .arrayClass .boolean, .fieldLink RX5 27 "AskTree$Rules" "clashes" "[Z", .fieldLink RX5 31 "AskTree$Rules" "kinds" "[I"] ++ wsX50)
def wsX5_isBarred : List Cond := .code yX5_isBarred cX5_isBarred 4 (some .boolean) :: ([.fieldLink RX5 21 "AskTree$Rules" "barredCount" "[I", .fieldLink RX5 24 "AskTree$Rules" "barred" "[I"] ++ wsX50)
def wsX5_noteSort : List Cond := .code yX5_noteSort cX5_noteSort 4 none :: ([.fieldLink RX5 27 "AskTree$Rules" "clashes" "[Z", .fieldLink RX5 18 "AskTree$Rules" "must" "[I", .fieldLink RX5 21 "AskTree$Rules" "barredCount" "[I", .fieldLink RX5 24 "AskTree$Rules" "barred" "[I", .methodLink RX5 65 yX5_isBarred, .instanceMethod yX5_isBarred, .selects RX5 yX5_isBarred yX5_isBarred, .initialized RX5, .code yX5_isBarred cX5_isBarred 4 (some .boolean)] ++ wsX50)
def wsX5_note : List Cond := .code yX5_note cX5_note 4 none :: ([.fieldLink RX5 31 "AskTree$Rules" "kinds" "[I", .fieldLink RX5 15 "AskTree$Rules" "greatest" "[I", .methodLink RX5 56 Lib.Math.min.name, .static Lib.Math.min.name, .initialized "java/lang/Math", .code Lib.Math.min.name Lib.Math.min.code 2 (some .int), .fieldLink RX5 9 "AskTree$Rules" "least" "[I", .methodLink RX5 62 Lib.Math.max.name, .static Lib.Math.max.name, .code Lib.Math.max.name Lib.Math.max.code 2 (some .int), .methodLink RX5 53 yX5_noteSort, .instanceMethod yX5_noteSort, .selects RX5 yX5_noteSort yX5_noteSort, .initialized RX5, .code yX5_noteSort cX5_noteSort 4 none, .fieldLink RX5 27 "AskTree$Rules" "clashes" "[Z", .fieldLink RX5 18 "AskTree$Rules" "must" "[I", .fieldLink RX5 21 "AskTree$Rules" "barredCount" "[I", .fieldLink RX5 24 "AskTree$Rules" "barred" "[I", .methodLink RX5 65 yX5_isBarred, .instanceMethod yX5_isBarred, .selects RX5 yX5_isBarred yX5_isBarred, .code yX5_isBarred cX5_isBarred 4 (some .boolean)] ++ wsX50)
def wsX5_readFor_r1 : List Cond := [Cond.fieldLink RX5 9 "AskTree$Rules" "least" "[I", Cond.fieldLink RX5 15 "AskTree$Rules" "greatest" "[I", Cond.fieldLink RX5 18 "AskTree$Rules" "must" "[I", Cond.fieldLink RX5 21 "AskTree$Rules" "barredCount" "[I", Cond.fieldLink RX5 27 "AskTree$Rules" "clashes" "[Z", Cond.fieldLink RX5 40 "AskTree$Tree" "below" "[I", Cond.fieldLink RX5 43 "AskTree$Tree" "asked" "[I", Cond.fieldLink RX5 46 "AskTree$Tree" "values" "[I", Cond.methodLink RX5 34 yX6_isLeaf, Cond.instanceMethod yX6_isLeaf, Cond.selects RX6 yX6_isLeaf yX6_isLeaf, Cond.initialized RX6, Cond.code yX6_isLeaf cX6_isLeaf 2 (some .boolean), Cond.fieldLink RX6 9 "AskTree$Tree" "asked" "[I", Cond.fieldLink RX6 18 "AskTree$Tree" "below" "[I", Cond.methodLink RX6 34 yX6_has, Cond.instanceMethod yX6_has, Cond.selects RX6 yX6_has yX6_has, Cond.code yX6_has cX6_has 2 (some .boolean), Cond.fieldLink RX6 30 "AskTree$Tree" "size" "I", Cond.static yX7_isMark, Cond.initialized RX7, Cond.code yX7_isMark cX7_isMark 1 (some .boolean), Cond.methodLink RX5 49 yX5_note]
def wsX5_readFor_r2 : List Cond := [Cond.instanceMethod yX5_note, Cond.selects RX5 yX5_note yX5_note, Cond.initialized RX5, Cond.code yX5_note cX5_note 4 none, Cond.fieldLink RX5 31 "AskTree$Rules" "kinds" "[I", Cond.methodLink RX5 56 Lib.Math.min.name, Cond.static Lib.Math.min.name, Cond.initialized "java/lang/Math", Cond.code Lib.Math.min.name Lib.Math.min.code 2 (some .int), Cond.methodLink RX5 62 Lib.Math.max.name, Cond.static Lib.Math.max.name, Cond.code Lib.Math.max.name Lib.Math.max.code 2 (some .int), Cond.methodLink RX5 53 yX5_noteSort, Cond.instanceMethod yX5_noteSort, Cond.selects RX5 yX5_noteSort yX5_noteSort, Cond.code yX5_noteSort cX5_noteSort 4 none, Cond.fieldLink RX5 24 "AskTree$Rules" "barred" "[I", Cond.methodLink RX5 65 yX5_isBarred, Cond.instanceMethod yX5_isBarred, Cond.selects RX5 yX5_isBarred yX5_isBarred, Cond.code yX5_isBarred cX5_isBarred 4 (some .boolean)]
def wsX5_readFor : List Cond := .code yX5_readFor cX5_readFor 6 none :: ((wsX5_readFor_r1 ++ wsX5_readFor_r2) ++ wsX50 ++ wsX60)
def wsX5_canFollow : List Cond := .code yX5_canFollow cX5_canFollow 2 (some .boolean) :: ([.fieldLink RX5 31 "AskTree$Rules" "kinds" "[I", .fieldLink RX5 27 "AskTree$Rules" "clashes" "[Z", .fieldLink RX5 9 "AskTree$Rules" "least" "[I", .fieldLink RX5 15 "AskTree$Rules" "greatest" "[I"] ++ wsX50)
def wsX5_canAllFollow : List Cond := .code yX5_canAllFollow cX5_canAllFollow 2 (some .boolean) :: ([.methodLink RX5 69 yX5_canFollow, .instanceMethod yX5_canFollow, .selects RX5 yX5_canFollow yX5_canFollow, .initialized RX5, .code yX5_canFollow cX5_canFollow 2 (some .boolean), .fieldLink RX5 31 "AskTree$Rules" "kinds" "[I", .fieldLink RX5 27 "AskTree$Rules" "clashes" "[Z", .fieldLink RX5 9 "AskTree$Rules" "least" "[I", .fieldLink RX5 15 "AskTree$Rules" "greatest" "[I"] ++ wsX50)
def wsX5_first : List Cond := .code yX5_first cX5_first 2 (some .int) :: ([.fieldLink RX5 31 "AskTree$Rules" "kinds" "[I", .fieldLink RX5 18 "AskTree$Rules" "must" "[I", .fieldLink RX5 9 "AskTree$Rules" "least" "[I", .methodLink RX5 69 yX5_canFollow, .instanceMethod yX5_canFollow, .selects RX5 yX5_canFollow yX5_canFollow, .initialized RX5, .code yX5_canFollow cX5_canFollow 2 (some .boolean), .fieldLink RX5 27 "AskTree$Rules" "clashes" "[Z", .fieldLink RX5 15 "AskTree$Rules" "greatest" "[I"] ++ wsX50)
def wsX5_second : List Cond := .code yX5_second cX5_second 2 (some .int) :: ([.fieldLink RX5 31 "AskTree$Rules" "kinds" "[I", .fieldLink RX5 15 "AskTree$Rules" "greatest" "[I", .fieldLink RX5 18 "AskTree$Rules" "must" "[I", .fieldLink RX5 21 "AskTree$Rules" "barredCount" "[I", .methodLink RX5 69 yX5_canFollow, .instanceMethod yX5_canFollow, .selects RX5 yX5_canFollow yX5_canFollow, .initialized RX5, .code yX5_canFollow cX5_canFollow 2 (some .boolean), .fieldLink RX5 27 "AskTree$Rules" "clashes" "[Z", .fieldLink RX5 9 "AskTree$Rules" "least" "[I"] ++ wsX50)
def wsX5_turn : List Cond := .code yX5_turn cX5_turn 4 (some .int) :: ([.fieldLink RX5 31 "AskTree$Rules" "kinds" "[I", .fieldLink RX5 9 "AskTree$Rules" "least" "[I", .methodLink RX5 62 Lib.Math.max.name, .static Lib.Math.max.name, .initialized "java/lang/Math", .code Lib.Math.max.name Lib.Math.max.code 2 (some .int), .fieldLink RX5 15 "AskTree$Rules" "greatest" "[I", .methodLink RX5 56 Lib.Math.min.name, .static Lib.Math.min.name, .code Lib.Math.min.name Lib.Math.min.code 2 (some .int), .fieldLink RX5 18 "AskTree$Rules" "must" "[I", .methodLink RX5 65 yX5_isBarred, .instanceMethod yX5_isBarred, .selects RX5 yX5_isBarred yX5_isBarred, .initialized RX5, .code yX5_isBarred cX5_isBarred 4 (some .boolean), .fieldLink RX5 21 "AskTree$Rules" "barredCount" "[I", .fieldLink RX5 24 "AskTree$Rules" "barred" "[I"] ++ wsX50)
def wsX5_turnInto : List Cond := .code yX5_turnInto cX5_turnInto 4 none :: ([.methodLink RX5 72 yX5_turn, .instanceMethod yX5_turn, .selects RX5 yX5_turn yX5_turn, .initialized RX5, .code yX5_turn cX5_turn 4 (some .int), .fieldLink RX5 31 "AskTree$Rules" "kinds" "[I", .fieldLink RX5 9 "AskTree$Rules" "least" "[I", .methodLink RX5 62 Lib.Math.max.name, .static Lib.Math.max.name, .initialized "java/lang/Math", .code Lib.Math.max.name Lib.Math.max.code 2 (some .int), .fieldLink RX5 15 "AskTree$Rules" "greatest" "[I", .methodLink RX5 56 Lib.Math.min.name, .static Lib.Math.min.name, .code Lib.Math.min.name Lib.Math.min.code 2 (some .int), .fieldLink RX5 18 "AskTree$Rules" "must" "[I", .methodLink RX5 65 yX5_isBarred, .instanceMethod yX5_isBarred, .selects RX5 yX5_isBarred yX5_isBarred, .code yX5_isBarred cX5_isBarred 4 (some .boolean), .fieldLink RX5 21 "AskTree$Rules" "barredCount" "[I", .fieldLink RX5 24 "AskTree$Rules" "barred" "[I"] ++ wsX50)
def wsX5_offCount : List Cond := .code yX5_offCount cX5_offCount 4 (some .int) :: ([.methodLink RX5 72 yX5_turn, .instanceMethod yX5_turn, .selects RX5 yX5_turn yX5_turn, .initialized RX5, .code yX5_turn cX5_turn 4 (some .int), .fieldLink RX5 31 "AskTree$Rules" "kinds" "[I", .fieldLink RX5 9 "AskTree$Rules" "least" "[I", .methodLink RX5 62 Lib.Math.max.name, .static Lib.Math.max.name, .initialized "java/lang/Math", .code Lib.Math.max.name Lib.Math.max.code 2 (some .int), .fieldLink RX5 15 "AskTree$Rules" "greatest" "[I", .methodLink RX5 56 Lib.Math.min.name, .static Lib.Math.min.name, .code Lib.Math.min.name Lib.Math.min.code 2 (some .int), .fieldLink RX5 18 "AskTree$Rules" "must" "[I", .methodLink RX5 65 yX5_isBarred, .instanceMethod yX5_isBarred, .selects RX5 yX5_isBarred yX5_isBarred, .code yX5_isBarred cX5_isBarred 4 (some .boolean), .fieldLink RX5 21 "AskTree$Rules" "barredCount" "[I", .fieldLink RX5 24 "AskTree$Rules" "barred" "[I"] ++ wsX50)
def wsX5_wayTo_r1 : List Cond := [Cond.fieldLink RX5 31 "AskTree$Rules" "kinds" "[I", Cond.methodLink RX5 75 Lib.Math.abs.name, Cond.static Lib.Math.abs.name, Cond.initialized "java/lang/Math", Cond.code Lib.Math.abs.name Lib.Math.abs.code 1 (some .int), Cond.methodLink RX5 72 yX5_turn, Cond.instanceMethod yX5_turn, Cond.selects RX5 yX5_turn yX5_turn, Cond.initialized RX5, Cond.code yX5_turn cX5_turn 4 (some .int), Cond.fieldLink RX5 9 "AskTree$Rules" "least" "[I", Cond.methodLink RX5 62 Lib.Math.max.name, Cond.static Lib.Math.max.name, Cond.code Lib.Math.max.name Lib.Math.max.code 2 (some .int), Cond.fieldLink RX5 15 "AskTree$Rules" "greatest" "[I", Cond.methodLink RX5 56 Lib.Math.min.name, Cond.static Lib.Math.min.name, Cond.code Lib.Math.min.name Lib.Math.min.code 2 (some .int), Cond.fieldLink RX5 18 "AskTree$Rules" "must" "[I", Cond.methodLink RX5 65 yX5_isBarred, Cond.instanceMethod yX5_isBarred, Cond.selects RX5 yX5_isBarred yX5_isBarred, Cond.code yX5_isBarred cX5_isBarred 4 (some .boolean), Cond.fieldLink RX5 21 "AskTree$Rules" "barredCount" "[I"]
def wsX5_wayTo_r2 : List Cond := [Cond.fieldLink RX5 24 "AskTree$Rules" "barred" "[I"]
def wsX5_wayTo : List Cond := .code yX5_wayTo cX5_wayTo 4 (some .int) :: ((wsX5_wayTo_r1 ++ wsX5_wayTo_r2) ++ wsX50)
def wsX6_init : List Cond := .code yX6_init cX6_init 1 none :: ([.methodLink RX6 3 objectInit, .instanceMethod objectInit, .code objectInit ⟨#[0xb1]⟩ 1 none, .arrayClass .int, .fieldLink RX6 9 "AskTree$Tree" "asked" "[I", .fieldLink RX6 15 "AskTree$Tree" "values" "[I", .fieldLink RX6 18 "AskTree$Tree" "below" "[I", .fieldLink RX6 21 "AskTree$Tree" "ways" "[I", .fieldLink RX6 24 "AskTree$Tree" "above" "[I", .fieldLink RX6 27 "AskTree$Tree" "shares" "[I", .fieldLink RX6 30 "AskTree$Tree" "size" "I"] ++ wsX60)
def wsX6_leaves : List Cond := .code yX6_leaves cX6_leaves 1 (some .int) :: ([.fieldLink RX6 30 "AskTree$Tree" "size" "I"] ++ wsX60)
def wsX6_deepest : List Cond := .code yX6_deepest cX6_deepest 3 (some .int) :: ([.fieldLink RX6 30 "AskTree$Tree" "size" "I", .fieldLink RX6 24 "AskTree$Tree" "above" "[I", .methodLink RX6 58 Lib.Math.max.name, .static Lib.Math.max.name, .initialized "java/lang/Math", .code Lib.Math.max.name Lib.Math.max.code 2 (some .int)] ++ wsX60)
def wsX6_allMisses_r1 : List Cond := [Cond.fieldLink RX6 30 "AskTree$Tree" "size" "I", Cond.methodLink RX6 64 yX6_isLeaf, Cond.instanceMethod yX6_isLeaf, Cond.selects RX6 yX6_isLeaf yX6_isLeaf, Cond.initialized RX6, Cond.code yX6_isLeaf cX6_isLeaf 2 (some .boolean), Cond.fieldLink RX6 9 "AskTree$Tree" "asked" "[I", Cond.fieldLink RX6 18 "AskTree$Tree" "below" "[I", Cond.methodLink RX6 34 yX6_has, Cond.instanceMethod yX6_has, Cond.selects RX6 yX6_has yX6_has, Cond.code yX6_has cX6_has 2 (some .boolean), Cond.static yX7_isMark, Cond.initialized RX7, Cond.code yX7_isMark cX7_isMark 1 (some .boolean), Cond.methodLink RX6 67 yX6_misses, Cond.instanceMethod yX6_misses, Cond.selects RX6 yX6_misses yX6_misses, Cond.code yX6_misses cX6_misses 2 (some .int), Cond.fieldLink RX6 27 "AskTree$Tree" "shares" "[I", Cond.methodLink RX6 51 yX6_total, Cond.instanceMethod yX6_total, Cond.selects RX6 yX6_total yX6_total, Cond.code yX6_total cX6_total 3 (some .int)]
def wsX6_allMisses_r2 : List Cond := [Cond.methodLink RX6 55 yX6_verdict, Cond.instanceMethod yX6_verdict, Cond.selects RX6 yX6_verdict yX6_verdict, Cond.code yX6_verdict cX6_verdict 2 (some .int), Cond.static yX7_firstGreatest, Cond.code yX7_firstGreatest cX7_firstGreatest 4 (some .int)]
def wsX6_allMisses : List Cond := .code yX6_allMisses cX6_allMisses 3 (some .int) :: ((wsX6_allMisses_r1 ++ wsX6_allMisses_r2) ++ wsX60)
def wsX6_leafFor : List Cond := .code yX6_leafFor cX6_leafFor 8 (some .int) :: ([.fieldLink RX6 9 "AskTree$Tree" "asked" "[I", .fieldLink RX6 15 "AskTree$Tree" "values" "[I", .fieldLink RX6 21 "AskTree$Tree" "ways" "[I", .fieldLink RX6 18 "AskTree$Tree" "below" "[I", .methodLink RX6 64 yX6_isLeaf, .instanceMethod yX6_isLeaf, .selects RX6 yX6_isLeaf yX6_isLeaf, .initialized RX6, .code yX6_isLeaf cX6_isLeaf 2 (some .boolean), .methodLink RX6 34 yX6_has, .instanceMethod yX6_has, .selects RX6 yX6_has yX6_has, .code yX6_has cX6_has 2 (some .boolean), .fieldLink RX6 30 "AskTree$Tree" "size" "I", .static yX7_isMark, .initialized RX7, .code yX7_isMark cX7_isMark 1 (some .boolean), .static yX7_isYes, .code yX7_isYes cX7_isYes 4 (some .boolean)] ++ wsX60)
def wsX7_init_r1 : List Cond := [Cond.methodLink RX7 3 objectInit, Cond.instanceMethod objectInit, Cond.code objectInit ⟨#[0xb1]⟩ 1 none, Cond.classLink RX7 9 RX0, Cond.instantiable RX0 5, Cond.initialized RX0, Cond.fieldLink RX7 12 "AskTree" "cases" "LAskTree$Cases;", Cond.classLink RX7 16 RX4, Cond.instantiable RX4 5, Cond.initialized RX4, Cond.fieldLink RX7 21 "AskTree" "rows" "LAskTree$Rows;", Cond.classLink RX7 25 RX2, Cond.instantiable RX2 12, Cond.initialized RX2, Cond.fieldLink RX7 30 "AskTree" "grower" "LAskTree$Grower;", Cond.classLink RX7 34 RX1, Cond.instantiable RX1 12, Cond.initialized RX1, Cond.fieldLink RX7 37 "AskTree" "finder" "LAskTree$Finder;", Cond.classLink RX7 41 RX3, Cond.instantiable RX3 5, Cond.initialized RX3, Cond.fieldLink RX7 44 "AskTree" "pruner" "LAskTree$Pruner;", Cond.classLink RX7 48 RX5]
def wsX7_init_r2 : List Cond := [Cond.instantiable RX5 7, Cond.initialized RX5, Cond.fieldLink RX7 50 "AskTree$Cases" "kinds" "[I", Cond.fieldLink RX7 57 "AskTree" "rules" "LAskTree$Rules;", Cond.classLink RX7 61 RX6, Cond.fieldLink RX7 63 "AskTree" "trees" "[LAskTree$Tree;", Cond.arrayClass .int, Cond.fieldLink RX7 67 "AskTree" "told" "[I", Cond.fieldLink RX7 70 "AskTree" "turnedMarks" "[I", Cond.fieldLink RX7 73 "AskTree" "ballots" "[I", Cond.fieldLink RX7 76 "AskTree" "treeCount" "I", Cond.fieldLink RX7 80 "AskTree" "lastLeaf" "I", Cond.fieldLink RX7 83 "AskTree" "lastVoices" "I", Cond.fieldLink RX7 86 "AskTree" "hasTurned" "Z", Cond.instanceMethod yX0_init, Cond.code yX0_init cX0_init 1 none, Cond.methodLink RX0 3 objectInit, Cond.fieldLink RX0 9 "AskTree$Cases" "kinds" "[I", Cond.fieldLink RX0 15 "AskTree$Cases" "classes" "[I", Cond.fieldLink RX0 18 "AskTree$Cases" "marks" "[I", Cond.fieldLink RX0 21 "AskTree$Cases" "order" "[I", Cond.fieldLink RX0 24 "AskTree$Cases" "size" "I", Cond.methodLink RX7 18 yX4_init, Cond.instanceMethod yX4_init]
def wsX7_init_r3 : List Cond := [Cond.code yX4_init cX4_init 2 none, Cond.methodLink RX4 3 objectInit, Cond.fieldLink RX4 9 "AskTree$Rows" "row" "[I", Cond.fieldLink RX4 15 "AskTree$Rows" "sides" "[I", Cond.fieldLink RX4 18 "AskTree$Rows" "kept" "[I", Cond.fieldLink RX4 21 "AskTree$Rows" "size" "I", Cond.fieldLink RX4 25 "AskTree$Rows" "cases" "LAskTree$Cases;", Cond.methodLink RX7 27 yX2_init, Cond.instanceMethod yX2_init, Cond.code yX2_init cX2_init 3 none, Cond.methodLink RX2 3 objectInit, Cond.fieldLink RX2 9 "AskTree$Grower" "all" "[I", Cond.fieldLink RX2 15 "AskTree$Grower" "gaps" "[I", Cond.fieldLink RX2 18 "AskTree$Grower" "yes" "[I", Cond.fieldLink RX2 21 "AskTree$Grower" "cases" "LAskTree$Cases;", Cond.fieldLink RX2 25 "AskTree$Grower" "rows" "LAskTree$Rows;", Cond.methodLink RX7 36 yX1_init, Cond.instanceMethod yX1_init, Cond.code yX1_init cX1_init 3 none, Cond.methodLink RX1 3 objectInit, Cond.fieldLink RX1 9 "AskTree$Finder" "all" "[I", Cond.fieldLink RX1 15 "AskTree$Finder" "yes" "[I", Cond.fieldLink RX1 18 "AskTree$Finder" "cases" "LAskTree$Cases;", Cond.fieldLink RX1 22 "AskTree$Finder" "rows" "LAskTree$Rows;"]
def wsX7_init_r4 : List Cond := [Cond.instanceMethod yX3_init, Cond.code yX3_init cX3_init 1 none, Cond.methodLink RX3 3 objectInit, Cond.fieldLink RX3 9 "AskTree$Pruner" "costs" "[I", Cond.fieldLink RX3 15 "AskTree$Pruner" "upper" "I", Cond.fieldLink RX3 19 "AskTree$Pruner" "lower" "I", Cond.methodLink RX7 54 yX5_init, Cond.instanceMethod yX5_init, Cond.code yX5_init cX5_init 2 none, Cond.methodLink RX5 3 objectInit, Cond.fieldLink RX5 9 "AskTree$Rules" "least" "[I", Cond.fieldLink RX5 15 "AskTree$Rules" "greatest" "[I", Cond.fieldLink RX5 18 "AskTree$Rules" "must" "[I", Cond.fieldLink RX5 21 "AskTree$Rules" "barredCount" "[I", Cond.fieldLink RX5 24 "AskTree$Rules" "barred" "[I", Cond.arrayClass .boolean, Cond.fieldLink RX5 27 "AskTree$Rules" "clashes" "[Z", Cond.fieldLink RX5 31 "AskTree$Rules" "kinds" "[I"]
def wsX7_init : List Cond := .code yX7_init cX7_init 1 none :: ((wsX7_init_r1 ++ (wsX7_init_r2 ++ (wsX7_init_r3 ++ wsX7_init_r4))) ++ wsX00 ++ wsX70 ++ wsX40 ++ wsX20 ++ wsX10 ++ wsX30 ++ wsX50)
def wsX7_sort : List Cond := .code yX7_sort cX7_sort 4 (some .int) :: ([.fieldLink RX7 12 "AskTree" "cases" "LAskTree$Cases;", .fieldLink RX7 94 "AskTree$Cases" "size" "I", .fieldLink RX7 76 "AskTree" "treeCount" "I", .fieldLink RX7 50 "AskTree$Cases" "kinds" "[I", .methodLink RX7 90 yX7_isMark, .static yX7_isMark, .initialized RX7, .code yX7_isMark cX7_isMark 1 (some .boolean)] ++ wsX70 ++ wsX00)
def wsX7_isClass : List Cond := .code yX7_isClass cX7_isClass 1 (some .boolean) :: ([])
def wsX7_readPair : List Cond := .code yX7_readPair cX7_readPair 3 none :: ([.fieldLink RX7 67 "AskTree" "told" "[I"] ++ wsX70)
def wsX7_readTold : List Cond := .code yX7_readTold cX7_readTold 7 (some .boolean) :: ([.fieldLink RX7 67 "AskTree" "told" "[I", .methodLink RX7 254 yX7_readPair, .instanceMethod yX7_readPair, .selects RX7 yX7_readPair yX7_readPair, .initialized RX7, .code yX7_readPair cX7_readPair 3 none] ++ wsX70)
def wsX7_add_r1 : List Cond := [Cond.fieldLink RX7 12 "AskTree" "cases" "LAskTree$Cases;", Cond.fieldLink RX7 94 "AskTree$Cases" "size" "I", Cond.fieldLink RX7 67 "AskTree" "told" "[I", Cond.methodLink RX7 97 yX7_isClass, Cond.static yX7_isClass, Cond.initialized RX7, Cond.code yX7_isClass cX7_isClass 1 (some .boolean), Cond.methodLink RX7 100 yX7_readTold, Cond.instanceMethod yX7_readTold, Cond.selects RX7 yX7_readTold yX7_readTold, Cond.code yX7_readTold cX7_readTold 7 (some .boolean), Cond.methodLink RX7 254 yX7_readPair, Cond.instanceMethod yX7_readPair, Cond.selects RX7 yX7_readPair yX7_readPair, Cond.code yX7_readPair cX7_readPair 3 none, Cond.methodLink RX7 104 yX0_append, Cond.instanceMethod yX0_append, Cond.selects RX0 yX0_append yX0_append, Cond.initialized RX0, Cond.code yX0_append cX0_append 4 none, Cond.fieldLink RX0 24 "AskTree$Cases" "size" "I", Cond.fieldLink RX0 15 "AskTree$Cases" "classes" "[I", Cond.fieldLink RX0 18 "AskTree$Cases" "marks" "[I", Cond.methodLink RX0 28 yX0_putInOrder]
def wsX7_add_r2 : List Cond := [Cond.instanceMethod yX0_putInOrder, Cond.selects RX0 yX0_putInOrder yX0_putInOrder, Cond.code yX0_putInOrder cX0_putInOrder 5 none, Cond.fieldLink RX0 21 "AskTree$Cases" "order" "[I", Cond.methodLink RX0 32 arraycopyName, Cond.native arraycopyName, Cond.static arraycopyName, Cond.initialized "java/lang/System"]
def wsX7_add : List Cond := .code yX7_add cX7_add 6 (some .int) :: ((wsX7_add_r1 ++ wsX7_add_r2) ++ wsX70 ++ wsX00)
def wsX7_isCase : List Cond := .code yX7_isCase cX7_isCase 2 (some .boolean) :: ([.fieldLink RX7 12 "AskTree" "cases" "LAskTree$Cases;", .fieldLink RX7 94 "AskTree$Cases" "size" "I"] ++ wsX70 ++ wsX00)
def wsX7_drop : List Cond := .code yX7_drop cX7_drop 2 (some .int) :: ([.fieldLink RX7 12 "AskTree" "cases" "LAskTree$Cases;", .fieldLink RX7 94 "AskTree$Cases" "size" "I", .methodLink RX7 108 yX7_isCase, .instanceMethod yX7_isCase, .selects RX7 yX7_isCase yX7_isCase, .initialized RX7, .code yX7_isCase cX7_isCase 2 (some .boolean), .methodLink RX7 111 yX0_takeOut, .instanceMethod yX0_takeOut, .selects RX0 yX0_takeOut yX0_takeOut, .initialized RX0, .code yX0_takeOut cX0_takeOut 4 none, .fieldLink RX0 24 "AskTree$Cases" "size" "I", .fieldLink RX0 15 "AskTree$Cases" "classes" "[I", .methodLink RX0 32 arraycopyName, .native arraycopyName, .static arraycopyName, .initialized "java/lang/System", .fieldLink RX0 18 "AskTree$Cases" "marks" "[I", .methodLink RX0 38 yX0_takeOutOfOrder, .instanceMethod yX0_takeOutOfOrder, .selects RX0 yX0_takeOutOfOrder yX0_takeOutOfOrder, .code yX0_takeOutOfOrder cX0_takeOutOfOrder 6 none, .fieldLink RX0 21 "AskTree$Cases" "order" "[I"] ++ wsX70 ++ wsX00)
def wsX7_mark : List Cond := .code yX7_mark cX7_mark 3 (some .int) :: ([.fieldLink RX7 12 "AskTree" "cases" "LAskTree$Cases;", .fieldLink RX7 115 "AskTree$Cases" "marks" "[I", .constant RX7 118 (-40000), .methodLink RX7 108 yX7_isCase, .instanceMethod yX7_isCase, .selects RX7 yX7_isCase yX7_isCase, .initialized RX7, .code yX7_isCase cX7_isCase 2 (some .boolean), .fieldLink RX7 94 "AskTree$Cases" "size" "I", .methodLink RX7 90 yX7_isMark, .static yX7_isMark, .code yX7_isMark cX7_isMark 1 (some .boolean)] ++ wsX70 ++ wsX00)
def wsX7_cls : List Cond := .code yX7_cls cX7_cls 2 (some .int) :: ([.fieldLink RX7 12 "AskTree" "cases" "LAskTree$Cases;", .fieldLink RX7 119 "AskTree$Cases" "classes" "[I", .methodLink RX7 108 yX7_isCase, .instanceMethod yX7_isCase, .selects RX7 yX7_isCase yX7_isCase, .initialized RX7, .code yX7_isCase cX7_isCase 2 (some .boolean), .fieldLink RX7 94 "AskTree$Cases" "size" "I"] ++ wsX70 ++ wsX00)
def wsX7_canGrow : List Cond := .code yX7_canGrow cX7_canGrow 2 (some .boolean) :: ([])
def wsX7_placeFor : List Cond := .code yX7_placeFor cX7_placeFor 3 (some (.object "AskTree$Tree")) :: ([.fieldLink RX7 63 "AskTree" "trees" "[LAskTree$Tree;", .classLink RX7 61 RX6, .instantiable RX6 7, .initialized RX6, .fieldLink RX7 152 "AskTree$Tree" "size" "I", .instanceMethod yX6_init, .code yX6_init cX6_init 1 none, .methodLink RX6 3 objectInit, .instanceMethod objectInit, .code objectInit ⟨#[0xb1]⟩ 1 none, .arrayClass .int, .fieldLink RX6 9 "AskTree$Tree" "asked" "[I", .fieldLink RX6 15 "AskTree$Tree" "values" "[I", .fieldLink RX6 18 "AskTree$Tree" "below" "[I", .fieldLink RX6 21 "AskTree$Tree" "ways" "[I", .fieldLink RX6 24 "AskTree$Tree" "above" "[I", .fieldLink RX6 27 "AskTree$Tree" "shares" "[I", .fieldLink RX6 30 "AskTree$Tree" "size" "I"] ++ wsX70 ++ wsX60)
def wsX7_grow_r1 : List Cond := [Cond.fieldLink RX7 76 "AskTree" "treeCount" "I", Cond.fieldLink RX7 21 "AskTree" "rows" "LAskTree$Rows;", Cond.fieldLink RX7 30 "AskTree" "grower" "LAskTree$Grower;", Cond.methodLink RX7 122 yX7_canGrow, Cond.static yX7_canGrow, Cond.initialized RX7, Cond.code yX7_canGrow cX7_canGrow 2 (some .boolean), Cond.methodLink RX7 126 yX4_loadAll, Cond.instanceMethod yX4_loadAll, Cond.selects RX4 yX4_loadAll yX4_loadAll, Cond.initialized RX4, Cond.code yX4_loadAll cX4_loadAll 1 none, Cond.fieldLink RX4 25 "AskTree$Rows" "cases" "LAskTree$Cases;", Cond.fieldLink RX4 29 "AskTree$Cases" "order" "[I", Cond.fieldLink RX4 9 "AskTree$Rows" "row" "[I", Cond.methodLink RX4 34 arraycopyName, Cond.native arraycopyName, Cond.static arraycopyName, Cond.initialized "java/lang/System", Cond.fieldLink RX4 40 "AskTree$Cases" "size" "I", Cond.fieldLink RX4 21 "AskTree$Rows" "size" "I", Cond.methodLink RX7 129 yX7_placeFor, Cond.instanceMethod yX7_placeFor, Cond.selects RX7 yX7_placeFor yX7_placeFor]
def wsX7_grow_r2 : List Cond := [Cond.code yX7_placeFor cX7_placeFor 3 (some (.object "AskTree$Tree")), Cond.fieldLink RX7 63 "AskTree" "trees" "[LAskTree$Tree;", Cond.classLink RX7 61 RX6, Cond.instantiable RX6 7, Cond.initialized RX6, Cond.fieldLink RX7 152 "AskTree$Tree" "size" "I", Cond.instanceMethod yX6_init, Cond.code yX6_init cX6_init 1 none, Cond.methodLink RX6 3 objectInit, Cond.instanceMethod objectInit, Cond.code objectInit ⟨#[0xb1]⟩ 1 none, Cond.arrayClass .int, Cond.fieldLink RX6 9 "AskTree$Tree" "asked" "[I", Cond.fieldLink RX6 15 "AskTree$Tree" "values" "[I", Cond.fieldLink RX6 18 "AskTree$Tree" "below" "[I", Cond.fieldLink RX6 21 "AskTree$Tree" "ways" "[I", Cond.fieldLink RX6 24 "AskTree$Tree" "above" "[I", Cond.fieldLink RX6 27 "AskTree$Tree" "shares" "[I", Cond.fieldLink RX6 30 "AskTree$Tree" "size" "I", Cond.methodLink RX7 133 yX2_growInto, Cond.instanceMethod yX2_growInto, Cond.selects RX2 yX2_growInto yX2_growInto, Cond.initialized RX2, Cond.code yX2_growInto cX2_growInto 4 none]
def wsX7_grow_r3 : List Cond := [Cond.methodLink RX2 29 Lib.Math.min.name, Cond.static Lib.Math.min.name, Cond.initialized "java/lang/Math", Cond.code Lib.Math.min.name Lib.Math.min.code 2 (some .int), Cond.fieldLink RX2 35 "AskTree$Grower" "depth" "I", Cond.fieldLink RX2 39 "AskTree$Grower" "least" "I", Cond.fieldLink RX2 25 "AskTree$Grower" "rows" "LAskTree$Rows;", Cond.fieldLink RX2 42 "AskTree$Rows" "size" "I", Cond.methodLink RX2 47 yX2_branch, Cond.instanceMethod yX2_branch, Cond.selects RX2 yX2_branch yX2_branch, Cond.code yX2_branch cX2_branch 7 (some .int), Cond.fieldLink RX2 9 "AskTree$Grower" "all" "[I", Cond.fieldLink RX2 69 "AskTree$Grower" "mark" "I", Cond.fieldLink RX2 72 "AskTree$Grower" "value" "I", Cond.fieldLink RX2 75 "AskTree$Grower" "way" "I", Cond.fieldLink RX2 86 "AskTree$Tree" "below" "[I", Cond.methodLink RX2 51 yX4_tally, Cond.instanceMethod yX4_tally, Cond.selects RX4 yX4_tally yX4_tally, Cond.code yX4_tally cX4_tally 5 none, Cond.fieldLink RX4 52 "AskTree$Cases" "classes" "[I", Cond.static yX7_clear, Cond.code yX7_clear cX7_clear 2 none]
def wsX7_grow_r4 : List Cond := [Cond.methodLink RX4 55 yX4_caseAt, Cond.instanceMethod yX4_caseAt, Cond.selects RX4 yX4_caseAt yX4_caseAt, Cond.code yX4_caseAt cX4_caseAt 3 (some .int), Cond.methodLink RX2 55 yX6_open, Cond.instanceMethod yX6_open, Cond.selects RX6 yX6_open yX6_open, Cond.code yX6_open cX6_open 5 (some .int), Cond.methodLink RX6 41 arraycopyName, Cond.static yX7_firstGreatest, Cond.code yX7_firstGreatest cX7_firstGreatest 4 (some .int), Cond.methodLink RX2 65 yX2_seek, Cond.instanceMethod yX2_seek, Cond.selects RX2 yX2_seek yX2_seek, Cond.code yX2_seek cX2_seek 4 (some .boolean), Cond.methodLink RX2 89 yX4_isSame, Cond.instanceMethod yX4_isSame, Cond.selects RX4 yX4_isSame yX4_isSame, Cond.code yX4_isSame cX4_isSame 4 (some .boolean), Cond.methodLink RX4 44 yX4_markAt, Cond.instanceMethod yX4_markAt, Cond.selects RX4 yX4_markAt yX4_markAt, Cond.code yX4_markAt cX4_markAt 3 (some .int), Cond.fieldLink RX4 41 "AskTree$Cases" "marks" "[I"]
def wsX7_grow_r5 : List Cond := [Cond.methodLink RX2 93 yX2_readGaps, Cond.instanceMethod yX2_readGaps, Cond.selects RX2 yX2_readGaps yX2_readGaps, Cond.code yX2_readGaps cX2_readGaps 5 (some .int), Cond.fieldLink RX2 15 "AskTree$Grower" "gaps" "[I", Cond.fieldLink RX2 21 "AskTree$Grower" "cases" "LAskTree$Cases;", Cond.fieldLink RX2 108 "AskTree$Cases" "classes" "[I", Cond.methodLink RX2 105 yX4_markAt, Cond.methodLink RX2 113 yX4_caseAt, Cond.methodLink RX2 97 yX2_seekIn, Cond.instanceMethod yX2_seekIn, Cond.selects RX2 yX2_seekIn yX2_seekIn, Cond.code yX2_seekIn cX2_seekIn 9 none, Cond.fieldLink RX2 116 "AskTree$Cases" "kinds" "[I", Cond.fieldLink RX2 18 "AskTree$Grower" "yes" "[I", Cond.methodLink RX2 119 yX2_weigh, Cond.instanceMethod yX2_weigh, Cond.selects RX2 yX2_weigh yX2_weigh, Cond.code yX2_weigh cX2_weigh 16 none, Cond.fieldLink RX2 122 "AskTree$Grower" "gainLower" "J", Cond.fieldLink RX2 126 "AskTree$Grower" "gainUpper" "J", Cond.methodLink RX2 78 yX6_ask, Cond.instanceMethod yX6_ask, Cond.selects RX6 yX6_ask yX6_ask]
def wsX7_grow_r6 : List Cond := [Cond.code yX6_ask cX6_ask 5 none, Cond.methodLink RX2 82 yX4_part, Cond.instanceMethod yX4_part, Cond.selects RX4 yX4_part yX4_part, Cond.code yX4_part cX4_part 9 (some .int), Cond.fieldLink RX4 58 "AskTree$Cases" "kinds" "[I", Cond.fieldLink RX4 15 "AskTree$Rows" "sides" "[I", Cond.static yX7_isYes, Cond.code yX7_isYes cX7_isYes 4 (some .boolean), Cond.methodLink RX4 65 yX4_partRow, Cond.instanceMethod yX4_partRow, Cond.selects RX4 yX4_partRow yX4_partRow, Cond.code yX4_partRow cX4_partRow 7 (some .int), Cond.fieldLink RX4 18 "AskTree$Rows" "kept" "[I"]
def wsX7_grow : List Cond := .code yX7_grow cX7_grow 3 (some .int) :: ((wsX7_grow_r1 ++ (wsX7_grow_r2 ++ (wsX7_grow_r3 ++ (wsX7_grow_r4 ++ (wsX7_grow_r5 ++ wsX7_grow_r6))))) ++ wsX70 ++ wsX40 ++ wsX00 ++ wsX60 ++ wsX20)
def wsX7_best_r1 : List Cond := [Cond.fieldLink RX7 12 "AskTree" "cases" "LAskTree$Cases;", Cond.fieldLink RX7 94 "AskTree$Cases" "size" "I", Cond.fieldLink RX7 76 "AskTree" "treeCount" "I", Cond.fieldLink RX7 21 "AskTree" "rows" "LAskTree$Rows;", Cond.fieldLink RX7 37 "AskTree" "finder" "LAskTree$Finder;", Cond.methodLink RX7 137 yX0_haveGaps, Cond.instanceMethod yX0_haveGaps, Cond.selects RX0 yX0_haveGaps yX0_haveGaps, Cond.initialized RX0, Cond.code yX0_haveGaps cX0_haveGaps 2 (some .boolean), Cond.fieldLink RX0 24 "AskTree$Cases" "size" "I", Cond.fieldLink RX0 18 "AskTree$Cases" "marks" "[I", Cond.fieldLink RX0 21 "AskTree$Cases" "order" "[I", Cond.methodLink RX7 126 yX4_loadAll, Cond.instanceMethod yX4_loadAll, Cond.selects RX4 yX4_loadAll yX4_loadAll, Cond.initialized RX4, Cond.code yX4_loadAll cX4_loadAll 1 none, Cond.fieldLink RX4 25 "AskTree$Rows" "cases" "LAskTree$Cases;", Cond.fieldLink RX4 29 "AskTree$Cases" "order" "[I", Cond.fieldLink RX4 9 "AskTree$Rows" "row" "[I", Cond.methodLink RX4 34 arraycopyName, Cond.native arraycopyName, Cond.static arraycopyName]
def wsX7_best_r2 : List Cond := [Cond.initialized "java/lang/System", Cond.fieldLink RX4 40 "AskTree$Cases" "size" "I", Cond.fieldLink RX4 21 "AskTree$Rows" "size" "I", Cond.methodLink RX7 129 yX7_placeFor, Cond.instanceMethod yX7_placeFor, Cond.selects RX7 yX7_placeFor yX7_placeFor, Cond.initialized RX7, Cond.code yX7_placeFor cX7_placeFor 3 (some (.object "AskTree$Tree")), Cond.fieldLink RX7 63 "AskTree" "trees" "[LAskTree$Tree;", Cond.classLink RX7 61 RX6, Cond.instantiable RX6 7, Cond.initialized RX6, Cond.fieldLink RX7 152 "AskTree$Tree" "size" "I", Cond.instanceMethod yX6_init, Cond.code yX6_init cX6_init 1 none, Cond.methodLink RX6 3 objectInit, Cond.instanceMethod objectInit, Cond.code objectInit ⟨#[0xb1]⟩ 1 none, Cond.arrayClass .int, Cond.fieldLink RX6 9 "AskTree$Tree" "asked" "[I", Cond.fieldLink RX6 15 "AskTree$Tree" "values" "[I", Cond.fieldLink RX6 18 "AskTree$Tree" "below" "[I", Cond.fieldLink RX6 21 "AskTree$Tree" "ways" "[I", Cond.fieldLink RX6 24 "AskTree$Tree" "above" "[I"]
def wsX7_best_r3 : List Cond := [Cond.fieldLink RX6 27 "AskTree$Tree" "shares" "[I", Cond.fieldLink RX6 30 "AskTree$Tree" "size" "I", Cond.methodLink RX7 141 yX1_findInto, Cond.instanceMethod yX1_findInto, Cond.selects RX1 yX1_findInto yX1_findInto, Cond.initialized RX1, Cond.code yX1_findInto cX1_findInto 3 none, Cond.fieldLink RX1 22 "AskTree$Finder" "rows" "LAskTree$Rows;", Cond.fieldLink RX1 26 "AskTree$Rows" "size" "I", Cond.methodLink RX1 32 yX1_build, Cond.instanceMethod yX1_build, Cond.selects RX1 yX1_build yX1_build, Cond.code yX1_build cX1_build 11 (some .int), Cond.fieldLink RX1 9 "AskTree$Finder" "all" "[I", Cond.fieldLink RX1 50 "AskTree$Finder" "topWrong" "I", Cond.fieldLink RX1 57 "AskTree$Finder" "topMark" "I", Cond.fieldLink RX1 60 "AskTree$Finder" "topValue" "I", Cond.fieldLink RX1 71 "AskTree$Tree" "below" "[I", Cond.methodLink RX1 36 yX4_tally, Cond.instanceMethod yX4_tally, Cond.selects RX4 yX4_tally yX4_tally, Cond.code yX4_tally cX4_tally 5 none, Cond.fieldLink RX4 52 "AskTree$Cases" "classes" "[I", Cond.static yX7_clear]
def wsX7_best_r4 : List Cond := [Cond.code yX7_clear cX7_clear 2 none, Cond.methodLink RX4 55 yX4_caseAt, Cond.instanceMethod yX4_caseAt, Cond.selects RX4 yX4_caseAt yX4_caseAt, Cond.code yX4_caseAt cX4_caseAt 3 (some .int), Cond.methodLink RX1 40 yX6_open, Cond.instanceMethod yX6_open, Cond.selects RX6 yX6_open yX6_open, Cond.code yX6_open cX6_open 5 (some .int), Cond.methodLink RX6 41 arraycopyName, Cond.methodLink RX1 46 yX1_takeOne, Cond.instanceMethod yX1_takeOne, Cond.selects RX1 yX1_takeOne yX1_takeOne, Cond.code yX1_takeOne cX1_takeOne 3 none, Cond.fieldLink RX1 80 "AskTree$Finder" "oneMark" "I", Cond.fieldLink RX1 83 "AskTree$Finder" "oneValue" "I", Cond.fieldLink RX1 86 "AskTree$Finder" "oneWrong" "I", Cond.fieldLink RX1 89 "AskTree$Finder" "topAsks" "I", Cond.methodLink RX1 74 yX4_setSides, Cond.instanceMethod yX4_setSides, Cond.selects RX4 yX4_setSides yX4_setSides, Cond.code yX4_setSides cX4_setSides 6 none, Cond.fieldLink RX4 15 "AskTree$Rows" "sides" "[I", Cond.methodLink RX1 77 yX1_seekOne]
def wsX7_best_r5 : List Cond := [Cond.instanceMethod yX1_seekOne, Cond.selects RX1 yX1_seekOne yX1_seekOne, Cond.code yX1_seekOne cX1_seekOne 6 none, Cond.fieldLink RX1 118 "AskTree$Finder" "oneTotal" "I", Cond.fieldLink RX1 108 "AskTree$Rows" "sides" "[I", Cond.fieldLink RX1 18 "AskTree$Finder" "cases" "LAskTree$Cases;", Cond.fieldLink RX1 121 "AskTree$Cases" "classes" "[I", Cond.methodLink RX1 111 yX4_caseAt, Cond.static yX7_firstGreatest, Cond.code yX7_firstGreatest cX7_firstGreatest 4 (some .int), Cond.methodLink RX1 92 yX4_isSame, Cond.instanceMethod yX4_isSame, Cond.selects RX4 yX4_isSame yX4_isSame, Cond.code yX4_isSame cX4_isSame 4 (some .boolean), Cond.methodLink RX4 44 yX4_markAt, Cond.instanceMethod yX4_markAt, Cond.selects RX4 yX4_markAt yX4_markAt, Cond.code yX4_markAt cX4_markAt 3 (some .int), Cond.fieldLink RX4 41 "AskTree$Cases" "marks" "[I", Cond.methodLink RX1 128 yX1_seekOneIn, Cond.instanceMethod yX1_seekOneIn, Cond.selects RX1 yX1_seekOneIn yX1_seekOneIn, Cond.code yX1_seekOneIn cX1_seekOneIn 11 none, Cond.fieldLink RX1 96 "AskTree$Cases" "kinds" "[I"]
def wsX7_best_r6 : List Cond := [Cond.fieldLink RX1 15 "AskTree$Finder" "yes" "[I", Cond.fieldLink RX1 131 "AskTree$Cases" "marks" "[I", Cond.methodLink RX1 134 yX1_judgeOne, Cond.instanceMethod yX1_judgeOne, Cond.selects RX1 yX1_judgeOne yX1_judgeOne, Cond.code yX1_judgeOne cX1_judgeOne 8 none, Cond.methodLink RX1 53 yX1_seekTop, Cond.instanceMethod yX1_seekTop, Cond.selects RX1 yX1_seekTop yX1_seekTop, Cond.code yX1_seekTop cX1_seekTop 8 none, Cond.methodLink RX1 101 yX4_markAt, Cond.methodLink RX1 105 yX1_judgeTop, Cond.instanceMethod yX1_judgeTop, Cond.selects RX1 yX1_judgeTop yX1_judgeTop, Cond.code yX1_judgeTop cX1_judgeTop 7 none, Cond.methodLink RX1 63 yX4_part, Cond.instanceMethod yX4_part, Cond.selects RX4 yX4_part yX4_part, Cond.code yX4_part cX4_part 9 (some .int), Cond.fieldLink RX4 58 "AskTree$Cases" "kinds" "[I", Cond.static yX7_isYes, Cond.code yX7_isYes cX7_isYes 4 (some .boolean), Cond.methodLink RX4 65 yX4_partRow, Cond.instanceMethod yX4_partRow]
def wsX7_best_r7 : List Cond := [Cond.selects RX4 yX4_partRow yX4_partRow, Cond.code yX4_partRow cX4_partRow 7 (some .int), Cond.fieldLink RX4 18 "AskTree$Rows" "kept" "[I", Cond.methodLink RX1 67 yX6_ask, Cond.instanceMethod yX6_ask, Cond.selects RX6 yX6_ask yX6_ask, Cond.code yX6_ask cX6_ask 5 none]
def wsX7_best : List Cond := .code yX7_best cX7_best 2 (some .int) :: ((wsX7_best_r1 ++ (wsX7_best_r2 ++ (wsX7_best_r3 ++ (wsX7_best_r4 ++ (wsX7_best_r5 ++ (wsX7_best_r6 ++ wsX7_best_r7)))))) ++ wsX70 ++ wsX00 ++ wsX40 ++ wsX60 ++ wsX10)
def wsX7_treeAt : List Cond := .code yX7_treeAt cX7_treeAt 2 (some (.object "AskTree$Tree")) :: ([.fieldLink RX7 76 "AskTree" "treeCount" "I", .fieldLink RX7 63 "AskTree" "trees" "[LAskTree$Tree;"] ++ wsX70)
def wsX7_cut_r1 : List Cond := [Cond.fieldLink RX7 76 "AskTree" "treeCount" "I", Cond.fieldLink RX7 44 "AskTree" "pruner" "LAskTree$Pruner;", Cond.methodLink RX7 145 yX7_treeAt, Cond.instanceMethod yX7_treeAt, Cond.selects RX7 yX7_treeAt yX7_treeAt, Cond.initialized RX7, Cond.code yX7_treeAt cX7_treeAt 2 (some (.object "AskTree$Tree")), Cond.fieldLink RX7 63 "AskTree" "trees" "[LAskTree$Tree;", Cond.methodLink RX7 129 yX7_placeFor, Cond.instanceMethod yX7_placeFor, Cond.selects RX7 yX7_placeFor yX7_placeFor, Cond.code yX7_placeFor cX7_placeFor 3 (some (.object "AskTree$Tree")), Cond.classLink RX7 61 RX6, Cond.instantiable RX6 7, Cond.initialized RX6, Cond.fieldLink RX7 152 "AskTree$Tree" "size" "I", Cond.instanceMethod yX6_init, Cond.code yX6_init cX6_init 1 none, Cond.methodLink RX6 3 objectInit, Cond.instanceMethod objectInit, Cond.code objectInit ⟨#[0xb1]⟩ 1 none, Cond.arrayClass .int, Cond.fieldLink RX6 9 "AskTree$Tree" "asked" "[I", Cond.fieldLink RX6 15 "AskTree$Tree" "values" "[I"]
def wsX7_cut_r2 : List Cond := [Cond.fieldLink RX6 18 "AskTree$Tree" "below" "[I", Cond.fieldLink RX6 21 "AskTree$Tree" "ways" "[I", Cond.fieldLink RX6 24 "AskTree$Tree" "above" "[I", Cond.fieldLink RX6 27 "AskTree$Tree" "shares" "[I", Cond.fieldLink RX6 30 "AskTree$Tree" "size" "I", Cond.methodLink RX7 148 yX3_cutInto, Cond.instanceMethod yX3_cutInto, Cond.selects RX3 yX3_cutInto yX3_cutInto, Cond.initialized RX3, Cond.code yX3_cutInto cX3_cutInto 6 none, Cond.fieldLink RX3 22 "AskTree$Pruner" "leafPrice" "I", Cond.fieldLink RX3 25 "AskTree$Pruner" "wrongPrice" "I", Cond.fieldLink RX3 28 "AskTree$Tree" "size" "I", Cond.fieldLink RX3 9 "AskTree$Pruner" "costs" "[I", Cond.fieldLink RX3 41 "AskTree$Tree" "below" "[I", Cond.methodLink RX3 44 Lib.Math.min.name, Cond.static Lib.Math.min.name, Cond.initialized "java/lang/Math", Cond.code Lib.Math.min.name Lib.Math.min.code 2 (some .int), Cond.methodLink RX3 33 yX3_leafCost, Cond.instanceMethod yX3_leafCost, Cond.selects RX3 yX3_leafCost yX3_leafCost, Cond.code yX3_leafCost cX3_leafCost 3 (some .int), Cond.methodLink RX3 54 yX6_misses]
def wsX7_cut_r3 : List Cond := [Cond.instanceMethod yX6_misses, Cond.selects RX6 yX6_misses yX6_misses, Cond.code yX6_misses cX6_misses 2 (some .int), Cond.methodLink RX6 51 yX6_total, Cond.instanceMethod yX6_total, Cond.selects RX6 yX6_total yX6_total, Cond.code yX6_total cX6_total 3 (some .int), Cond.methodLink RX6 55 yX6_verdict, Cond.instanceMethod yX6_verdict, Cond.selects RX6 yX6_verdict yX6_verdict, Cond.code yX6_verdict cX6_verdict 2 (some .int), Cond.static yX7_firstGreatest, Cond.code yX7_firstGreatest cX7_firstGreatest 4 (some .int), Cond.methodLink RX3 37 yX6_isLeaf, Cond.instanceMethod yX6_isLeaf, Cond.selects RX6 yX6_isLeaf yX6_isLeaf, Cond.code yX6_isLeaf cX6_isLeaf 2 (some .boolean), Cond.methodLink RX6 34 yX6_has, Cond.instanceMethod yX6_has, Cond.selects RX6 yX6_has yX6_has, Cond.code yX6_has cX6_has 2 (some .boolean), Cond.static yX7_isMark, Cond.code yX7_isMark cX7_isMark 1 (some .boolean), Cond.methodLink RX3 50 yX3_copy]
def wsX7_cut_r4 : List Cond := [Cond.instanceMethod yX3_copy, Cond.selects RX3 yX3_copy yX3_copy, Cond.code yX3_copy cX3_copy 7 (some .int), Cond.fieldLink RX3 58 "AskTree$Tree" "shares" "[I", Cond.fieldLink RX3 65 "AskTree$Tree" "asked" "[I", Cond.fieldLink RX3 68 "AskTree$Tree" "values" "[I", Cond.fieldLink RX3 71 "AskTree$Tree" "ways" "[I", Cond.methodLink RX3 61 yX6_open, Cond.instanceMethod yX6_open, Cond.selects RX6 yX6_open yX6_open, Cond.code yX6_open cX6_open 5 (some .int), Cond.methodLink RX6 41 arraycopyName, Cond.native arraycopyName, Cond.static arraycopyName, Cond.initialized "java/lang/System", Cond.methodLink RX3 74 yX6_ask, Cond.instanceMethod yX6_ask, Cond.selects RX6 yX6_ask yX6_ask, Cond.code yX6_ask cX6_ask 5 none]
def wsX7_cut : List Cond := .code yX7_cut cX7_cut 5 (some .int) :: ((wsX7_cut_r1 ++ (wsX7_cut_r2 ++ (wsX7_cut_r3 ++ wsX7_cut_r4))) ++ wsX70 ++ wsX60 ++ wsX30)
def wsX7_price_r1 : List Cond := [Cond.fieldLink RX7 152 "AskTree$Tree" "size" "I", Cond.fieldLink RX7 44 "AskTree" "pruner" "LAskTree$Pruner;", Cond.fieldLink RX7 157 "AskTree$Pruner" "upper" "I", Cond.fieldLink RX7 160 "AskTree$Pruner" "lower" "I", Cond.methodLink RX7 145 yX7_treeAt, Cond.instanceMethod yX7_treeAt, Cond.selects RX7 yX7_treeAt yX7_treeAt, Cond.initialized RX7, Cond.code yX7_treeAt cX7_treeAt 2 (some (.object "AskTree$Tree")), Cond.fieldLink RX7 76 "AskTree" "treeCount" "I", Cond.fieldLink RX7 63 "AskTree" "trees" "[LAskTree$Tree;", Cond.methodLink RX7 153 yX3_findPrice, Cond.instanceMethod yX3_findPrice, Cond.selects RX3 yX3_findPrice yX3_findPrice, Cond.initialized RX3, Cond.code yX3_findPrice cX3_findPrice 3 none, Cond.fieldLink RX3 15 "AskTree$Pruner" "upper" "I", Cond.fieldLink RX3 19 "AskTree$Pruner" "lower" "I", Cond.fieldLink RX3 28 "AskTree$Tree" "size" "I", Cond.methodLink RX3 37 yX6_isLeaf, Cond.instanceMethod yX6_isLeaf, Cond.selects RX6 yX6_isLeaf yX6_isLeaf, Cond.initialized RX6, Cond.code yX6_isLeaf cX6_isLeaf 2 (some .boolean)]
def wsX7_price_r2 : List Cond := [Cond.fieldLink RX6 9 "AskTree$Tree" "asked" "[I", Cond.fieldLink RX6 18 "AskTree$Tree" "below" "[I", Cond.methodLink RX6 34 yX6_has, Cond.instanceMethod yX6_has, Cond.selects RX6 yX6_has yX6_has, Cond.code yX6_has cX6_has 2 (some .boolean), Cond.fieldLink RX6 30 "AskTree$Tree" "size" "I", Cond.static yX7_isMark, Cond.code yX7_isMark cX7_isMark 1 (some .boolean), Cond.methodLink RX3 78 yX3_weighNode, Cond.instanceMethod yX3_weighNode, Cond.selects RX3 yX3_weighNode yX3_weighNode, Cond.code yX3_weighNode cX3_weighNode 6 none, Cond.fieldLink RX3 85 "AskTree$Tree" "above" "[I", Cond.methodLink RX3 54 yX6_misses, Cond.instanceMethod yX6_misses, Cond.selects RX6 yX6_misses yX6_misses, Cond.code yX6_misses cX6_misses 2 (some .int), Cond.fieldLink RX6 27 "AskTree$Tree" "shares" "[I", Cond.methodLink RX6 51 yX6_total, Cond.instanceMethod yX6_total, Cond.selects RX6 yX6_total yX6_total, Cond.code yX6_total cX6_total 3 (some .int), Cond.methodLink RX6 55 yX6_verdict]
def wsX7_price_r3 : List Cond := [Cond.instanceMethod yX6_verdict, Cond.selects RX6 yX6_verdict yX6_verdict, Cond.code yX6_verdict cX6_verdict 2 (some .int), Cond.static yX7_firstGreatest, Cond.code yX7_firstGreatest cX7_firstGreatest 4 (some .int), Cond.methodLink RX3 82 yX3_commonDivisor, Cond.static yX3_commonDivisor, Cond.code yX3_commonDivisor cX3_commonDivisor 4 (some .int)]
def wsX7_price : List Cond := .code yX7_price cX7_price 4 (some .int) :: ((wsX7_price_r1 ++ (wsX7_price_r2 ++ wsX7_price_r3)) ++ wsX60 ++ wsX70 ++ wsX30)
def wsX7_missed_r1 : List Cond := [Cond.fieldLink RX7 12 "AskTree" "cases" "LAskTree$Cases;", Cond.fieldLink RX7 115 "AskTree$Cases" "marks" "[I", Cond.fieldLink RX7 50 "AskTree$Cases" "kinds" "[I", Cond.fieldLink RX7 119 "AskTree$Cases" "classes" "[I", Cond.methodLink RX7 219 yX6_leafFor, Cond.instanceMethod yX6_leafFor, Cond.selects RX6 yX6_leafFor yX6_leafFor, Cond.initialized RX6, Cond.code yX6_leafFor cX6_leafFor 8 (some .int), Cond.fieldLink RX6 9 "AskTree$Tree" "asked" "[I", Cond.fieldLink RX6 15 "AskTree$Tree" "values" "[I", Cond.fieldLink RX6 21 "AskTree$Tree" "ways" "[I", Cond.fieldLink RX6 18 "AskTree$Tree" "below" "[I", Cond.methodLink RX6 64 yX6_isLeaf, Cond.instanceMethod yX6_isLeaf, Cond.selects RX6 yX6_isLeaf yX6_isLeaf, Cond.code yX6_isLeaf cX6_isLeaf 2 (some .boolean), Cond.methodLink RX6 34 yX6_has, Cond.instanceMethod yX6_has, Cond.selects RX6 yX6_has yX6_has, Cond.code yX6_has cX6_has 2 (some .boolean), Cond.fieldLink RX6 30 "AskTree$Tree" "size" "I", Cond.static yX7_isMark, Cond.initialized RX7]
def wsX7_missed_r2 : List Cond := [Cond.code yX7_isMark cX7_isMark 1 (some .boolean), Cond.static yX7_isYes, Cond.code yX7_isYes cX7_isYes 4 (some .boolean), Cond.methodLink RX7 204 yX6_verdict, Cond.instanceMethod yX6_verdict, Cond.selects RX6 yX6_verdict yX6_verdict, Cond.code yX6_verdict cX6_verdict 2 (some .int), Cond.fieldLink RX6 27 "AskTree$Tree" "shares" "[I", Cond.static yX7_firstGreatest, Cond.code yX7_firstGreatest cX7_firstGreatest 4 (some .int)]
def wsX7_missed : List Cond := .code yX7_missed cX7_missed 4 (some .int) :: ((wsX7_missed_r1 ++ wsX7_missed_r2) ++ wsX70 ++ wsX00 ++ wsX60)
def wsX7_folds_r1 : List Cond := [Cond.fieldLink RX7 21 "AskTree" "rows" "LAskTree$Rows;", Cond.fieldLink RX7 30 "AskTree" "grower" "LAskTree$Grower;", Cond.fieldLink RX7 12 "AskTree" "cases" "LAskTree$Cases;", Cond.fieldLink RX7 94 "AskTree$Cases" "size" "I", Cond.methodLink RX7 122 yX7_canGrow, Cond.static yX7_canGrow, Cond.initialized RX7, Cond.code yX7_canGrow cX7_canGrow 2 (some .boolean), Cond.methodLink RX7 129 yX7_placeFor, Cond.instanceMethod yX7_placeFor, Cond.selects RX7 yX7_placeFor yX7_placeFor, Cond.code yX7_placeFor cX7_placeFor 3 (some (.object "AskTree$Tree")), Cond.fieldLink RX7 63 "AskTree" "trees" "[LAskTree$Tree;", Cond.classLink RX7 61 RX6, Cond.instantiable RX6 7, Cond.initialized RX6, Cond.fieldLink RX7 152 "AskTree$Tree" "size" "I", Cond.instanceMethod yX6_init, Cond.code yX6_init cX6_init 1 none, Cond.methodLink RX6 3 objectInit, Cond.instanceMethod objectInit, Cond.code objectInit ⟨#[0xb1]⟩ 1 none, Cond.arrayClass .int, Cond.fieldLink RX6 9 "AskTree$Tree" "asked" "[I"]
def wsX7_folds_r2 : List Cond := [Cond.fieldLink RX6 15 "AskTree$Tree" "values" "[I", Cond.fieldLink RX6 18 "AskTree$Tree" "below" "[I", Cond.fieldLink RX6 21 "AskTree$Tree" "ways" "[I", Cond.fieldLink RX6 24 "AskTree$Tree" "above" "[I", Cond.fieldLink RX6 27 "AskTree$Tree" "shares" "[I", Cond.fieldLink RX6 30 "AskTree$Tree" "size" "I", Cond.methodLink RX7 163 yX4_loadWithout, Cond.instanceMethod yX4_loadWithout, Cond.selects RX4 yX4_loadWithout yX4_loadWithout, Cond.initialized RX4, Cond.code yX4_loadWithout cX4_loadWithout 7 none, Cond.fieldLink RX4 21 "AskTree$Rows" "size" "I", Cond.fieldLink RX4 25 "AskTree$Rows" "cases" "LAskTree$Cases;", Cond.fieldLink RX4 40 "AskTree$Cases" "size" "I", Cond.fieldLink RX4 29 "AskTree$Cases" "order" "[I", Cond.fieldLink RX4 9 "AskTree$Rows" "row" "[I", Cond.methodLink RX7 133 yX2_growInto, Cond.instanceMethod yX2_growInto, Cond.selects RX2 yX2_growInto yX2_growInto, Cond.initialized RX2, Cond.code yX2_growInto cX2_growInto 4 none, Cond.methodLink RX2 29 Lib.Math.min.name, Cond.static Lib.Math.min.name, Cond.initialized "java/lang/Math"]
def wsX7_folds_r3 : List Cond := [Cond.code Lib.Math.min.name Lib.Math.min.code 2 (some .int), Cond.fieldLink RX2 35 "AskTree$Grower" "depth" "I", Cond.fieldLink RX2 39 "AskTree$Grower" "least" "I", Cond.fieldLink RX2 25 "AskTree$Grower" "rows" "LAskTree$Rows;", Cond.fieldLink RX2 42 "AskTree$Rows" "size" "I", Cond.methodLink RX2 47 yX2_branch, Cond.instanceMethod yX2_branch, Cond.selects RX2 yX2_branch yX2_branch, Cond.code yX2_branch cX2_branch 7 (some .int), Cond.fieldLink RX2 9 "AskTree$Grower" "all" "[I", Cond.fieldLink RX2 69 "AskTree$Grower" "mark" "I", Cond.fieldLink RX2 72 "AskTree$Grower" "value" "I", Cond.fieldLink RX2 75 "AskTree$Grower" "way" "I", Cond.fieldLink RX2 86 "AskTree$Tree" "below" "[I", Cond.methodLink RX2 51 yX4_tally, Cond.instanceMethod yX4_tally, Cond.selects RX4 yX4_tally yX4_tally, Cond.code yX4_tally cX4_tally 5 none, Cond.fieldLink RX4 52 "AskTree$Cases" "classes" "[I", Cond.static yX7_clear, Cond.code yX7_clear cX7_clear 2 none, Cond.methodLink RX4 55 yX4_caseAt, Cond.instanceMethod yX4_caseAt, Cond.selects RX4 yX4_caseAt yX4_caseAt]
def wsX7_folds_r4 : List Cond := [Cond.code yX4_caseAt cX4_caseAt 3 (some .int), Cond.methodLink RX2 55 yX6_open, Cond.instanceMethod yX6_open, Cond.selects RX6 yX6_open yX6_open, Cond.code yX6_open cX6_open 5 (some .int), Cond.methodLink RX6 41 arraycopyName, Cond.native arraycopyName, Cond.static arraycopyName, Cond.initialized "java/lang/System", Cond.static yX7_firstGreatest, Cond.code yX7_firstGreatest cX7_firstGreatest 4 (some .int), Cond.methodLink RX2 65 yX2_seek, Cond.instanceMethod yX2_seek, Cond.selects RX2 yX2_seek yX2_seek, Cond.code yX2_seek cX2_seek 4 (some .boolean), Cond.methodLink RX2 89 yX4_isSame, Cond.instanceMethod yX4_isSame, Cond.selects RX4 yX4_isSame yX4_isSame, Cond.code yX4_isSame cX4_isSame 4 (some .boolean), Cond.methodLink RX4 44 yX4_markAt, Cond.instanceMethod yX4_markAt, Cond.selects RX4 yX4_markAt yX4_markAt, Cond.code yX4_markAt cX4_markAt 3 (some .int), Cond.fieldLink RX4 41 "AskTree$Cases" "marks" "[I"]
def wsX7_folds_r5 : List Cond := [Cond.methodLink RX2 93 yX2_readGaps, Cond.instanceMethod yX2_readGaps, Cond.selects RX2 yX2_readGaps yX2_readGaps, Cond.code yX2_readGaps cX2_readGaps 5 (some .int), Cond.fieldLink RX2 15 "AskTree$Grower" "gaps" "[I", Cond.fieldLink RX2 21 "AskTree$Grower" "cases" "LAskTree$Cases;", Cond.fieldLink RX2 108 "AskTree$Cases" "classes" "[I", Cond.methodLink RX2 105 yX4_markAt, Cond.methodLink RX2 113 yX4_caseAt, Cond.methodLink RX2 97 yX2_seekIn, Cond.instanceMethod yX2_seekIn, Cond.selects RX2 yX2_seekIn yX2_seekIn, Cond.code yX2_seekIn cX2_seekIn 9 none, Cond.fieldLink RX2 116 "AskTree$Cases" "kinds" "[I", Cond.fieldLink RX2 18 "AskTree$Grower" "yes" "[I", Cond.methodLink RX2 119 yX2_weigh, Cond.instanceMethod yX2_weigh, Cond.selects RX2 yX2_weigh yX2_weigh, Cond.code yX2_weigh cX2_weigh 16 none, Cond.fieldLink RX2 122 "AskTree$Grower" "gainLower" "J", Cond.fieldLink RX2 126 "AskTree$Grower" "gainUpper" "J", Cond.methodLink RX2 78 yX6_ask, Cond.instanceMethod yX6_ask, Cond.selects RX6 yX6_ask yX6_ask]
def wsX7_folds_r6 : List Cond := [Cond.code yX6_ask cX6_ask 5 none, Cond.methodLink RX2 82 yX4_part, Cond.instanceMethod yX4_part, Cond.selects RX4 yX4_part yX4_part, Cond.code yX4_part cX4_part 9 (some .int), Cond.fieldLink RX4 58 "AskTree$Cases" "kinds" "[I", Cond.fieldLink RX4 15 "AskTree$Rows" "sides" "[I", Cond.static yX7_isYes, Cond.code yX7_isYes cX7_isYes 4 (some .boolean), Cond.methodLink RX4 65 yX4_partRow, Cond.instanceMethod yX4_partRow, Cond.selects RX4 yX4_partRow yX4_partRow, Cond.code yX4_partRow cX4_partRow 7 (some .int), Cond.fieldLink RX4 18 "AskTree$Rows" "kept" "[I", Cond.methodLink RX4 34 arraycopyName, Cond.methodLink RX7 167 yX7_missed, Cond.instanceMethod yX7_missed, Cond.selects RX7 yX7_missed yX7_missed, Cond.code yX7_missed cX7_missed 4 (some .int), Cond.fieldLink RX7 115 "AskTree$Cases" "marks" "[I", Cond.fieldLink RX7 50 "AskTree$Cases" "kinds" "[I", Cond.fieldLink RX7 119 "AskTree$Cases" "classes" "[I", Cond.methodLink RX7 219 yX6_leafFor, Cond.instanceMethod yX6_leafFor]
def wsX7_folds_r7 : List Cond := [Cond.selects RX6 yX6_leafFor yX6_leafFor, Cond.code yX6_leafFor cX6_leafFor 8 (some .int), Cond.methodLink RX6 64 yX6_isLeaf, Cond.instanceMethod yX6_isLeaf, Cond.selects RX6 yX6_isLeaf yX6_isLeaf, Cond.code yX6_isLeaf cX6_isLeaf 2 (some .boolean), Cond.methodLink RX6 34 yX6_has, Cond.instanceMethod yX6_has, Cond.selects RX6 yX6_has yX6_has, Cond.code yX6_has cX6_has 2 (some .boolean), Cond.static yX7_isMark, Cond.code yX7_isMark cX7_isMark 1 (some .boolean), Cond.methodLink RX7 204 yX6_verdict, Cond.instanceMethod yX6_verdict, Cond.selects RX6 yX6_verdict yX6_verdict, Cond.code yX6_verdict cX6_verdict 2 (some .int)]
def wsX7_folds : List Cond := .code yX7_folds cX7_folds 8 (some .int) :: ((wsX7_folds_r1 ++ (wsX7_folds_r2 ++ (wsX7_folds_r3 ++ (wsX7_folds_r4 ++ (wsX7_folds_r5 ++ (wsX7_folds_r6 ++ wsX7_folds_r7)))))) ++ wsX70 ++ wsX00 ++ wsX60 ++ wsX40 ++ wsX20)
def wsX7_remove : List Cond := .code yX7_remove cX7_remove 1 (some .int) :: ([.fieldLink RX7 76 "AskTree" "treeCount" "I"] ++ wsX70)
def wsX7_missesNow_r1 : List Cond := [Cond.fieldLink RX7 12 "AskTree" "cases" "LAskTree$Cases;", Cond.fieldLink RX7 94 "AskTree$Cases" "size" "I", Cond.methodLink RX7 167 yX7_missed, Cond.instanceMethod yX7_missed, Cond.selects RX7 yX7_missed yX7_missed, Cond.initialized RX7, Cond.code yX7_missed cX7_missed 4 (some .int), Cond.fieldLink RX7 115 "AskTree$Cases" "marks" "[I", Cond.fieldLink RX7 50 "AskTree$Cases" "kinds" "[I", Cond.fieldLink RX7 119 "AskTree$Cases" "classes" "[I", Cond.methodLink RX7 219 yX6_leafFor, Cond.instanceMethod yX6_leafFor, Cond.selects RX6 yX6_leafFor yX6_leafFor, Cond.initialized RX6, Cond.code yX6_leafFor cX6_leafFor 8 (some .int), Cond.fieldLink RX6 9 "AskTree$Tree" "asked" "[I", Cond.fieldLink RX6 15 "AskTree$Tree" "values" "[I", Cond.fieldLink RX6 21 "AskTree$Tree" "ways" "[I", Cond.fieldLink RX6 18 "AskTree$Tree" "below" "[I", Cond.methodLink RX6 64 yX6_isLeaf, Cond.instanceMethod yX6_isLeaf, Cond.selects RX6 yX6_isLeaf yX6_isLeaf, Cond.code yX6_isLeaf cX6_isLeaf 2 (some .boolean), Cond.methodLink RX6 34 yX6_has]
def wsX7_missesNow_r2 : List Cond := [Cond.instanceMethod yX6_has, Cond.selects RX6 yX6_has yX6_has, Cond.code yX6_has cX6_has 2 (some .boolean), Cond.fieldLink RX6 30 "AskTree$Tree" "size" "I", Cond.static yX7_isMark, Cond.code yX7_isMark cX7_isMark 1 (some .boolean), Cond.static yX7_isYes, Cond.code yX7_isYes cX7_isYes 4 (some .boolean), Cond.methodLink RX7 204 yX6_verdict, Cond.instanceMethod yX6_verdict, Cond.selects RX6 yX6_verdict yX6_verdict, Cond.code yX6_verdict cX6_verdict 2 (some .int), Cond.fieldLink RX6 27 "AskTree$Tree" "shares" "[I", Cond.static yX7_firstGreatest, Cond.code yX7_firstGreatest cX7_firstGreatest 4 (some .int)]
def wsX7_missesNow : List Cond := .code yX7_missesNow cX7_missesNow 4 (some .int) :: ((wsX7_missesNow_r1 ++ wsX7_missesNow_r2) ++ wsX70 ++ wsX00 ++ wsX60)
def wsX7_tree_r1 : List Cond := [Cond.fieldLink RX7 152 "AskTree$Tree" "size" "I", Cond.methodLink RX7 145 yX7_treeAt, Cond.instanceMethod yX7_treeAt, Cond.selects RX7 yX7_treeAt yX7_treeAt, Cond.initialized RX7, Cond.code yX7_treeAt cX7_treeAt 2 (some (.object "AskTree$Tree")), Cond.fieldLink RX7 76 "AskTree" "treeCount" "I", Cond.fieldLink RX7 63 "AskTree" "trees" "[LAskTree$Tree;", Cond.methodLink RX7 171 yX6_leaves, Cond.instanceMethod yX6_leaves, Cond.selects RX6 yX6_leaves yX6_leaves, Cond.initialized RX6, Cond.code yX6_leaves cX6_leaves 1 (some .int), Cond.fieldLink RX6 30 "AskTree$Tree" "size" "I", Cond.methodLink RX7 175 yX6_deepest, Cond.instanceMethod yX6_deepest, Cond.selects RX6 yX6_deepest yX6_deepest, Cond.code yX6_deepest cX6_deepest 3 (some .int), Cond.fieldLink RX6 24 "AskTree$Tree" "above" "[I", Cond.methodLink RX6 58 Lib.Math.max.name, Cond.static Lib.Math.max.name, Cond.initialized "java/lang/Math", Cond.code Lib.Math.max.name Lib.Math.max.code 2 (some .int), Cond.methodLink RX7 178 yX6_allMisses]
def wsX7_tree_r2 : List Cond := [Cond.instanceMethod yX6_allMisses, Cond.selects RX6 yX6_allMisses yX6_allMisses, Cond.code yX6_allMisses cX6_allMisses 3 (some .int), Cond.methodLink RX6 64 yX6_isLeaf, Cond.instanceMethod yX6_isLeaf, Cond.selects RX6 yX6_isLeaf yX6_isLeaf, Cond.code yX6_isLeaf cX6_isLeaf 2 (some .boolean), Cond.fieldLink RX6 9 "AskTree$Tree" "asked" "[I", Cond.fieldLink RX6 18 "AskTree$Tree" "below" "[I", Cond.methodLink RX6 34 yX6_has, Cond.instanceMethod yX6_has, Cond.selects RX6 yX6_has yX6_has, Cond.code yX6_has cX6_has 2 (some .boolean), Cond.static yX7_isMark, Cond.code yX7_isMark cX7_isMark 1 (some .boolean), Cond.methodLink RX6 67 yX6_misses, Cond.instanceMethod yX6_misses, Cond.selects RX6 yX6_misses yX6_misses, Cond.code yX6_misses cX6_misses 2 (some .int), Cond.fieldLink RX6 27 "AskTree$Tree" "shares" "[I", Cond.methodLink RX6 51 yX6_total, Cond.instanceMethod yX6_total, Cond.selects RX6 yX6_total yX6_total, Cond.code yX6_total cX6_total 3 (some .int)]
def wsX7_tree_r3 : List Cond := [Cond.methodLink RX6 55 yX6_verdict, Cond.instanceMethod yX6_verdict, Cond.selects RX6 yX6_verdict yX6_verdict, Cond.code yX6_verdict cX6_verdict 2 (some .int), Cond.static yX7_firstGreatest, Cond.code yX7_firstGreatest cX7_firstGreatest 4 (some .int), Cond.methodLink RX7 181 yX6_total, Cond.methodLink RX7 185 yX7_missesNow, Cond.instanceMethod yX7_missesNow, Cond.selects RX7 yX7_missesNow yX7_missesNow, Cond.code yX7_missesNow cX7_missesNow 4 (some .int), Cond.fieldLink RX7 12 "AskTree" "cases" "LAskTree$Cases;", Cond.fieldLink RX7 94 "AskTree$Cases" "size" "I", Cond.methodLink RX7 167 yX7_missed, Cond.instanceMethod yX7_missed, Cond.selects RX7 yX7_missed yX7_missed, Cond.code yX7_missed cX7_missed 4 (some .int), Cond.fieldLink RX7 115 "AskTree$Cases" "marks" "[I", Cond.fieldLink RX7 50 "AskTree$Cases" "kinds" "[I", Cond.fieldLink RX7 119 "AskTree$Cases" "classes" "[I", Cond.methodLink RX7 219 yX6_leafFor, Cond.instanceMethod yX6_leafFor, Cond.selects RX6 yX6_leafFor yX6_leafFor, Cond.code yX6_leafFor cX6_leafFor 8 (some .int)]
def wsX7_tree_r4 : List Cond := [Cond.fieldLink RX6 15 "AskTree$Tree" "values" "[I", Cond.fieldLink RX6 21 "AskTree$Tree" "ways" "[I", Cond.static yX7_isYes, Cond.code yX7_isYes cX7_isYes 4 (some .boolean), Cond.methodLink RX7 204 yX6_verdict]
def wsX7_tree : List Cond := .code yX7_tree cX7_tree 4 (some .int) :: ((wsX7_tree_r1 ++ (wsX7_tree_r2 ++ (wsX7_tree_r3 ++ wsX7_tree_r4))) ++ wsX60 ++ wsX70 ++ wsX00)
def wsX7_node_r1 : List Cond := [Cond.fieldLink RX7 195 "AskTree$Tree" "asked" "[I", Cond.fieldLink RX7 198 "AskTree$Tree" "values" "[I", Cond.fieldLink RX7 201 "AskTree$Tree" "below" "[I", Cond.fieldLink RX7 210 "AskTree$Tree" "above" "[I", Cond.fieldLink RX7 213 "AskTree$Tree" "ways" "[I", Cond.methodLink RX7 145 yX7_treeAt, Cond.instanceMethod yX7_treeAt, Cond.selects RX7 yX7_treeAt yX7_treeAt, Cond.initialized RX7, Cond.code yX7_treeAt cX7_treeAt 2 (some (.object "AskTree$Tree")), Cond.fieldLink RX7 76 "AskTree" "treeCount" "I", Cond.fieldLink RX7 63 "AskTree" "trees" "[LAskTree$Tree;", Cond.methodLink RX7 189 yX6_has, Cond.instanceMethod yX6_has, Cond.selects RX6 yX6_has yX6_has, Cond.initialized RX6, Cond.code yX6_has cX6_has 2 (some .boolean), Cond.fieldLink RX6 30 "AskTree$Tree" "size" "I", Cond.methodLink RX7 192 yX6_isLeaf, Cond.instanceMethod yX6_isLeaf, Cond.selects RX6 yX6_isLeaf yX6_isLeaf, Cond.code yX6_isLeaf cX6_isLeaf 2 (some .boolean), Cond.fieldLink RX6 9 "AskTree$Tree" "asked" "[I", Cond.fieldLink RX6 18 "AskTree$Tree" "below" "[I"]
def wsX7_node_r2 : List Cond := [Cond.methodLink RX6 34 yX6_has, Cond.static yX7_isMark, Cond.code yX7_isMark cX7_isMark 1 (some .boolean), Cond.methodLink RX7 204 yX6_verdict, Cond.instanceMethod yX6_verdict, Cond.selects RX6 yX6_verdict yX6_verdict, Cond.code yX6_verdict cX6_verdict 2 (some .int), Cond.fieldLink RX6 27 "AskTree$Tree" "shares" "[I", Cond.static yX7_firstGreatest, Cond.code yX7_firstGreatest cX7_firstGreatest 4 (some .int), Cond.methodLink RX7 181 yX6_total, Cond.instanceMethod yX6_total, Cond.selects RX6 yX6_total yX6_total, Cond.code yX6_total cX6_total 3 (some .int), Cond.methodLink RX7 207 yX6_misses, Cond.instanceMethod yX6_misses, Cond.selects RX6 yX6_misses yX6_misses, Cond.code yX6_misses cX6_misses 2 (some .int), Cond.methodLink RX6 51 yX6_total, Cond.methodLink RX6 55 yX6_verdict]
def wsX7_node : List Cond := .code yX7_node cX7_node 6 (some .int) :: ((wsX7_node_r1 ++ wsX7_node_r2) ++ wsX60 ++ wsX70)
def wsX7_share : List Cond := .code yX7_share cX7_share 5 (some .int) :: ([.fieldLink RX7 216 "AskTree$Tree" "shares" "[I", .methodLink RX7 145 yX7_treeAt, .instanceMethod yX7_treeAt, .selects RX7 yX7_treeAt yX7_treeAt, .initialized RX7, .code yX7_treeAt cX7_treeAt 2 (some (.object "AskTree$Tree")), .fieldLink RX7 76 "AskTree" "treeCount" "I", .fieldLink RX7 63 "AskTree" "trees" "[LAskTree$Tree;", .methodLink RX7 189 yX6_has, .instanceMethod yX6_has, .selects RX6 yX6_has yX6_has, .initialized RX6, .code yX6_has cX6_has 2 (some .boolean), .fieldLink RX6 30 "AskTree$Tree" "size" "I", .methodLink RX7 97 yX7_isClass, .static yX7_isClass, .code yX7_isClass cX7_isClass 1 (some .boolean)] ++ wsX60 ++ wsX70)
def wsX7_say_r1 : List Cond := [Cond.fieldLink RX7 67 "AskTree" "told" "[I", Cond.fieldLink RX7 12 "AskTree" "cases" "LAskTree$Cases;", Cond.fieldLink RX7 50 "AskTree$Cases" "kinds" "[I", Cond.fieldLink RX7 80 "AskTree" "lastLeaf" "I", Cond.methodLink RX7 145 yX7_treeAt, Cond.instanceMethod yX7_treeAt, Cond.selects RX7 yX7_treeAt yX7_treeAt, Cond.initialized RX7, Cond.code yX7_treeAt cX7_treeAt 2 (some (.object "AskTree$Tree")), Cond.fieldLink RX7 76 "AskTree" "treeCount" "I", Cond.fieldLink RX7 63 "AskTree" "trees" "[LAskTree$Tree;", Cond.methodLink RX7 100 yX7_readTold, Cond.instanceMethod yX7_readTold, Cond.selects RX7 yX7_readTold yX7_readTold, Cond.code yX7_readTold cX7_readTold 7 (some .boolean), Cond.methodLink RX7 254 yX7_readPair, Cond.instanceMethod yX7_readPair, Cond.selects RX7 yX7_readPair yX7_readPair, Cond.code yX7_readPair cX7_readPair 3 none, Cond.methodLink RX7 219 yX6_leafFor, Cond.instanceMethod yX6_leafFor, Cond.selects RX6 yX6_leafFor yX6_leafFor, Cond.initialized RX6, Cond.code yX6_leafFor cX6_leafFor 8 (some .int)]
def wsX7_say_r2 : List Cond := [Cond.fieldLink RX6 9 "AskTree$Tree" "asked" "[I", Cond.fieldLink RX6 15 "AskTree$Tree" "values" "[I", Cond.fieldLink RX6 21 "AskTree$Tree" "ways" "[I", Cond.fieldLink RX6 18 "AskTree$Tree" "below" "[I", Cond.methodLink RX6 64 yX6_isLeaf, Cond.instanceMethod yX6_isLeaf, Cond.selects RX6 yX6_isLeaf yX6_isLeaf, Cond.code yX6_isLeaf cX6_isLeaf 2 (some .boolean), Cond.methodLink RX6 34 yX6_has, Cond.instanceMethod yX6_has, Cond.selects RX6 yX6_has yX6_has, Cond.code yX6_has cX6_has 2 (some .boolean), Cond.fieldLink RX6 30 "AskTree$Tree" "size" "I", Cond.static yX7_isMark, Cond.code yX7_isMark cX7_isMark 1 (some .boolean), Cond.static yX7_isYes, Cond.code yX7_isYes cX7_isYes 4 (some .boolean), Cond.methodLink RX7 204 yX6_verdict, Cond.instanceMethod yX6_verdict, Cond.selects RX6 yX6_verdict yX6_verdict, Cond.code yX6_verdict cX6_verdict 2 (some .int), Cond.fieldLink RX6 27 "AskTree$Tree" "shares" "[I", Cond.static yX7_firstGreatest, Cond.code yX7_firstGreatest cX7_firstGreatest 4 (some .int)]
def wsX7_say : List Cond := .code yX7_say cX7_say 7 (some .int) :: ((wsX7_say_r1 ++ wsX7_say_r2) ++ wsX70 ++ wsX00 ++ wsX60)
def wsX7_said : List Cond := .code yX7_said cX7_said 1 (some .int) :: ([.fieldLink RX7 80 "AskTree" "lastLeaf" "I"] ++ wsX70)
def wsX7_vote_r1 : List Cond := [Cond.fieldLink RX7 76 "AskTree" "treeCount" "I", Cond.fieldLink RX7 73 "AskTree" "ballots" "[I", Cond.fieldLink RX7 67 "AskTree" "told" "[I", Cond.fieldLink RX7 12 "AskTree" "cases" "LAskTree$Cases;", Cond.fieldLink RX7 50 "AskTree$Cases" "kinds" "[I", Cond.fieldLink RX7 83 "AskTree" "lastVoices" "I", Cond.methodLink RX7 100 yX7_readTold, Cond.instanceMethod yX7_readTold, Cond.selects RX7 yX7_readTold yX7_readTold, Cond.initialized RX7, Cond.code yX7_readTold cX7_readTold 7 (some .boolean), Cond.methodLink RX7 254 yX7_readPair, Cond.instanceMethod yX7_readPair, Cond.selects RX7 yX7_readPair yX7_readPair, Cond.code yX7_readPair cX7_readPair 3 none, Cond.methodLink RX7 223 yX7_clear, Cond.static yX7_clear, Cond.code yX7_clear cX7_clear 2 none, Cond.methodLink RX7 145 yX7_treeAt, Cond.instanceMethod yX7_treeAt, Cond.selects RX7 yX7_treeAt yX7_treeAt, Cond.code yX7_treeAt cX7_treeAt 2 (some (.object "AskTree$Tree")), Cond.fieldLink RX7 63 "AskTree" "trees" "[LAskTree$Tree;", Cond.methodLink RX7 219 yX6_leafFor]
def wsX7_vote_r2 : List Cond := [Cond.instanceMethod yX6_leafFor, Cond.selects RX6 yX6_leafFor yX6_leafFor, Cond.initialized RX6, Cond.code yX6_leafFor cX6_leafFor 8 (some .int), Cond.fieldLink RX6 9 "AskTree$Tree" "asked" "[I", Cond.fieldLink RX6 15 "AskTree$Tree" "values" "[I", Cond.fieldLink RX6 21 "AskTree$Tree" "ways" "[I", Cond.fieldLink RX6 18 "AskTree$Tree" "below" "[I", Cond.methodLink RX6 64 yX6_isLeaf, Cond.instanceMethod yX6_isLeaf, Cond.selects RX6 yX6_isLeaf yX6_isLeaf, Cond.code yX6_isLeaf cX6_isLeaf 2 (some .boolean), Cond.methodLink RX6 34 yX6_has, Cond.instanceMethod yX6_has, Cond.selects RX6 yX6_has yX6_has, Cond.code yX6_has cX6_has 2 (some .boolean), Cond.fieldLink RX6 30 "AskTree$Tree" "size" "I", Cond.static yX7_isMark, Cond.code yX7_isMark cX7_isMark 1 (some .boolean), Cond.static yX7_isYes, Cond.code yX7_isYes cX7_isYes 4 (some .boolean), Cond.methodLink RX7 204 yX6_verdict, Cond.instanceMethod yX6_verdict, Cond.selects RX6 yX6_verdict yX6_verdict]
def wsX7_vote_r3 : List Cond := [Cond.code yX6_verdict cX6_verdict 2 (some .int), Cond.fieldLink RX6 27 "AskTree$Tree" "shares" "[I", Cond.static yX7_firstGreatest, Cond.code yX7_firstGreatest cX7_firstGreatest 4 (some .int), Cond.methodLink RX7 226 yX7_firstGreatest]
def wsX7_vote : List Cond := .code yX7_vote cX7_vote 7 (some .int) :: ((wsX7_vote_r1 ++ (wsX7_vote_r2 ++ wsX7_vote_r3)) ++ wsX70 ++ wsX00 ++ wsX60)
def wsX7_voices : List Cond := .code yX7_voices cX7_voices 1 (some .int) :: ([.fieldLink RX7 83 "AskTree" "lastVoices" "I"] ++ wsX70)
def wsX7_rule_r1 : List Cond := [Cond.constant RX7 118 (-40000), Cond.fieldLink RX7 57 "AskTree" "rules" "LAskTree$Rules;", Cond.methodLink RX7 145 yX7_treeAt, Cond.instanceMethod yX7_treeAt, Cond.selects RX7 yX7_treeAt yX7_treeAt, Cond.initialized RX7, Cond.code yX7_treeAt cX7_treeAt 2 (some (.object "AskTree$Tree")), Cond.fieldLink RX7 76 "AskTree" "treeCount" "I", Cond.fieldLink RX7 63 "AskTree" "trees" "[LAskTree$Tree;", Cond.methodLink RX7 189 yX6_has, Cond.instanceMethod yX6_has, Cond.selects RX6 yX6_has yX6_has, Cond.initialized RX6, Cond.code yX6_has cX6_has 2 (some .boolean), Cond.fieldLink RX6 30 "AskTree$Tree" "size" "I", Cond.methodLink RX7 192 yX6_isLeaf, Cond.instanceMethod yX6_isLeaf, Cond.selects RX6 yX6_isLeaf yX6_isLeaf, Cond.code yX6_isLeaf cX6_isLeaf 2 (some .boolean), Cond.fieldLink RX6 9 "AskTree$Tree" "asked" "[I", Cond.fieldLink RX6 18 "AskTree$Tree" "below" "[I", Cond.methodLink RX6 34 yX6_has, Cond.static yX7_isMark, Cond.code yX7_isMark cX7_isMark 1 (some .boolean)]
def wsX7_rule_r2 : List Cond := [Cond.methodLink RX7 90 yX7_isMark, Cond.methodLink RX7 230 yX5_readFor, Cond.instanceMethod yX5_readFor, Cond.selects RX5 yX5_readFor yX5_readFor, Cond.initialized RX5, Cond.code yX5_readFor cX5_readFor 6 none, Cond.fieldLink RX5 9 "AskTree$Rules" "least" "[I", Cond.fieldLink RX5 15 "AskTree$Rules" "greatest" "[I", Cond.fieldLink RX5 18 "AskTree$Rules" "must" "[I", Cond.fieldLink RX5 21 "AskTree$Rules" "barredCount" "[I", Cond.fieldLink RX5 27 "AskTree$Rules" "clashes" "[Z", Cond.fieldLink RX5 40 "AskTree$Tree" "below" "[I", Cond.fieldLink RX5 43 "AskTree$Tree" "asked" "[I", Cond.fieldLink RX5 46 "AskTree$Tree" "values" "[I", Cond.methodLink RX5 34 yX6_isLeaf, Cond.methodLink RX5 49 yX5_note, Cond.instanceMethod yX5_note, Cond.selects RX5 yX5_note yX5_note, Cond.code yX5_note cX5_note 4 none, Cond.fieldLink RX5 31 "AskTree$Rules" "kinds" "[I", Cond.methodLink RX5 56 Lib.Math.min.name, Cond.static Lib.Math.min.name, Cond.initialized "java/lang/Math", Cond.code Lib.Math.min.name Lib.Math.min.code 2 (some .int)]
def wsX7_rule_r3 : List Cond := [Cond.methodLink RX5 62 Lib.Math.max.name, Cond.static Lib.Math.max.name, Cond.code Lib.Math.max.name Lib.Math.max.code 2 (some .int), Cond.methodLink RX5 53 yX5_noteSort, Cond.instanceMethod yX5_noteSort, Cond.selects RX5 yX5_noteSort yX5_noteSort, Cond.code yX5_noteSort cX5_noteSort 4 none, Cond.fieldLink RX5 24 "AskTree$Rules" "barred" "[I", Cond.methodLink RX5 65 yX5_isBarred, Cond.instanceMethod yX5_isBarred, Cond.selects RX5 yX5_isBarred yX5_isBarred, Cond.code yX5_isBarred cX5_isBarred 4 (some .boolean), Cond.methodLink RX7 233 yX5_first, Cond.instanceMethod yX5_first, Cond.selects RX5 yX5_first yX5_first, Cond.code yX5_first cX5_first 2 (some .int), Cond.methodLink RX5 69 yX5_canFollow, Cond.instanceMethod yX5_canFollow, Cond.selects RX5 yX5_canFollow yX5_canFollow, Cond.code yX5_canFollow cX5_canFollow 2 (some .boolean), Cond.methodLink RX7 236 yX5_second, Cond.instanceMethod yX5_second, Cond.selects RX5 yX5_second yX5_second, Cond.code yX5_second cX5_second 2 (some .int)]
def wsX7_rule : List Cond := .code yX7_rule cX7_rule 6 (some .int) :: ((wsX7_rule_r1 ++ (wsX7_rule_r2 ++ wsX7_rule_r3)) ++ wsX70 ++ wsX60 ++ wsX50)
def wsX7_toldHasGap : List Cond := .code yX7_toldHasGap cX7_toldHasGap 2 (some .boolean) :: ([.fieldLink RX7 67 "AskTree" "told" "[I"] ++ wsX70)
def wsX7_nearestOtherLeaf_r1 : List Cond := [Cond.fieldLink RX7 67 "AskTree" "told" "[I", Cond.fieldLink RX7 12 "AskTree" "cases" "LAskTree$Cases;", Cond.fieldLink RX7 50 "AskTree$Cases" "kinds" "[I", Cond.fieldLink RX7 152 "AskTree$Tree" "size" "I", Cond.fieldLink RX7 57 "AskTree" "rules" "LAskTree$Rules;", Cond.methodLink RX7 219 yX6_leafFor, Cond.instanceMethod yX6_leafFor, Cond.selects RX6 yX6_leafFor yX6_leafFor, Cond.initialized RX6, Cond.code yX6_leafFor cX6_leafFor 8 (some .int), Cond.fieldLink RX6 9 "AskTree$Tree" "asked" "[I", Cond.fieldLink RX6 15 "AskTree$Tree" "values" "[I", Cond.fieldLink RX6 21 "AskTree$Tree" "ways" "[I", Cond.fieldLink RX6 18 "AskTree$Tree" "below" "[I", Cond.methodLink RX6 64 yX6_isLeaf, Cond.instanceMethod yX6_isLeaf, Cond.selects RX6 yX6_isLeaf yX6_isLeaf, Cond.code yX6_isLeaf cX6_isLeaf 2 (some .boolean), Cond.methodLink RX6 34 yX6_has, Cond.instanceMethod yX6_has, Cond.selects RX6 yX6_has yX6_has, Cond.code yX6_has cX6_has 2 (some .boolean), Cond.fieldLink RX6 30 "AskTree$Tree" "size" "I", Cond.static yX7_isMark]
def wsX7_nearestOtherLeaf_r2 : List Cond := [Cond.initialized RX7, Cond.code yX7_isMark cX7_isMark 1 (some .boolean), Cond.static yX7_isYes, Cond.code yX7_isYes cX7_isYes 4 (some .boolean), Cond.methodLink RX7 204 yX6_verdict, Cond.instanceMethod yX6_verdict, Cond.selects RX6 yX6_verdict yX6_verdict, Cond.code yX6_verdict cX6_verdict 2 (some .int), Cond.fieldLink RX6 27 "AskTree$Tree" "shares" "[I", Cond.static yX7_firstGreatest, Cond.code yX7_firstGreatest cX7_firstGreatest 4 (some .int), Cond.methodLink RX7 192 yX6_isLeaf, Cond.methodLink RX7 230 yX5_readFor, Cond.instanceMethod yX5_readFor, Cond.selects RX5 yX5_readFor yX5_readFor, Cond.initialized RX5, Cond.code yX5_readFor cX5_readFor 6 none, Cond.fieldLink RX5 9 "AskTree$Rules" "least" "[I", Cond.fieldLink RX5 15 "AskTree$Rules" "greatest" "[I", Cond.fieldLink RX5 18 "AskTree$Rules" "must" "[I", Cond.fieldLink RX5 21 "AskTree$Rules" "barredCount" "[I", Cond.fieldLink RX5 27 "AskTree$Rules" "clashes" "[Z", Cond.fieldLink RX5 40 "AskTree$Tree" "below" "[I", Cond.fieldLink RX5 43 "AskTree$Tree" "asked" "[I"]
def wsX7_nearestOtherLeaf_r3 : List Cond := [Cond.fieldLink RX5 46 "AskTree$Tree" "values" "[I", Cond.methodLink RX5 34 yX6_isLeaf, Cond.methodLink RX5 49 yX5_note, Cond.instanceMethod yX5_note, Cond.selects RX5 yX5_note yX5_note, Cond.code yX5_note cX5_note 4 none, Cond.fieldLink RX5 31 "AskTree$Rules" "kinds" "[I", Cond.methodLink RX5 56 Lib.Math.min.name, Cond.static Lib.Math.min.name, Cond.initialized "java/lang/Math", Cond.code Lib.Math.min.name Lib.Math.min.code 2 (some .int), Cond.methodLink RX5 62 Lib.Math.max.name, Cond.static Lib.Math.max.name, Cond.code Lib.Math.max.name Lib.Math.max.code 2 (some .int), Cond.methodLink RX5 53 yX5_noteSort, Cond.instanceMethod yX5_noteSort, Cond.selects RX5 yX5_noteSort yX5_noteSort, Cond.code yX5_noteSort cX5_noteSort 4 none, Cond.fieldLink RX5 24 "AskTree$Rules" "barred" "[I", Cond.methodLink RX5 65 yX5_isBarred, Cond.instanceMethod yX5_isBarred, Cond.selects RX5 yX5_isBarred yX5_isBarred, Cond.code yX5_isBarred cX5_isBarred 4 (some .boolean), Cond.methodLink RX7 257 yX5_canAllFollow]
def wsX7_nearestOtherLeaf_r4 : List Cond := [Cond.instanceMethod yX5_canAllFollow, Cond.selects RX5 yX5_canAllFollow yX5_canAllFollow, Cond.code yX5_canAllFollow cX5_canAllFollow 2 (some .boolean), Cond.methodLink RX5 69 yX5_canFollow, Cond.instanceMethod yX5_canFollow, Cond.selects RX5 yX5_canFollow yX5_canFollow, Cond.code yX5_canFollow cX5_canFollow 2 (some .boolean), Cond.methodLink RX7 249 yX5_offCount, Cond.instanceMethod yX5_offCount, Cond.selects RX5 yX5_offCount yX5_offCount, Cond.code yX5_offCount cX5_offCount 4 (some .int), Cond.methodLink RX5 72 yX5_turn, Cond.instanceMethod yX5_turn, Cond.selects RX5 yX5_turn yX5_turn, Cond.code yX5_turn cX5_turn 4 (some .int), Cond.methodLink RX7 260 yX5_wayTo, Cond.instanceMethod yX5_wayTo, Cond.selects RX5 yX5_wayTo yX5_wayTo, Cond.code yX5_wayTo cX5_wayTo 4 (some .int), Cond.methodLink RX5 75 Lib.Math.abs.name, Cond.static Lib.Math.abs.name, Cond.code Lib.Math.abs.name Lib.Math.abs.code 1 (some .int)]
def wsX7_nearestOtherLeaf : List Cond := .code yX7_nearestOtherLeaf cX7_nearestOtherLeaf 9 (some .int) :: ((wsX7_nearestOtherLeaf_r1 ++ (wsX7_nearestOtherLeaf_r2 ++ (wsX7_nearestOtherLeaf_r3 ++ wsX7_nearestOtherLeaf_r4))) ++ wsX70 ++ wsX00 ++ wsX60 ++ wsX50)
def wsX7_near_r1 : List Cond := [Cond.fieldLink RX7 57 "AskTree" "rules" "LAskTree$Rules;", Cond.fieldLink RX7 70 "AskTree" "turnedMarks" "[I", Cond.fieldLink RX7 67 "AskTree" "told" "[I", Cond.fieldLink RX7 86 "AskTree" "hasTurned" "Z", Cond.methodLink RX7 145 yX7_treeAt, Cond.instanceMethod yX7_treeAt, Cond.selects RX7 yX7_treeAt yX7_treeAt, Cond.initialized RX7, Cond.code yX7_treeAt cX7_treeAt 2 (some (.object "AskTree$Tree")), Cond.fieldLink RX7 76 "AskTree" "treeCount" "I", Cond.fieldLink RX7 63 "AskTree" "trees" "[LAskTree$Tree;", Cond.methodLink RX7 100 yX7_readTold, Cond.instanceMethod yX7_readTold, Cond.selects RX7 yX7_readTold yX7_readTold, Cond.code yX7_readTold cX7_readTold 7 (some .boolean), Cond.methodLink RX7 254 yX7_readPair, Cond.instanceMethod yX7_readPair, Cond.selects RX7 yX7_readPair yX7_readPair, Cond.code yX7_readPair cX7_readPair 3 none, Cond.methodLink RX7 239 yX7_toldHasGap, Cond.instanceMethod yX7_toldHasGap, Cond.selects RX7 yX7_toldHasGap yX7_toldHasGap, Cond.code yX7_toldHasGap cX7_toldHasGap 2 (some .boolean), Cond.methodLink RX7 242 yX7_nearestOtherLeaf]
def wsX7_near_r2 : List Cond := [Cond.instanceMethod yX7_nearestOtherLeaf, Cond.selects RX7 yX7_nearestOtherLeaf yX7_nearestOtherLeaf, Cond.code yX7_nearestOtherLeaf cX7_nearestOtherLeaf 9 (some .int), Cond.fieldLink RX7 12 "AskTree" "cases" "LAskTree$Cases;", Cond.fieldLink RX7 50 "AskTree$Cases" "kinds" "[I", Cond.fieldLink RX7 152 "AskTree$Tree" "size" "I", Cond.methodLink RX7 219 yX6_leafFor, Cond.instanceMethod yX6_leafFor, Cond.selects RX6 yX6_leafFor yX6_leafFor, Cond.initialized RX6, Cond.code yX6_leafFor cX6_leafFor 8 (some .int), Cond.fieldLink RX6 9 "AskTree$Tree" "asked" "[I", Cond.fieldLink RX6 15 "AskTree$Tree" "values" "[I", Cond.fieldLink RX6 21 "AskTree$Tree" "ways" "[I", Cond.fieldLink RX6 18 "AskTree$Tree" "below" "[I", Cond.methodLink RX6 64 yX6_isLeaf, Cond.instanceMethod yX6_isLeaf, Cond.selects RX6 yX6_isLeaf yX6_isLeaf, Cond.code yX6_isLeaf cX6_isLeaf 2 (some .boolean), Cond.methodLink RX6 34 yX6_has, Cond.instanceMethod yX6_has, Cond.selects RX6 yX6_has yX6_has, Cond.code yX6_has cX6_has 2 (some .boolean), Cond.fieldLink RX6 30 "AskTree$Tree" "size" "I"]
def wsX7_near_r3 : List Cond := [Cond.static yX7_isMark, Cond.code yX7_isMark cX7_isMark 1 (some .boolean), Cond.static yX7_isYes, Cond.code yX7_isYes cX7_isYes 4 (some .boolean), Cond.methodLink RX7 204 yX6_verdict, Cond.instanceMethod yX6_verdict, Cond.selects RX6 yX6_verdict yX6_verdict, Cond.code yX6_verdict cX6_verdict 2 (some .int), Cond.fieldLink RX6 27 "AskTree$Tree" "shares" "[I", Cond.static yX7_firstGreatest, Cond.code yX7_firstGreatest cX7_firstGreatest 4 (some .int), Cond.methodLink RX7 192 yX6_isLeaf, Cond.methodLink RX7 230 yX5_readFor, Cond.instanceMethod yX5_readFor, Cond.selects RX5 yX5_readFor yX5_readFor, Cond.initialized RX5, Cond.code yX5_readFor cX5_readFor 6 none, Cond.fieldLink RX5 9 "AskTree$Rules" "least" "[I", Cond.fieldLink RX5 15 "AskTree$Rules" "greatest" "[I", Cond.fieldLink RX5 18 "AskTree$Rules" "must" "[I", Cond.fieldLink RX5 21 "AskTree$Rules" "barredCount" "[I", Cond.fieldLink RX5 27 "AskTree$Rules" "clashes" "[Z", Cond.fieldLink RX5 40 "AskTree$Tree" "below" "[I", Cond.fieldLink RX5 43 "AskTree$Tree" "asked" "[I"]
def wsX7_near_r4 : List Cond := [Cond.fieldLink RX5 46 "AskTree$Tree" "values" "[I", Cond.methodLink RX5 34 yX6_isLeaf, Cond.methodLink RX5 49 yX5_note, Cond.instanceMethod yX5_note, Cond.selects RX5 yX5_note yX5_note, Cond.code yX5_note cX5_note 4 none, Cond.fieldLink RX5 31 "AskTree$Rules" "kinds" "[I", Cond.methodLink RX5 56 Lib.Math.min.name, Cond.static Lib.Math.min.name, Cond.initialized "java/lang/Math", Cond.code Lib.Math.min.name Lib.Math.min.code 2 (some .int), Cond.methodLink RX5 62 Lib.Math.max.name, Cond.static Lib.Math.max.name, Cond.code Lib.Math.max.name Lib.Math.max.code 2 (some .int), Cond.methodLink RX5 53 yX5_noteSort, Cond.instanceMethod yX5_noteSort, Cond.selects RX5 yX5_noteSort yX5_noteSort, Cond.code yX5_noteSort cX5_noteSort 4 none, Cond.fieldLink RX5 24 "AskTree$Rules" "barred" "[I", Cond.methodLink RX5 65 yX5_isBarred, Cond.instanceMethod yX5_isBarred, Cond.selects RX5 yX5_isBarred yX5_isBarred, Cond.code yX5_isBarred cX5_isBarred 4 (some .boolean), Cond.methodLink RX7 257 yX5_canAllFollow]
def wsX7_near_r5 : List Cond := [Cond.instanceMethod yX5_canAllFollow, Cond.selects RX5 yX5_canAllFollow yX5_canAllFollow, Cond.code yX5_canAllFollow cX5_canAllFollow 2 (some .boolean), Cond.methodLink RX5 69 yX5_canFollow, Cond.instanceMethod yX5_canFollow, Cond.selects RX5 yX5_canFollow yX5_canFollow, Cond.code yX5_canFollow cX5_canFollow 2 (some .boolean), Cond.methodLink RX7 249 yX5_offCount, Cond.instanceMethod yX5_offCount, Cond.selects RX5 yX5_offCount yX5_offCount, Cond.code yX5_offCount cX5_offCount 4 (some .int), Cond.methodLink RX5 72 yX5_turn, Cond.instanceMethod yX5_turn, Cond.selects RX5 yX5_turn yX5_turn, Cond.code yX5_turn cX5_turn 4 (some .int), Cond.methodLink RX7 260 yX5_wayTo, Cond.instanceMethod yX5_wayTo, Cond.selects RX5 yX5_wayTo yX5_wayTo, Cond.code yX5_wayTo cX5_wayTo 4 (some .int), Cond.methodLink RX5 75 Lib.Math.abs.name, Cond.static Lib.Math.abs.name, Cond.code Lib.Math.abs.name Lib.Math.abs.code 1 (some .int), Cond.methodLink RX7 245 yX5_turnInto, Cond.instanceMethod yX5_turnInto]
def wsX7_near_r6 : List Cond := [Cond.selects RX5 yX5_turnInto yX5_turnInto, Cond.code yX5_turnInto cX5_turnInto 4 none]
def wsX7_near : List Cond := .code yX7_near cX7_near 8 (some .int) :: ((wsX7_near_r1 ++ (wsX7_near_r2 ++ (wsX7_near_r3 ++ (wsX7_near_r4 ++ (wsX7_near_r5 ++ wsX7_near_r6))))) ++ wsX70 ++ wsX00 ++ wsX60 ++ wsX50)
def wsX7_turned : List Cond := .code yX7_turned cX7_turned 2 (some .int) :: ([.fieldLink RX7 86 "AskTree" "hasTurned" "Z", .fieldLink RX7 70 "AskTree" "turnedMarks" "[I", .constant RX7 118 (-40000), .methodLink RX7 90 yX7_isMark, .static yX7_isMark, .initialized RX7, .code yX7_isMark cX7_isMark 1 (some .boolean)] ++ wsX70)
def wsX7_count : List Cond := .code yX7_count cX7_count 2 (some .int) :: ([.fieldLink RX7 12 "AskTree" "cases" "LAskTree$Cases;", .fieldLink RX7 94 "AskTree$Cases" "size" "I", .fieldLink RX7 76 "AskTree" "treeCount" "I"] ++ wsX70 ++ wsX00)
def wsX8_init : List Cond := .code yX8_init cX8_init 1 none :: ([.methodLink RX8 1 objectInit, .instanceMethod objectInit, .code objectInit ⟨#[0xb1]⟩ 1 none, .arrayClass .int, .fieldLink RX8 9 "AskTreeModel" "marks" "[I", .fieldLink RX8 13 "AskTreeModel" "classes" "[I", .arrayClass .boolean, .fieldLink RX8 16 "AskTreeModel" "isSort" "[Z", .constant RX8 20 (134400), .fieldLink RX8 21 "AskTreeModel" "nodes" "[I", .fieldLink RX8 24 "AskTreeModel" "many" "[I", .fieldLink RX8 27 "AskTreeModel" "in" "[Z", .fieldLink RX8 30 "AskTreeModel" "asked" "[I", .fieldLink RX8 33 "AskTreeModel" "turned" "[I", .fieldLink RX8 36 "AskTreeModel" "saidLeaf" "I", .fieldLink RX8 40 "AskTreeModel" "voices" "I", .fieldLink RX8 43 "AskTreeModel" "heap" "[I", .fieldLink RX8 46 "AskTreeModel" "heapYes" "[I", .fieldLink RX8 49 "AskTreeModel" "path" "[I", .fieldLink RX8 52 "AskTreeModel" "bestWrong" "[I", .fieldLink RX8 55 "AskTreeModel" "bestAsked" "[I", .fieldLink RX8 58 "AskTreeModel" "bestMark" "[I", .fieldLink RX8 61 "AskTreeModel" "bestV" "[I"] ++ wsX80)
def wsX8_sort : List Cond := .code yX8_sort cX8_sort 4 (some .int) :: ([.fieldLink RX8 64 "AskTreeModel" "cases" "I", .fieldLink RX8 67 "AskTreeModel" "trees" "I", .fieldLink RX8 16 "AskTreeModel" "isSort" "[Z"] ++ wsX80)
def wsX8_take : List Cond := .code yX8_take cX8_take 10 (some .boolean) :: ([.fieldLink RX8 30 "AskTreeModel" "asked" "[I"] ++ wsX80)
def wsX8_add : List Cond := .code yX8_add cX8_add 7 (some .int) :: ([.fieldLink RX8 64 "AskTreeModel" "cases" "I", .fieldLink RX8 9 "AskTreeModel" "marks" "[I", .fieldLink RX8 30 "AskTreeModel" "asked" "[I", .fieldLink RX8 13 "AskTreeModel" "classes" "[I", .methodLink RX8 70 yX8_take, .instanceMethod yX8_take, .selects RX8 yX8_take yX8_take, .initialized RX8, .code yX8_take cX8_take 10 (some .boolean)] ++ wsX80)
def wsX8_drop : List Cond := .code yX8_drop cX8_drop 4 (some .int) :: ([.fieldLink RX8 64 "AskTreeModel" "cases" "I", .fieldLink RX8 13 "AskTreeModel" "classes" "[I", .fieldLink RX8 9 "AskTreeModel" "marks" "[I"] ++ wsX80)
def wsX8_mark : List Cond := .code yX8_mark cX8_mark 3 (some .int) :: ([.fieldLink RX8 64 "AskTreeModel" "cases" "I", .fieldLink RX8 9 "AskTreeModel" "marks" "[I", .constant RX8 74 (-40000)] ++ wsX80)
def wsX8_cls : List Cond := .code yX8_cls cX8_cls 2 (some .int) :: ([.fieldLink RX8 64 "AskTreeModel" "cases" "I", .fieldLink RX8 13 "AskTreeModel" "classes" "[I"] ++ wsX80)
def wsX8_place : List Cond := .code yX8_place cX8_place 3 (some .int) :: ([])
def wsX8_countAt : List Cond := .code yX8_countAt cX8_countAt 2 (some .int) :: ([.fieldLink RX8 21 "AskTreeModel" "nodes" "[I"] ++ wsX80)
def wsX8_classAt : List Cond := .code yX8_classAt cX8_classAt 4 (some .int) :: ([.fieldLink RX8 21 "AskTreeModel" "nodes" "[I"] ++ wsX80)
def wsX8_wrongAt : List Cond := .code yX8_wrongAt cX8_wrongAt 2 (some .int) :: ([.fieldLink RX8 21 "AskTreeModel" "nodes" "[I", .methodLink RX8 75 yX8_countAt, .instanceMethod yX8_countAt, .selects RX8 yX8_countAt yX8_countAt, .initialized RX8, .code yX8_countAt cX8_countAt 2 (some .int), .methodLink RX8 79 yX8_classAt, .instanceMethod yX8_classAt, .selects RX8 yX8_classAt yX8_classAt, .code yX8_classAt cX8_classAt 4 (some .int)] ++ wsX80)
def wsX8_isLeaf : List Cond := .code yX8_isLeaf cX8_isLeaf 2 (some .boolean) :: ([.fieldLink RX8 21 "AskTreeModel" "nodes" "[I"] ++ wsX80)
def wsX8_answers : List Cond := .code yX8_answers cX8_answers 4 (some .boolean) :: ([.fieldLink RX8 16 "AskTreeModel" "isSort" "[Z"] ++ wsX80)
def wsX8_gapsYes : List Cond := .code yX8_gapsYes cX8_gapsYes 8 (some .boolean) :: ([.fieldLink RX8 64 "AskTreeModel" "cases" "I", .fieldLink RX8 9 "AskTreeModel" "marks" "[I", .fieldLink RX8 27 "AskTreeModel" "in" "[Z", .methodLink RX8 82 yX8_answers, .instanceMethod yX8_answers, .selects RX8 yX8_answers yX8_answers, .initialized RX8, .code yX8_answers cX8_answers 4 (some .boolean), .fieldLink RX8 16 "AskTreeModel" "isSort" "[Z"] ++ wsX80)
def wsX8_goesYes : List Cond := .code yX8_goesYes cX8_goesYes 6 (some .boolean) :: ([.fieldLink RX8 9 "AskTreeModel" "marks" "[I", .methodLink RX8 82 yX8_answers, .instanceMethod yX8_answers, .selects RX8 yX8_answers yX8_answers, .initialized RX8, .code yX8_answers cX8_answers 4 (some .boolean), .fieldLink RX8 16 "AskTreeModel" "isSort" "[Z"] ++ wsX80)
def wsX8_countRow : List Cond := .code yX8_countRow cX8_countRow 3 none :: ([.fieldLink RX8 43 "AskTreeModel" "heap" "[I", .fieldLink RX8 64 "AskTreeModel" "cases" "I", .fieldLink RX8 27 "AskTreeModel" "in" "[Z", .fieldLink RX8 13 "AskTreeModel" "classes" "[I"] ++ wsX80)
def wsX8_countYes : List Cond := .code yX8_countYes cX8_countYes 6 none :: ([.fieldLink RX8 46 "AskTreeModel" "heapYes" "[I", .fieldLink RX8 64 "AskTreeModel" "cases" "I", .fieldLink RX8 27 "AskTreeModel" "in" "[Z", .fieldLink RX8 13 "AskTreeModel" "classes" "[I", .methodLink RX8 86 yX8_gapsYes, .instanceMethod yX8_gapsYes, .selects RX8 yX8_gapsYes yX8_gapsYes, .initialized RX8, .code yX8_gapsYes cX8_gapsYes 8 (some .boolean), .fieldLink RX8 9 "AskTreeModel" "marks" "[I", .methodLink RX8 82 yX8_answers, .instanceMethod yX8_answers, .selects RX8 yX8_answers yX8_answers, .code yX8_answers cX8_answers 4 (some .boolean), .fieldLink RX8 16 "AskTreeModel" "isSort" "[Z", .methodLink RX8 89 yX8_goesYes, .instanceMethod yX8_goesYes, .selects RX8 yX8_goesYes yX8_goesYes, .code yX8_goesYes cX8_goesYes 6 (some .boolean)] ++ wsX80)
def wsX8_squares : List Cond := .code yX8_squares cX8_squares 4 (some .long) :: ([])
def wsX8_findQuestion_r1 : List Cond := [Cond.fieldLink RX8 43 "AskTreeModel" "heap" "[I", Cond.fieldLink RX8 64 "AskTreeModel" "cases" "I", Cond.fieldLink RX8 9 "AskTreeModel" "marks" "[I", Cond.fieldLink RX8 27 "AskTreeModel" "in" "[Z", Cond.fieldLink RX8 46 "AskTreeModel" "heapYes" "[I", Cond.fieldLink RX8 105 "AskTreeModel" "foundMark" "I", Cond.fieldLink RX8 108 "AskTreeModel" "foundV" "I", Cond.methodLink RX8 93 yX8_countRow, Cond.instanceMethod yX8_countRow, Cond.selects RX8 yX8_countRow yX8_countRow, Cond.initialized RX8, Cond.code yX8_countRow cX8_countRow 3 none, Cond.fieldLink RX8 13 "AskTreeModel" "classes" "[I", Cond.methodLink RX8 97 yX8_squares, Cond.static yX8_squares, Cond.code yX8_squares cX8_squares 4 (some .long), Cond.methodLink RX8 101 yX8_countYes, Cond.instanceMethod yX8_countYes, Cond.selects RX8 yX8_countYes yX8_countYes, Cond.code yX8_countYes cX8_countYes 6 none, Cond.methodLink RX8 86 yX8_gapsYes, Cond.instanceMethod yX8_gapsYes, Cond.selects RX8 yX8_gapsYes yX8_gapsYes, Cond.code yX8_gapsYes cX8_gapsYes 8 (some .boolean)]
def wsX8_findQuestion_r2 : List Cond := [Cond.methodLink RX8 82 yX8_answers, Cond.instanceMethod yX8_answers, Cond.selects RX8 yX8_answers yX8_answers, Cond.code yX8_answers cX8_answers 4 (some .boolean), Cond.fieldLink RX8 16 "AskTreeModel" "isSort" "[Z", Cond.methodLink RX8 89 yX8_goesYes, Cond.instanceMethod yX8_goesYes, Cond.selects RX8 yX8_goesYes yX8_goesYes, Cond.code yX8_goesYes cX8_goesYes 6 (some .boolean)]
def wsX8_findQuestion : List Cond := .code yX8_findQuestion cX8_findQuestion 29 (some .boolean) :: ((wsX8_findQuestion_r1 ++ wsX8_findQuestion_r2) ++ wsX80)
def wsX8_newNode : List Cond := .code yX8_newNode cX8_newNode 5 (some .int) :: ([.fieldLink RX8 24 "AskTreeModel" "many" "[I", .fieldLink RX8 111 "AskTreeModel" "making" "I", .fieldLink RX8 21 "AskTreeModel" "nodes" "[I", .fieldLink RX8 43 "AskTreeModel" "heap" "[I", .methodLink RX8 93 yX8_countRow, .instanceMethod yX8_countRow, .selects RX8 yX8_countRow yX8_countRow, .initialized RX8, .code yX8_countRow cX8_countRow 3 none, .fieldLink RX8 64 "AskTreeModel" "cases" "I", .fieldLink RX8 27 "AskTreeModel" "in" "[Z", .fieldLink RX8 13 "AskTreeModel" "classes" "[I", .methodLink RX8 114 yX8_place, .instanceMethod yX8_place, .selects RX8 yX8_place yX8_place, .code yX8_place cX8_place 3 (some .int)] ++ wsX80)
def wsX8_lead : List Cond := .code yX8_lead cX8_lead 7 none :: ([.fieldLink RX8 64 "AskTreeModel" "cases" "I", .fieldLink RX8 27 "AskTreeModel" "in" "[Z", .methodLink RX8 89 yX8_goesYes, .instanceMethod yX8_goesYes, .selects RX8 yX8_goesYes yX8_goesYes, .initialized RX8, .code yX8_goesYes cX8_goesYes 6 (some .boolean), .fieldLink RX8 9 "AskTreeModel" "marks" "[I", .methodLink RX8 82 yX8_answers, .instanceMethod yX8_answers, .selects RX8 yX8_answers yX8_answers, .code yX8_answers cX8_answers 4 (some .boolean), .fieldLink RX8 16 "AskTreeModel" "isSort" "[Z"] ++ wsX80)
def wsX8_ask : List Cond := .code yX8_ask cX8_ask 6 none :: ([.fieldLink RX8 111 "AskTreeModel" "making" "I", .fieldLink RX8 21 "AskTreeModel" "nodes" "[I", .methodLink RX8 114 yX8_place, .instanceMethod yX8_place, .selects RX8 yX8_place yX8_place, .initialized RX8, .code yX8_place cX8_place 3 (some .int)] ++ wsX80)
def wsX8_growNode_r1 : List Cond := [Cond.fieldLink RX8 111 "AskTreeModel" "making" "I", Cond.fieldLink RX8 105 "AskTreeModel" "foundMark" "I", Cond.fieldLink RX8 108 "AskTreeModel" "foundV" "I", Cond.fieldLink RX8 21 "AskTreeModel" "nodes" "[I", Cond.methodLink RX8 118 yX8_newNode, Cond.instanceMethod yX8_newNode, Cond.selects RX8 yX8_newNode yX8_newNode, Cond.initialized RX8, Cond.code yX8_newNode cX8_newNode 5 (some .int), Cond.fieldLink RX8 24 "AskTreeModel" "many" "[I", Cond.fieldLink RX8 43 "AskTreeModel" "heap" "[I", Cond.methodLink RX8 93 yX8_countRow, Cond.instanceMethod yX8_countRow, Cond.selects RX8 yX8_countRow yX8_countRow, Cond.code yX8_countRow cX8_countRow 3 none, Cond.fieldLink RX8 64 "AskTreeModel" "cases" "I", Cond.fieldLink RX8 27 "AskTreeModel" "in" "[Z", Cond.fieldLink RX8 13 "AskTreeModel" "classes" "[I", Cond.methodLink RX8 114 yX8_place, Cond.instanceMethod yX8_place, Cond.selects RX8 yX8_place yX8_place, Cond.code yX8_place cX8_place 3 (some .int), Cond.methodLink RX8 121 yX8_wrongAt, Cond.instanceMethod yX8_wrongAt]
def wsX8_growNode_r2 : List Cond := [Cond.selects RX8 yX8_wrongAt yX8_wrongAt, Cond.code yX8_wrongAt cX8_wrongAt 2 (some .int), Cond.methodLink RX8 75 yX8_countAt, Cond.instanceMethod yX8_countAt, Cond.selects RX8 yX8_countAt yX8_countAt, Cond.code yX8_countAt cX8_countAt 2 (some .int), Cond.methodLink RX8 79 yX8_classAt, Cond.instanceMethod yX8_classAt, Cond.selects RX8 yX8_classAt yX8_classAt, Cond.code yX8_classAt cX8_classAt 4 (some .int), Cond.methodLink RX8 124 yX8_findQuestion, Cond.instanceMethod yX8_findQuestion, Cond.selects RX8 yX8_findQuestion yX8_findQuestion, Cond.code yX8_findQuestion cX8_findQuestion 29 (some .boolean), Cond.fieldLink RX8 9 "AskTreeModel" "marks" "[I", Cond.fieldLink RX8 46 "AskTreeModel" "heapYes" "[I", Cond.methodLink RX8 97 yX8_squares, Cond.static yX8_squares, Cond.code yX8_squares cX8_squares 4 (some .long), Cond.methodLink RX8 101 yX8_countYes, Cond.instanceMethod yX8_countYes, Cond.selects RX8 yX8_countYes yX8_countYes, Cond.code yX8_countYes cX8_countYes 6 none, Cond.methodLink RX8 86 yX8_gapsYes]
def wsX8_growNode_r3 : List Cond := [Cond.instanceMethod yX8_gapsYes, Cond.selects RX8 yX8_gapsYes yX8_gapsYes, Cond.code yX8_gapsYes cX8_gapsYes 8 (some .boolean), Cond.methodLink RX8 82 yX8_answers, Cond.instanceMethod yX8_answers, Cond.selects RX8 yX8_answers yX8_answers, Cond.code yX8_answers cX8_answers 4 (some .boolean), Cond.fieldLink RX8 16 "AskTreeModel" "isSort" "[Z", Cond.methodLink RX8 89 yX8_goesYes, Cond.instanceMethod yX8_goesYes, Cond.selects RX8 yX8_goesYes yX8_goesYes, Cond.code yX8_goesYes cX8_goesYes 6 (some .boolean), Cond.methodLink RX8 128 yX8_ask, Cond.instanceMethod yX8_ask, Cond.selects RX8 yX8_ask yX8_ask, Cond.code yX8_ask cX8_ask 6 none, Cond.methodLink RX8 132 yX8_lead, Cond.instanceMethod yX8_lead, Cond.selects RX8 yX8_lead yX8_lead, Cond.code yX8_lead cX8_lead 7 none, Cond.methodLink RX8 136 yX8_growNode, Cond.instanceMethod yX8_growNode, Cond.selects RX8 yX8_growNode yX8_growNode]
def wsX8_growNode : List Cond := .code yX8_growNode cX8_growNode 9 (some .int) :: ((wsX8_growNode_r1 ++ (wsX8_growNode_r2 ++ wsX8_growNode_r3)) ++ wsX80)
def wsX8_areGrowing : List Cond := .code yX8_areGrowing cX8_areGrowing 2 (some .boolean) :: ([])
def wsX8_grow_r1 : List Cond := [Cond.fieldLink RX8 67 "AskTreeModel" "trees" "I", Cond.fieldLink RX8 64 "AskTreeModel" "cases" "I", Cond.fieldLink RX8 27 "AskTreeModel" "in" "[Z", Cond.fieldLink RX8 111 "AskTreeModel" "making" "I", Cond.fieldLink RX8 24 "AskTreeModel" "many" "[I", Cond.methodLink RX8 140 yX8_areGrowing, Cond.static yX8_areGrowing, Cond.initialized RX8, Cond.code yX8_areGrowing cX8_areGrowing 2 (some .boolean), Cond.methodLink RX8 136 yX8_growNode, Cond.instanceMethod yX8_growNode, Cond.selects RX8 yX8_growNode yX8_growNode, Cond.code yX8_growNode cX8_growNode 9 (some .int), Cond.fieldLink RX8 105 "AskTreeModel" "foundMark" "I", Cond.fieldLink RX8 108 "AskTreeModel" "foundV" "I", Cond.fieldLink RX8 21 "AskTreeModel" "nodes" "[I", Cond.methodLink RX8 118 yX8_newNode, Cond.instanceMethod yX8_newNode, Cond.selects RX8 yX8_newNode yX8_newNode, Cond.code yX8_newNode cX8_newNode 5 (some .int), Cond.fieldLink RX8 43 "AskTreeModel" "heap" "[I", Cond.methodLink RX8 93 yX8_countRow, Cond.instanceMethod yX8_countRow, Cond.selects RX8 yX8_countRow yX8_countRow]
def wsX8_grow_r2 : List Cond := [Cond.code yX8_countRow cX8_countRow 3 none, Cond.fieldLink RX8 13 "AskTreeModel" "classes" "[I", Cond.methodLink RX8 114 yX8_place, Cond.instanceMethod yX8_place, Cond.selects RX8 yX8_place yX8_place, Cond.code yX8_place cX8_place 3 (some .int), Cond.methodLink RX8 121 yX8_wrongAt, Cond.instanceMethod yX8_wrongAt, Cond.selects RX8 yX8_wrongAt yX8_wrongAt, Cond.code yX8_wrongAt cX8_wrongAt 2 (some .int), Cond.methodLink RX8 75 yX8_countAt, Cond.instanceMethod yX8_countAt, Cond.selects RX8 yX8_countAt yX8_countAt, Cond.code yX8_countAt cX8_countAt 2 (some .int), Cond.methodLink RX8 79 yX8_classAt, Cond.instanceMethod yX8_classAt, Cond.selects RX8 yX8_classAt yX8_classAt, Cond.code yX8_classAt cX8_classAt 4 (some .int), Cond.methodLink RX8 124 yX8_findQuestion, Cond.instanceMethod yX8_findQuestion, Cond.selects RX8 yX8_findQuestion yX8_findQuestion, Cond.code yX8_findQuestion cX8_findQuestion 29 (some .boolean), Cond.fieldLink RX8 9 "AskTreeModel" "marks" "[I", Cond.fieldLink RX8 46 "AskTreeModel" "heapYes" "[I"]
def wsX8_grow_r3 : List Cond := [Cond.methodLink RX8 97 yX8_squares, Cond.static yX8_squares, Cond.code yX8_squares cX8_squares 4 (some .long), Cond.methodLink RX8 101 yX8_countYes, Cond.instanceMethod yX8_countYes, Cond.selects RX8 yX8_countYes yX8_countYes, Cond.code yX8_countYes cX8_countYes 6 none, Cond.methodLink RX8 86 yX8_gapsYes, Cond.instanceMethod yX8_gapsYes, Cond.selects RX8 yX8_gapsYes yX8_gapsYes, Cond.code yX8_gapsYes cX8_gapsYes 8 (some .boolean), Cond.methodLink RX8 82 yX8_answers, Cond.instanceMethod yX8_answers, Cond.selects RX8 yX8_answers yX8_answers, Cond.code yX8_answers cX8_answers 4 (some .boolean), Cond.fieldLink RX8 16 "AskTreeModel" "isSort" "[Z", Cond.methodLink RX8 89 yX8_goesYes, Cond.instanceMethod yX8_goesYes, Cond.selects RX8 yX8_goesYes yX8_goesYes, Cond.code yX8_goesYes cX8_goesYes 6 (some .boolean), Cond.methodLink RX8 128 yX8_ask, Cond.instanceMethod yX8_ask, Cond.selects RX8 yX8_ask yX8_ask, Cond.code yX8_ask cX8_ask 6 none]
def wsX8_grow_r4 : List Cond := [Cond.methodLink RX8 132 yX8_lead, Cond.instanceMethod yX8_lead, Cond.selects RX8 yX8_lead yX8_lead, Cond.code yX8_lead cX8_lead 7 none]
def wsX8_grow : List Cond := .code yX8_grow cX8_grow 4 (some .int) :: ((wsX8_grow_r1 ++ (wsX8_grow_r2 ++ (wsX8_grow_r3 ++ wsX8_grow_r4))) ++ wsX80)
def wsX8_countNext : List Cond := .code yX8_countNext cX8_countNext 4 (some .int) :: ([.fieldLink RX8 64 "AskTreeModel" "cases" "I", .fieldLink RX8 27 "AskTreeModel" "in" "[Z"] ++ wsX80)
def wsX8_search_r1 : List Cond := [Cond.fieldLink RX8 43 "AskTreeModel" "heap" "[I", Cond.fieldLink RX8 64 "AskTreeModel" "cases" "I", Cond.fieldLink RX8 27 "AskTreeModel" "in" "[Z", Cond.fieldLink RX8 9 "AskTreeModel" "marks" "[I", Cond.fieldLink RX8 52 "AskTreeModel" "bestWrong" "[I", Cond.fieldLink RX8 55 "AskTreeModel" "bestAsked" "[I", Cond.fieldLink RX8 58 "AskTreeModel" "bestMark" "[I", Cond.fieldLink RX8 61 "AskTreeModel" "bestV" "[I", Cond.methodLink RX8 93 yX8_countRow, Cond.instanceMethod yX8_countRow, Cond.selects RX8 yX8_countRow yX8_countRow, Cond.initialized RX8, Cond.code yX8_countRow cX8_countRow 3 none, Cond.fieldLink RX8 13 "AskTreeModel" "classes" "[I", Cond.methodLink RX8 132 yX8_lead, Cond.instanceMethod yX8_lead, Cond.selects RX8 yX8_lead yX8_lead, Cond.code yX8_lead cX8_lead 7 none, Cond.methodLink RX8 89 yX8_goesYes, Cond.instanceMethod yX8_goesYes, Cond.selects RX8 yX8_goesYes yX8_goesYes, Cond.code yX8_goesYes cX8_goesYes 6 (some .boolean), Cond.methodLink RX8 82 yX8_answers, Cond.instanceMethod yX8_answers]
def wsX8_search_r2 : List Cond := [Cond.selects RX8 yX8_answers yX8_answers, Cond.code yX8_answers cX8_answers 4 (some .boolean), Cond.fieldLink RX8 16 "AskTreeModel" "isSort" "[Z", Cond.methodLink RX8 143 yX8_countNext, Cond.instanceMethod yX8_countNext, Cond.selects RX8 yX8_countNext yX8_countNext, Cond.code yX8_countNext cX8_countNext 4 (some .int), Cond.methodLink RX8 146 yX8_search, Cond.instanceMethod yX8_search, Cond.selects RX8 yX8_search yX8_search]
def wsX8_search : List Cond := .code yX8_search cX8_search 15 none :: ((wsX8_search_r1 ++ wsX8_search_r2) ++ wsX80)
def wsX8_bestNode_r1 : List Cond := [Cond.fieldLink RX8 58 "AskTreeModel" "bestMark" "[I", Cond.fieldLink RX8 61 "AskTreeModel" "bestV" "[I", Cond.fieldLink RX8 111 "AskTreeModel" "making" "I", Cond.fieldLink RX8 21 "AskTreeModel" "nodes" "[I", Cond.methodLink RX8 118 yX8_newNode, Cond.instanceMethod yX8_newNode, Cond.selects RX8 yX8_newNode yX8_newNode, Cond.initialized RX8, Cond.code yX8_newNode cX8_newNode 5 (some .int), Cond.fieldLink RX8 24 "AskTreeModel" "many" "[I", Cond.fieldLink RX8 43 "AskTreeModel" "heap" "[I", Cond.methodLink RX8 93 yX8_countRow, Cond.instanceMethod yX8_countRow, Cond.selects RX8 yX8_countRow yX8_countRow, Cond.code yX8_countRow cX8_countRow 3 none, Cond.fieldLink RX8 64 "AskTreeModel" "cases" "I", Cond.fieldLink RX8 27 "AskTreeModel" "in" "[Z", Cond.fieldLink RX8 13 "AskTreeModel" "classes" "[I", Cond.methodLink RX8 114 yX8_place, Cond.instanceMethod yX8_place, Cond.selects RX8 yX8_place yX8_place, Cond.code yX8_place cX8_place 3 (some .int), Cond.methodLink RX8 146 yX8_search, Cond.instanceMethod yX8_search]
def wsX8_bestNode_r2 : List Cond := [Cond.selects RX8 yX8_search yX8_search, Cond.code yX8_search cX8_search 15 none, Cond.fieldLink RX8 9 "AskTreeModel" "marks" "[I", Cond.fieldLink RX8 52 "AskTreeModel" "bestWrong" "[I", Cond.fieldLink RX8 55 "AskTreeModel" "bestAsked" "[I", Cond.methodLink RX8 132 yX8_lead, Cond.instanceMethod yX8_lead, Cond.selects RX8 yX8_lead yX8_lead, Cond.code yX8_lead cX8_lead 7 none, Cond.methodLink RX8 89 yX8_goesYes, Cond.instanceMethod yX8_goesYes, Cond.selects RX8 yX8_goesYes yX8_goesYes, Cond.code yX8_goesYes cX8_goesYes 6 (some .boolean), Cond.methodLink RX8 82 yX8_answers, Cond.instanceMethod yX8_answers, Cond.selects RX8 yX8_answers yX8_answers, Cond.code yX8_answers cX8_answers 4 (some .boolean), Cond.fieldLink RX8 16 "AskTreeModel" "isSort" "[Z", Cond.methodLink RX8 143 yX8_countNext, Cond.instanceMethod yX8_countNext, Cond.selects RX8 yX8_countNext yX8_countNext, Cond.code yX8_countNext cX8_countNext 4 (some .int), Cond.methodLink RX8 86 yX8_gapsYes, Cond.instanceMethod yX8_gapsYes]
def wsX8_bestNode_r3 : List Cond := [Cond.selects RX8 yX8_gapsYes yX8_gapsYes, Cond.code yX8_gapsYes cX8_gapsYes 8 (some .boolean), Cond.methodLink RX8 128 yX8_ask, Cond.instanceMethod yX8_ask, Cond.selects RX8 yX8_ask yX8_ask, Cond.code yX8_ask cX8_ask 6 none, Cond.methodLink RX8 150 yX8_bestNode, Cond.instanceMethod yX8_bestNode, Cond.selects RX8 yX8_bestNode yX8_bestNode]
def wsX8_bestNode : List Cond := .code yX8_bestNode cX8_bestNode 7 (some .int) :: ((wsX8_bestNode_r1 ++ (wsX8_bestNode_r2 ++ wsX8_bestNode_r3)) ++ wsX80)
def wsX8_best_r1 : List Cond := [Cond.fieldLink RX8 64 "AskTreeModel" "cases" "I", Cond.fieldLink RX8 9 "AskTreeModel" "marks" "[I", Cond.fieldLink RX8 67 "AskTreeModel" "trees" "I", Cond.fieldLink RX8 27 "AskTreeModel" "in" "[Z", Cond.fieldLink RX8 111 "AskTreeModel" "making" "I", Cond.fieldLink RX8 24 "AskTreeModel" "many" "[I", Cond.methodLink RX8 150 yX8_bestNode, Cond.instanceMethod yX8_bestNode, Cond.selects RX8 yX8_bestNode yX8_bestNode, Cond.initialized RX8, Cond.code yX8_bestNode cX8_bestNode 7 (some .int), Cond.fieldLink RX8 58 "AskTreeModel" "bestMark" "[I", Cond.fieldLink RX8 61 "AskTreeModel" "bestV" "[I", Cond.fieldLink RX8 21 "AskTreeModel" "nodes" "[I", Cond.methodLink RX8 118 yX8_newNode, Cond.instanceMethod yX8_newNode, Cond.selects RX8 yX8_newNode yX8_newNode, Cond.code yX8_newNode cX8_newNode 5 (some .int), Cond.fieldLink RX8 43 "AskTreeModel" "heap" "[I", Cond.methodLink RX8 93 yX8_countRow, Cond.instanceMethod yX8_countRow, Cond.selects RX8 yX8_countRow yX8_countRow, Cond.code yX8_countRow cX8_countRow 3 none, Cond.fieldLink RX8 13 "AskTreeModel" "classes" "[I"]
def wsX8_best_r2 : List Cond := [Cond.methodLink RX8 114 yX8_place, Cond.instanceMethod yX8_place, Cond.selects RX8 yX8_place yX8_place, Cond.code yX8_place cX8_place 3 (some .int), Cond.methodLink RX8 146 yX8_search, Cond.instanceMethod yX8_search, Cond.selects RX8 yX8_search yX8_search, Cond.code yX8_search cX8_search 15 none, Cond.fieldLink RX8 52 "AskTreeModel" "bestWrong" "[I", Cond.fieldLink RX8 55 "AskTreeModel" "bestAsked" "[I", Cond.methodLink RX8 132 yX8_lead, Cond.instanceMethod yX8_lead, Cond.selects RX8 yX8_lead yX8_lead, Cond.code yX8_lead cX8_lead 7 none, Cond.methodLink RX8 89 yX8_goesYes, Cond.instanceMethod yX8_goesYes, Cond.selects RX8 yX8_goesYes yX8_goesYes, Cond.code yX8_goesYes cX8_goesYes 6 (some .boolean), Cond.methodLink RX8 82 yX8_answers, Cond.instanceMethod yX8_answers, Cond.selects RX8 yX8_answers yX8_answers, Cond.code yX8_answers cX8_answers 4 (some .boolean), Cond.fieldLink RX8 16 "AskTreeModel" "isSort" "[Z", Cond.methodLink RX8 143 yX8_countNext]
def wsX8_best_r3 : List Cond := [Cond.instanceMethod yX8_countNext, Cond.selects RX8 yX8_countNext yX8_countNext, Cond.code yX8_countNext cX8_countNext 4 (some .int), Cond.methodLink RX8 86 yX8_gapsYes, Cond.instanceMethod yX8_gapsYes, Cond.selects RX8 yX8_gapsYes yX8_gapsYes, Cond.code yX8_gapsYes cX8_gapsYes 8 (some .boolean), Cond.methodLink RX8 128 yX8_ask, Cond.instanceMethod yX8_ask, Cond.selects RX8 yX8_ask yX8_ask, Cond.code yX8_ask cX8_ask 6 none]
def wsX8_best : List Cond := .code yX8_best cX8_best 3 (some .int) :: ((wsX8_best_r1 ++ (wsX8_best_r2 ++ wsX8_best_r3)) ++ wsX80)
def wsX8_isTree : List Cond := .code yX8_isTree cX8_isTree 2 (some .boolean) :: ([.fieldLink RX8 67 "AskTreeModel" "trees" "I"] ++ wsX80)
def wsX8_costOf_r1 : List Cond := [Cond.fieldLink RX8 21 "AskTreeModel" "nodes" "[I", Cond.methodLink RX8 114 yX8_place, Cond.instanceMethod yX8_place, Cond.selects RX8 yX8_place yX8_place, Cond.initialized RX8, Cond.code yX8_place cX8_place 3 (some .int), Cond.methodLink RX8 121 yX8_wrongAt, Cond.instanceMethod yX8_wrongAt, Cond.selects RX8 yX8_wrongAt yX8_wrongAt, Cond.code yX8_wrongAt cX8_wrongAt 2 (some .int), Cond.methodLink RX8 75 yX8_countAt, Cond.instanceMethod yX8_countAt, Cond.selects RX8 yX8_countAt yX8_countAt, Cond.code yX8_countAt cX8_countAt 2 (some .int), Cond.methodLink RX8 79 yX8_classAt, Cond.instanceMethod yX8_classAt, Cond.selects RX8 yX8_classAt yX8_classAt, Cond.code yX8_classAt cX8_classAt 4 (some .int), Cond.methodLink RX8 153 yX8_isLeaf, Cond.instanceMethod yX8_isLeaf, Cond.selects RX8 yX8_isLeaf yX8_isLeaf, Cond.code yX8_isLeaf cX8_isLeaf 2 (some .boolean), Cond.methodLink RX8 157 yX8_costOf, Cond.instanceMethod yX8_costOf]
def wsX8_costOf_r2 : List Cond := [Cond.selects RX8 yX8_costOf yX8_costOf]
def wsX8_costOf : List Cond := .code yX8_costOf cX8_costOf 10 (some .long) :: ((wsX8_costOf_r1 ++ wsX8_costOf_r2) ++ wsX80)
def wsX8_cutNode_r1 : List Cond := [Cond.fieldLink RX8 24 "AskTreeModel" "many" "[I", Cond.fieldLink RX8 111 "AskTreeModel" "making" "I", Cond.fieldLink RX8 21 "AskTreeModel" "nodes" "[I", Cond.methodLink RX8 114 yX8_place, Cond.instanceMethod yX8_place, Cond.selects RX8 yX8_place yX8_place, Cond.initialized RX8, Cond.code yX8_place cX8_place 3 (some .int), Cond.methodLink RX8 153 yX8_isLeaf, Cond.instanceMethod yX8_isLeaf, Cond.selects RX8 yX8_isLeaf yX8_isLeaf, Cond.code yX8_isLeaf cX8_isLeaf 2 (some .boolean), Cond.methodLink RX8 157 yX8_costOf, Cond.instanceMethod yX8_costOf, Cond.selects RX8 yX8_costOf yX8_costOf, Cond.code yX8_costOf cX8_costOf 10 (some .long), Cond.methodLink RX8 121 yX8_wrongAt, Cond.instanceMethod yX8_wrongAt, Cond.selects RX8 yX8_wrongAt yX8_wrongAt, Cond.code yX8_wrongAt cX8_wrongAt 2 (some .int), Cond.methodLink RX8 75 yX8_countAt, Cond.instanceMethod yX8_countAt, Cond.selects RX8 yX8_countAt yX8_countAt, Cond.code yX8_countAt cX8_countAt 2 (some .int)]
def wsX8_cutNode_r2 : List Cond := [Cond.methodLink RX8 79 yX8_classAt, Cond.instanceMethod yX8_classAt, Cond.selects RX8 yX8_classAt yX8_classAt, Cond.code yX8_classAt cX8_classAt 4 (some .int), Cond.methodLink RX8 161 yX8_cutNode, Cond.instanceMethod yX8_cutNode, Cond.selects RX8 yX8_cutNode yX8_cutNode]
def wsX8_cutNode : List Cond := .code yX8_cutNode cX8_cutNode 9 (some .int) :: ((wsX8_cutNode_r1 ++ wsX8_cutNode_r2) ++ wsX80)
def wsX8_cut_r1 : List Cond := [Cond.fieldLink RX8 67 "AskTreeModel" "trees" "I", Cond.fieldLink RX8 111 "AskTreeModel" "making" "I", Cond.fieldLink RX8 24 "AskTreeModel" "many" "[I", Cond.methodLink RX8 165 yX8_isTree, Cond.instanceMethod yX8_isTree, Cond.selects RX8 yX8_isTree yX8_isTree, Cond.initialized RX8, Cond.code yX8_isTree cX8_isTree 2 (some .boolean), Cond.methodLink RX8 161 yX8_cutNode, Cond.instanceMethod yX8_cutNode, Cond.selects RX8 yX8_cutNode yX8_cutNode, Cond.code yX8_cutNode cX8_cutNode 9 (some .int), Cond.fieldLink RX8 21 "AskTreeModel" "nodes" "[I", Cond.methodLink RX8 114 yX8_place, Cond.instanceMethod yX8_place, Cond.selects RX8 yX8_place yX8_place, Cond.code yX8_place cX8_place 3 (some .int), Cond.methodLink RX8 153 yX8_isLeaf, Cond.instanceMethod yX8_isLeaf, Cond.selects RX8 yX8_isLeaf yX8_isLeaf, Cond.code yX8_isLeaf cX8_isLeaf 2 (some .boolean), Cond.methodLink RX8 157 yX8_costOf, Cond.instanceMethod yX8_costOf, Cond.selects RX8 yX8_costOf yX8_costOf]
def wsX8_cut_r2 : List Cond := [Cond.code yX8_costOf cX8_costOf 10 (some .long), Cond.methodLink RX8 121 yX8_wrongAt, Cond.instanceMethod yX8_wrongAt, Cond.selects RX8 yX8_wrongAt yX8_wrongAt, Cond.code yX8_wrongAt cX8_wrongAt 2 (some .int), Cond.methodLink RX8 75 yX8_countAt, Cond.instanceMethod yX8_countAt, Cond.selects RX8 yX8_countAt yX8_countAt, Cond.code yX8_countAt cX8_countAt 2 (some .int), Cond.methodLink RX8 79 yX8_classAt, Cond.instanceMethod yX8_classAt, Cond.selects RX8 yX8_classAt yX8_classAt, Cond.code yX8_classAt cX8_classAt 4 (some .int)]
def wsX8_cut : List Cond := .code yX8_cut cX8_cut 5 (some .int) :: ((wsX8_cut_r1 ++ wsX8_cut_r2) ++ wsX80)
def wsX8_leavesBelow : List Cond := .code yX8_leavesBelow cX8_leavesBelow 4 (some .int) :: ([.fieldLink RX8 21 "AskTreeModel" "nodes" "[I", .methodLink RX8 114 yX8_place, .instanceMethod yX8_place, .selects RX8 yX8_place yX8_place, .initialized RX8, .code yX8_place cX8_place 3 (some .int), .methodLink RX8 153 yX8_isLeaf, .instanceMethod yX8_isLeaf, .selects RX8 yX8_isLeaf yX8_isLeaf, .code yX8_isLeaf cX8_isLeaf 2 (some .boolean), .methodLink RX8 168 yX8_leavesBelow, .instanceMethod yX8_leavesBelow, .selects RX8 yX8_leavesBelow yX8_leavesBelow] ++ wsX80)
def wsX8_wrongBelow_r1 : List Cond := [Cond.fieldLink RX8 21 "AskTreeModel" "nodes" "[I", Cond.methodLink RX8 114 yX8_place, Cond.instanceMethod yX8_place, Cond.selects RX8 yX8_place yX8_place, Cond.initialized RX8, Cond.code yX8_place cX8_place 3 (some .int), Cond.methodLink RX8 153 yX8_isLeaf, Cond.instanceMethod yX8_isLeaf, Cond.selects RX8 yX8_isLeaf yX8_isLeaf, Cond.code yX8_isLeaf cX8_isLeaf 2 (some .boolean), Cond.methodLink RX8 121 yX8_wrongAt, Cond.instanceMethod yX8_wrongAt, Cond.selects RX8 yX8_wrongAt yX8_wrongAt, Cond.code yX8_wrongAt cX8_wrongAt 2 (some .int), Cond.methodLink RX8 75 yX8_countAt, Cond.instanceMethod yX8_countAt, Cond.selects RX8 yX8_countAt yX8_countAt, Cond.code yX8_countAt cX8_countAt 2 (some .int), Cond.methodLink RX8 79 yX8_classAt, Cond.instanceMethod yX8_classAt, Cond.selects RX8 yX8_classAt yX8_classAt, Cond.code yX8_classAt cX8_classAt 4 (some .int), Cond.methodLink RX8 171 yX8_wrongBelow, Cond.instanceMethod yX8_wrongBelow]
def wsX8_wrongBelow_r2 : List Cond := [Cond.selects RX8 yX8_wrongBelow yX8_wrongBelow]
def wsX8_wrongBelow : List Cond := .code yX8_wrongBelow cX8_wrongBelow 4 (some .int) :: ((wsX8_wrongBelow_r1 ++ wsX8_wrongBelow_r2) ++ wsX80)
def wsX8_price_r1 : List Cond := [Cond.fieldLink RX8 24 "AskTreeModel" "many" "[I", Cond.methodLink RX8 165 yX8_isTree, Cond.instanceMethod yX8_isTree, Cond.selects RX8 yX8_isTree yX8_isTree, Cond.initialized RX8, Cond.code yX8_isTree cX8_isTree 2 (some .boolean), Cond.fieldLink RX8 67 "AskTreeModel" "trees" "I", Cond.methodLink RX8 114 yX8_place, Cond.instanceMethod yX8_place, Cond.selects RX8 yX8_place yX8_place, Cond.code yX8_place cX8_place 3 (some .int), Cond.methodLink RX8 153 yX8_isLeaf, Cond.instanceMethod yX8_isLeaf, Cond.selects RX8 yX8_isLeaf yX8_isLeaf, Cond.code yX8_isLeaf cX8_isLeaf 2 (some .boolean), Cond.fieldLink RX8 21 "AskTreeModel" "nodes" "[I", Cond.methodLink RX8 121 yX8_wrongAt, Cond.instanceMethod yX8_wrongAt, Cond.selects RX8 yX8_wrongAt yX8_wrongAt, Cond.code yX8_wrongAt cX8_wrongAt 2 (some .int), Cond.methodLink RX8 75 yX8_countAt, Cond.instanceMethod yX8_countAt, Cond.selects RX8 yX8_countAt yX8_countAt, Cond.code yX8_countAt cX8_countAt 2 (some .int)]
def wsX8_price_r2 : List Cond := [Cond.methodLink RX8 79 yX8_classAt, Cond.instanceMethod yX8_classAt, Cond.selects RX8 yX8_classAt yX8_classAt, Cond.code yX8_classAt cX8_classAt 4 (some .int), Cond.methodLink RX8 171 yX8_wrongBelow, Cond.instanceMethod yX8_wrongBelow, Cond.selects RX8 yX8_wrongBelow yX8_wrongBelow, Cond.code yX8_wrongBelow cX8_wrongBelow 4 (some .int), Cond.methodLink RX8 168 yX8_leavesBelow, Cond.instanceMethod yX8_leavesBelow, Cond.selects RX8 yX8_leavesBelow yX8_leavesBelow, Cond.code yX8_leavesBelow cX8_leavesBelow 4 (some .int)]
def wsX8_price : List Cond := .code yX8_price cX8_price 9 (some .int) :: ((wsX8_price_r1 ++ wsX8_price_r2) ++ wsX80)
def wsX8_leafOf : List Cond := .code yX8_leafOf cX8_leafOf 6 (some .int) :: ([.fieldLink RX8 30 "AskTreeModel" "asked" "[I", .fieldLink RX8 21 "AskTreeModel" "nodes" "[I", .methodLink RX8 114 yX8_place, .instanceMethod yX8_place, .selects RX8 yX8_place yX8_place, .initialized RX8, .code yX8_place cX8_place 3 (some .int), .methodLink RX8 153 yX8_isLeaf, .instanceMethod yX8_isLeaf, .selects RX8 yX8_isLeaf yX8_isLeaf, .code yX8_isLeaf cX8_isLeaf 2 (some .boolean), .methodLink RX8 82 yX8_answers, .instanceMethod yX8_answers, .selects RX8 yX8_answers yX8_answers, .code yX8_answers cX8_answers 4 (some .boolean), .fieldLink RX8 16 "AskTreeModel" "isSort" "[Z"] ++ wsX80)
def wsX8_takeCase : List Cond := .code yX8_takeCase cX8_takeCase 3 none :: ([.fieldLink RX8 30 "AskTreeModel" "asked" "[I", .fieldLink RX8 9 "AskTreeModel" "marks" "[I"] ++ wsX80)
def wsX8_isWrong_r1 : List Cond := [Cond.fieldLink RX8 13 "AskTreeModel" "classes" "[I", Cond.methodLink RX8 174 yX8_takeCase, Cond.instanceMethod yX8_takeCase, Cond.selects RX8 yX8_takeCase yX8_takeCase, Cond.initialized RX8, Cond.code yX8_takeCase cX8_takeCase 3 none, Cond.fieldLink RX8 30 "AskTreeModel" "asked" "[I", Cond.fieldLink RX8 9 "AskTreeModel" "marks" "[I", Cond.methodLink RX8 177 yX8_leafOf, Cond.instanceMethod yX8_leafOf, Cond.selects RX8 yX8_leafOf yX8_leafOf, Cond.code yX8_leafOf cX8_leafOf 6 (some .int), Cond.fieldLink RX8 21 "AskTreeModel" "nodes" "[I", Cond.methodLink RX8 114 yX8_place, Cond.instanceMethod yX8_place, Cond.selects RX8 yX8_place yX8_place, Cond.code yX8_place cX8_place 3 (some .int), Cond.methodLink RX8 153 yX8_isLeaf, Cond.instanceMethod yX8_isLeaf, Cond.selects RX8 yX8_isLeaf yX8_isLeaf, Cond.code yX8_isLeaf cX8_isLeaf 2 (some .boolean), Cond.methodLink RX8 82 yX8_answers, Cond.instanceMethod yX8_answers, Cond.selects RX8 yX8_answers yX8_answers]
def wsX8_isWrong_r2 : List Cond := [Cond.code yX8_answers cX8_answers 4 (some .boolean), Cond.fieldLink RX8 16 "AskTreeModel" "isSort" "[Z", Cond.methodLink RX8 79 yX8_classAt, Cond.instanceMethod yX8_classAt, Cond.selects RX8 yX8_classAt yX8_classAt, Cond.code yX8_classAt cX8_classAt 4 (some .int)]
def wsX8_isWrong : List Cond := .code yX8_isWrong cX8_isWrong 3 (some .boolean) :: ((wsX8_isWrong_r1 ++ wsX8_isWrong_r2) ++ wsX80)
def wsX8_folds_r1 : List Cond := [Cond.fieldLink RX8 64 "AskTreeModel" "cases" "I", Cond.fieldLink RX8 27 "AskTreeModel" "in" "[Z", Cond.fieldLink RX8 111 "AskTreeModel" "making" "I", Cond.fieldLink RX8 24 "AskTreeModel" "many" "[I", Cond.methodLink RX8 140 yX8_areGrowing, Cond.static yX8_areGrowing, Cond.initialized RX8, Cond.code yX8_areGrowing cX8_areGrowing 2 (some .boolean), Cond.methodLink RX8 136 yX8_growNode, Cond.instanceMethod yX8_growNode, Cond.selects RX8 yX8_growNode yX8_growNode, Cond.code yX8_growNode cX8_growNode 9 (some .int), Cond.fieldLink RX8 105 "AskTreeModel" "foundMark" "I", Cond.fieldLink RX8 108 "AskTreeModel" "foundV" "I", Cond.fieldLink RX8 21 "AskTreeModel" "nodes" "[I", Cond.methodLink RX8 118 yX8_newNode, Cond.instanceMethod yX8_newNode, Cond.selects RX8 yX8_newNode yX8_newNode, Cond.code yX8_newNode cX8_newNode 5 (some .int), Cond.fieldLink RX8 43 "AskTreeModel" "heap" "[I", Cond.methodLink RX8 93 yX8_countRow, Cond.instanceMethod yX8_countRow, Cond.selects RX8 yX8_countRow yX8_countRow, Cond.code yX8_countRow cX8_countRow 3 none]
def wsX8_folds_r2 : List Cond := [Cond.fieldLink RX8 13 "AskTreeModel" "classes" "[I", Cond.methodLink RX8 114 yX8_place, Cond.instanceMethod yX8_place, Cond.selects RX8 yX8_place yX8_place, Cond.code yX8_place cX8_place 3 (some .int), Cond.methodLink RX8 121 yX8_wrongAt, Cond.instanceMethod yX8_wrongAt, Cond.selects RX8 yX8_wrongAt yX8_wrongAt, Cond.code yX8_wrongAt cX8_wrongAt 2 (some .int), Cond.methodLink RX8 75 yX8_countAt, Cond.instanceMethod yX8_countAt, Cond.selects RX8 yX8_countAt yX8_countAt, Cond.code yX8_countAt cX8_countAt 2 (some .int), Cond.methodLink RX8 79 yX8_classAt, Cond.instanceMethod yX8_classAt, Cond.selects RX8 yX8_classAt yX8_classAt, Cond.code yX8_classAt cX8_classAt 4 (some .int), Cond.methodLink RX8 124 yX8_findQuestion, Cond.instanceMethod yX8_findQuestion, Cond.selects RX8 yX8_findQuestion yX8_findQuestion, Cond.code yX8_findQuestion cX8_findQuestion 29 (some .boolean), Cond.fieldLink RX8 9 "AskTreeModel" "marks" "[I", Cond.fieldLink RX8 46 "AskTreeModel" "heapYes" "[I", Cond.methodLink RX8 97 yX8_squares]
def wsX8_folds_r3 : List Cond := [Cond.static yX8_squares, Cond.code yX8_squares cX8_squares 4 (some .long), Cond.methodLink RX8 101 yX8_countYes, Cond.instanceMethod yX8_countYes, Cond.selects RX8 yX8_countYes yX8_countYes, Cond.code yX8_countYes cX8_countYes 6 none, Cond.methodLink RX8 86 yX8_gapsYes, Cond.instanceMethod yX8_gapsYes, Cond.selects RX8 yX8_gapsYes yX8_gapsYes, Cond.code yX8_gapsYes cX8_gapsYes 8 (some .boolean), Cond.methodLink RX8 82 yX8_answers, Cond.instanceMethod yX8_answers, Cond.selects RX8 yX8_answers yX8_answers, Cond.code yX8_answers cX8_answers 4 (some .boolean), Cond.fieldLink RX8 16 "AskTreeModel" "isSort" "[Z", Cond.methodLink RX8 89 yX8_goesYes, Cond.instanceMethod yX8_goesYes, Cond.selects RX8 yX8_goesYes yX8_goesYes, Cond.code yX8_goesYes cX8_goesYes 6 (some .boolean), Cond.methodLink RX8 128 yX8_ask, Cond.instanceMethod yX8_ask, Cond.selects RX8 yX8_ask yX8_ask, Cond.code yX8_ask cX8_ask 6 none, Cond.methodLink RX8 132 yX8_lead]
def wsX8_folds_r4 : List Cond := [Cond.instanceMethod yX8_lead, Cond.selects RX8 yX8_lead yX8_lead, Cond.code yX8_lead cX8_lead 7 none, Cond.methodLink RX8 180 yX8_isWrong, Cond.instanceMethod yX8_isWrong, Cond.selects RX8 yX8_isWrong yX8_isWrong, Cond.code yX8_isWrong cX8_isWrong 3 (some .boolean), Cond.methodLink RX8 174 yX8_takeCase, Cond.instanceMethod yX8_takeCase, Cond.selects RX8 yX8_takeCase yX8_takeCase, Cond.code yX8_takeCase cX8_takeCase 3 none, Cond.fieldLink RX8 30 "AskTreeModel" "asked" "[I", Cond.methodLink RX8 177 yX8_leafOf, Cond.instanceMethod yX8_leafOf, Cond.selects RX8 yX8_leafOf yX8_leafOf, Cond.code yX8_leafOf cX8_leafOf 6 (some .int), Cond.methodLink RX8 153 yX8_isLeaf, Cond.instanceMethod yX8_isLeaf, Cond.selects RX8 yX8_isLeaf yX8_isLeaf, Cond.code yX8_isLeaf cX8_isLeaf 2 (some .boolean)]
def wsX8_folds : List Cond := .code yX8_folds cX8_folds 8 (some .int) :: ((wsX8_folds_r1 ++ (wsX8_folds_r2 ++ (wsX8_folds_r3 ++ wsX8_folds_r4))) ++ wsX80)
def wsX8_remove : List Cond := .code yX8_remove cX8_remove 1 (some .int) :: ([.fieldLink RX8 67 "AskTreeModel" "trees" "I"] ++ wsX80)
def wsX8_tree_r1 : List Cond := [Cond.fieldLink RX8 24 "AskTreeModel" "many" "[I", Cond.fieldLink RX8 21 "AskTreeModel" "nodes" "[I", Cond.fieldLink RX8 64 "AskTreeModel" "cases" "I", Cond.methodLink RX8 165 yX8_isTree, Cond.instanceMethod yX8_isTree, Cond.selects RX8 yX8_isTree yX8_isTree, Cond.initialized RX8, Cond.code yX8_isTree cX8_isTree 2 (some .boolean), Cond.fieldLink RX8 67 "AskTreeModel" "trees" "I", Cond.methodLink RX8 114 yX8_place, Cond.instanceMethod yX8_place, Cond.selects RX8 yX8_place yX8_place, Cond.code yX8_place cX8_place 3 (some .int), Cond.methodLink RX8 75 yX8_countAt, Cond.instanceMethod yX8_countAt, Cond.selects RX8 yX8_countAt yX8_countAt, Cond.code yX8_countAt cX8_countAt 2 (some .int), Cond.methodLink RX8 153 yX8_isLeaf, Cond.instanceMethod yX8_isLeaf, Cond.selects RX8 yX8_isLeaf yX8_isLeaf, Cond.code yX8_isLeaf cX8_isLeaf 2 (some .boolean), Cond.methodLink RX8 121 yX8_wrongAt, Cond.instanceMethod yX8_wrongAt, Cond.selects RX8 yX8_wrongAt yX8_wrongAt]
def wsX8_tree_r2 : List Cond := [Cond.code yX8_wrongAt cX8_wrongAt 2 (some .int), Cond.methodLink RX8 79 yX8_classAt, Cond.instanceMethod yX8_classAt, Cond.selects RX8 yX8_classAt yX8_classAt, Cond.code yX8_classAt cX8_classAt 4 (some .int), Cond.methodLink RX8 180 yX8_isWrong, Cond.instanceMethod yX8_isWrong, Cond.selects RX8 yX8_isWrong yX8_isWrong, Cond.code yX8_isWrong cX8_isWrong 3 (some .boolean), Cond.fieldLink RX8 13 "AskTreeModel" "classes" "[I", Cond.methodLink RX8 174 yX8_takeCase, Cond.instanceMethod yX8_takeCase, Cond.selects RX8 yX8_takeCase yX8_takeCase, Cond.code yX8_takeCase cX8_takeCase 3 none, Cond.fieldLink RX8 30 "AskTreeModel" "asked" "[I", Cond.fieldLink RX8 9 "AskTreeModel" "marks" "[I", Cond.methodLink RX8 177 yX8_leafOf, Cond.instanceMethod yX8_leafOf, Cond.selects RX8 yX8_leafOf yX8_leafOf, Cond.code yX8_leafOf cX8_leafOf 6 (some .int), Cond.methodLink RX8 82 yX8_answers, Cond.instanceMethod yX8_answers, Cond.selects RX8 yX8_answers yX8_answers, Cond.code yX8_answers cX8_answers 4 (some .boolean)]
def wsX8_tree_r3 : List Cond := [Cond.fieldLink RX8 16 "AskTreeModel" "isSort" "[Z"]
def wsX8_tree : List Cond := .code yX8_tree cX8_tree 6 (some .int) :: ((wsX8_tree_r1 ++ (wsX8_tree_r2 ++ wsX8_tree_r3)) ++ wsX80)
def wsX8_node : List Cond := .code yX8_node cX8_node 5 (some .int) :: ([.fieldLink RX8 24 "AskTreeModel" "many" "[I", .fieldLink RX8 21 "AskTreeModel" "nodes" "[I", .methodLink RX8 165 yX8_isTree, .instanceMethod yX8_isTree, .selects RX8 yX8_isTree yX8_isTree, .initialized RX8, .code yX8_isTree cX8_isTree 2 (some .boolean), .fieldLink RX8 67 "AskTreeModel" "trees" "I", .methodLink RX8 114 yX8_place, .instanceMethod yX8_place, .selects RX8 yX8_place yX8_place, .code yX8_place cX8_place 3 (some .int), .methodLink RX8 79 yX8_classAt, .instanceMethod yX8_classAt, .selects RX8 yX8_classAt yX8_classAt, .code yX8_classAt cX8_classAt 4 (some .int), .methodLink RX8 75 yX8_countAt, .instanceMethod yX8_countAt, .selects RX8 yX8_countAt yX8_countAt, .code yX8_countAt cX8_countAt 2 (some .int), .methodLink RX8 121 yX8_wrongAt, .instanceMethod yX8_wrongAt, .selects RX8 yX8_wrongAt yX8_wrongAt, .code yX8_wrongAt cX8_wrongAt 2 (some .int)] ++ wsX80)
def wsX8_share : List Cond := .code yX8_share cX8_share 4 (some .int) :: ([.fieldLink RX8 24 "AskTreeModel" "many" "[I", .fieldLink RX8 21 "AskTreeModel" "nodes" "[I", .methodLink RX8 165 yX8_isTree, .instanceMethod yX8_isTree, .selects RX8 yX8_isTree yX8_isTree, .initialized RX8, .code yX8_isTree cX8_isTree 2 (some .boolean), .fieldLink RX8 67 "AskTreeModel" "trees" "I", .methodLink RX8 114 yX8_place, .instanceMethod yX8_place, .selects RX8 yX8_place yX8_place, .code yX8_place cX8_place 3 (some .int)] ++ wsX80)
def wsX8_say_r1 : List Cond := [Cond.fieldLink RX8 36 "AskTreeModel" "saidLeaf" "I", Cond.methodLink RX8 165 yX8_isTree, Cond.instanceMethod yX8_isTree, Cond.selects RX8 yX8_isTree yX8_isTree, Cond.initialized RX8, Cond.code yX8_isTree cX8_isTree 2 (some .boolean), Cond.fieldLink RX8 67 "AskTreeModel" "trees" "I", Cond.methodLink RX8 70 yX8_take, Cond.instanceMethod yX8_take, Cond.selects RX8 yX8_take yX8_take, Cond.code yX8_take cX8_take 10 (some .boolean), Cond.fieldLink RX8 30 "AskTreeModel" "asked" "[I", Cond.methodLink RX8 177 yX8_leafOf, Cond.instanceMethod yX8_leafOf, Cond.selects RX8 yX8_leafOf yX8_leafOf, Cond.code yX8_leafOf cX8_leafOf 6 (some .int), Cond.fieldLink RX8 21 "AskTreeModel" "nodes" "[I", Cond.methodLink RX8 114 yX8_place, Cond.instanceMethod yX8_place, Cond.selects RX8 yX8_place yX8_place, Cond.code yX8_place cX8_place 3 (some .int), Cond.methodLink RX8 153 yX8_isLeaf, Cond.instanceMethod yX8_isLeaf, Cond.selects RX8 yX8_isLeaf yX8_isLeaf]
def wsX8_say_r2 : List Cond := [Cond.code yX8_isLeaf cX8_isLeaf 2 (some .boolean), Cond.methodLink RX8 82 yX8_answers, Cond.instanceMethod yX8_answers, Cond.selects RX8 yX8_answers yX8_answers, Cond.code yX8_answers cX8_answers 4 (some .boolean), Cond.fieldLink RX8 16 "AskTreeModel" "isSort" "[Z", Cond.methodLink RX8 79 yX8_classAt, Cond.instanceMethod yX8_classAt, Cond.selects RX8 yX8_classAt yX8_classAt, Cond.code yX8_classAt cX8_classAt 4 (some .int)]
def wsX8_say : List Cond := .code yX8_say cX8_say 6 (some .int) :: ((wsX8_say_r1 ++ wsX8_say_r2) ++ wsX80)
def wsX8_said : List Cond := .code yX8_said cX8_said 1 (some .int) :: ([.fieldLink RX8 36 "AskTreeModel" "saidLeaf" "I"] ++ wsX80)
def wsX8_vote_r1 : List Cond := [Cond.fieldLink RX8 67 "AskTreeModel" "trees" "I", Cond.fieldLink RX8 43 "AskTreeModel" "heap" "[I", Cond.fieldLink RX8 40 "AskTreeModel" "voices" "I", Cond.methodLink RX8 70 yX8_take, Cond.instanceMethod yX8_take, Cond.selects RX8 yX8_take yX8_take, Cond.initialized RX8, Cond.code yX8_take cX8_take 10 (some .boolean), Cond.fieldLink RX8 30 "AskTreeModel" "asked" "[I", Cond.methodLink RX8 177 yX8_leafOf, Cond.instanceMethod yX8_leafOf, Cond.selects RX8 yX8_leafOf yX8_leafOf, Cond.code yX8_leafOf cX8_leafOf 6 (some .int), Cond.fieldLink RX8 21 "AskTreeModel" "nodes" "[I", Cond.methodLink RX8 114 yX8_place, Cond.instanceMethod yX8_place, Cond.selects RX8 yX8_place yX8_place, Cond.code yX8_place cX8_place 3 (some .int), Cond.methodLink RX8 153 yX8_isLeaf, Cond.instanceMethod yX8_isLeaf, Cond.selects RX8 yX8_isLeaf yX8_isLeaf, Cond.code yX8_isLeaf cX8_isLeaf 2 (some .boolean), Cond.methodLink RX8 82 yX8_answers, Cond.instanceMethod yX8_answers]
def wsX8_vote_r2 : List Cond := [Cond.selects RX8 yX8_answers yX8_answers, Cond.code yX8_answers cX8_answers 4 (some .boolean), Cond.fieldLink RX8 16 "AskTreeModel" "isSort" "[Z", Cond.methodLink RX8 79 yX8_classAt, Cond.instanceMethod yX8_classAt, Cond.selects RX8 yX8_classAt yX8_classAt, Cond.code yX8_classAt cX8_classAt 4 (some .int)]
def wsX8_vote : List Cond := .code yX8_vote cX8_vote 7 (some .int) :: ((wsX8_vote_r1 ++ wsX8_vote_r2) ++ wsX80)
def wsX8_voices : List Cond := .code yX8_voices cX8_voices 1 (some .int) :: ([.fieldLink RX8 40 "AskTreeModel" "voices" "I"] ++ wsX80)
def wsX8_pathTo : List Cond := .code yX8_pathTo cX8_pathTo 7 (some .int) :: ([.fieldLink RX8 21 "AskTreeModel" "nodes" "[I", .fieldLink RX8 49 "AskTreeModel" "path" "[I", .methodLink RX8 114 yX8_place, .instanceMethod yX8_place, .selects RX8 yX8_place yX8_place, .initialized RX8, .code yX8_place cX8_place 3 (some .int)] ++ wsX80)
def wsX8_follows : List Cond := .code yX8_follows cX8_follows 9 (some .boolean) :: ([.fieldLink RX8 49 "AskTreeModel" "path" "[I", .fieldLink RX8 21 "AskTreeModel" "nodes" "[I", .methodLink RX8 183 yX8_pathTo, .instanceMethod yX8_pathTo, .selects RX8 yX8_pathTo yX8_pathTo, .initialized RX8, .code yX8_pathTo cX8_pathTo 7 (some .int), .methodLink RX8 114 yX8_place, .instanceMethod yX8_place, .selects RX8 yX8_place yX8_place, .code yX8_place cX8_place 3 (some .int), .methodLink RX8 82 yX8_answers, .instanceMethod yX8_answers, .selects RX8 yX8_answers yX8_answers, .code yX8_answers cX8_answers 4 (some .boolean), .fieldLink RX8 16 "AskTreeModel" "isSort" "[Z"] ++ wsX80)
def wsX8_isAbout : List Cond := .code yX8_isAbout cX8_isAbout 4 (some .boolean) :: ([.fieldLink RX8 21 "AskTreeModel" "nodes" "[I", .fieldLink RX8 49 "AskTreeModel" "path" "[I", .methodLink RX8 114 yX8_place, .instanceMethod yX8_place, .selects RX8 yX8_place yX8_place, .initialized RX8, .code yX8_place cX8_place 3 (some .int)] ++ wsX80)
def wsX8_numberAt : List Cond := .code yX8_numberAt cX8_numberAt 3 (some .int) :: ([.fieldLink RX8 21 "AskTreeModel" "nodes" "[I", .fieldLink RX8 49 "AskTreeModel" "path" "[I", .methodLink RX8 114 yX8_place, .instanceMethod yX8_place, .selects RX8 yX8_place yX8_place, .initialized RX8, .code yX8_place cX8_place 3 (some .int)] ++ wsX80)
def wsX8_mustBeYes : List Cond := .code yX8_mustBeYes cX8_mustBeYes 3 (some .boolean) :: ([.fieldLink RX8 21 "AskTreeModel" "nodes" "[I", .fieldLink RX8 49 "AskTreeModel" "path" "[I", .methodLink RX8 114 yX8_place, .instanceMethod yX8_place, .selects RX8 yX8_place yX8_place, .initialized RX8, .code yX8_place cX8_place 3 (some .int)] ++ wsX80)
def wsX8_askedOf_r1 : List Cond := [Cond.fieldLink RX8 16 "AskTreeModel" "isSort" "[Z", Cond.methodLink RX8 183 yX8_pathTo, Cond.instanceMethod yX8_pathTo, Cond.selects RX8 yX8_pathTo yX8_pathTo, Cond.initialized RX8, Cond.code yX8_pathTo cX8_pathTo 7 (some .int), Cond.fieldLink RX8 21 "AskTreeModel" "nodes" "[I", Cond.fieldLink RX8 49 "AskTreeModel" "path" "[I", Cond.methodLink RX8 114 yX8_place, Cond.instanceMethod yX8_place, Cond.selects RX8 yX8_place yX8_place, Cond.code yX8_place cX8_place 3 (some .int), Cond.methodLink RX8 186 yX8_isAbout, Cond.instanceMethod yX8_isAbout, Cond.selects RX8 yX8_isAbout yX8_isAbout, Cond.code yX8_isAbout cX8_isAbout 4 (some .boolean), Cond.methodLink RX8 189 yX8_numberAt, Cond.instanceMethod yX8_numberAt, Cond.selects RX8 yX8_numberAt yX8_numberAt, Cond.code yX8_numberAt cX8_numberAt 3 (some .int), Cond.methodLink RX8 192 yX8_mustBeYes, Cond.instanceMethod yX8_mustBeYes, Cond.selects RX8 yX8_mustBeYes yX8_mustBeYes, Cond.code yX8_mustBeYes cX8_mustBeYes 3 (some .boolean)]
def wsX8_askedOf_r2 : List Cond := [Cond.methodLink RX8 195 yX8_follows, Cond.instanceMethod yX8_follows, Cond.selects RX8 yX8_follows yX8_follows, Cond.code yX8_follows cX8_follows 9 (some .boolean), Cond.methodLink RX8 82 yX8_answers, Cond.instanceMethod yX8_answers, Cond.selects RX8 yX8_answers yX8_answers, Cond.code yX8_answers cX8_answers 4 (some .boolean)]
def wsX8_askedOf : List Cond := .code yX8_askedOf cX8_askedOf 15 (some .int) :: ((wsX8_askedOf_r1 ++ wsX8_askedOf_r2) ++ wsX80)
def wsX8_rule_r1 : List Cond := [Cond.fieldLink RX8 24 "AskTreeModel" "many" "[I", Cond.constant RX8 74 (-40000), Cond.methodLink RX8 165 yX8_isTree, Cond.instanceMethod yX8_isTree, Cond.selects RX8 yX8_isTree yX8_isTree, Cond.initialized RX8, Cond.code yX8_isTree cX8_isTree 2 (some .boolean), Cond.fieldLink RX8 67 "AskTreeModel" "trees" "I", Cond.methodLink RX8 114 yX8_place, Cond.instanceMethod yX8_place, Cond.selects RX8 yX8_place yX8_place, Cond.code yX8_place cX8_place 3 (some .int), Cond.methodLink RX8 153 yX8_isLeaf, Cond.instanceMethod yX8_isLeaf, Cond.selects RX8 yX8_isLeaf yX8_isLeaf, Cond.code yX8_isLeaf cX8_isLeaf 2 (some .boolean), Cond.fieldLink RX8 21 "AskTreeModel" "nodes" "[I", Cond.methodLink RX8 199 yX8_askedOf, Cond.instanceMethod yX8_askedOf, Cond.selects RX8 yX8_askedOf yX8_askedOf, Cond.code yX8_askedOf cX8_askedOf 15 (some .int), Cond.fieldLink RX8 16 "AskTreeModel" "isSort" "[Z", Cond.methodLink RX8 183 yX8_pathTo, Cond.instanceMethod yX8_pathTo]
def wsX8_rule_r2 : List Cond := [Cond.selects RX8 yX8_pathTo yX8_pathTo, Cond.code yX8_pathTo cX8_pathTo 7 (some .int), Cond.fieldLink RX8 49 "AskTreeModel" "path" "[I", Cond.methodLink RX8 186 yX8_isAbout, Cond.instanceMethod yX8_isAbout, Cond.selects RX8 yX8_isAbout yX8_isAbout, Cond.code yX8_isAbout cX8_isAbout 4 (some .boolean), Cond.methodLink RX8 189 yX8_numberAt, Cond.instanceMethod yX8_numberAt, Cond.selects RX8 yX8_numberAt yX8_numberAt, Cond.code yX8_numberAt cX8_numberAt 3 (some .int), Cond.methodLink RX8 192 yX8_mustBeYes, Cond.instanceMethod yX8_mustBeYes, Cond.selects RX8 yX8_mustBeYes yX8_mustBeYes, Cond.code yX8_mustBeYes cX8_mustBeYes 3 (some .boolean), Cond.methodLink RX8 195 yX8_follows, Cond.instanceMethod yX8_follows, Cond.selects RX8 yX8_follows yX8_follows, Cond.code yX8_follows cX8_follows 9 (some .boolean), Cond.methodLink RX8 82 yX8_answers, Cond.instanceMethod yX8_answers, Cond.selects RX8 yX8_answers yX8_answers, Cond.code yX8_answers cX8_answers 4 (some .boolean)]
def wsX8_rule : List Cond := .code yX8_rule cX8_rule 5 (some .int) :: ((wsX8_rule_r1 ++ wsX8_rule_r2) ++ wsX80)
def wsX8_becomes_r1 : List Cond := [Cond.fieldLink RX8 16 "AskTreeModel" "isSort" "[Z", Cond.methodLink RX8 195 yX8_follows, Cond.instanceMethod yX8_follows, Cond.selects RX8 yX8_follows yX8_follows, Cond.initialized RX8, Cond.code yX8_follows cX8_follows 9 (some .boolean), Cond.fieldLink RX8 49 "AskTreeModel" "path" "[I", Cond.fieldLink RX8 21 "AskTreeModel" "nodes" "[I", Cond.methodLink RX8 183 yX8_pathTo, Cond.instanceMethod yX8_pathTo, Cond.selects RX8 yX8_pathTo yX8_pathTo, Cond.code yX8_pathTo cX8_pathTo 7 (some .int), Cond.methodLink RX8 114 yX8_place, Cond.instanceMethod yX8_place, Cond.selects RX8 yX8_place yX8_place, Cond.code yX8_place cX8_place 3 (some .int), Cond.methodLink RX8 82 yX8_answers, Cond.instanceMethod yX8_answers, Cond.selects RX8 yX8_answers yX8_answers, Cond.code yX8_answers cX8_answers 4 (some .boolean), Cond.methodLink RX8 199 yX8_askedOf, Cond.instanceMethod yX8_askedOf, Cond.selects RX8 yX8_askedOf yX8_askedOf, Cond.code yX8_askedOf cX8_askedOf 15 (some .int)]
def wsX8_becomes_r2 : List Cond := [Cond.methodLink RX8 186 yX8_isAbout, Cond.instanceMethod yX8_isAbout, Cond.selects RX8 yX8_isAbout yX8_isAbout, Cond.code yX8_isAbout cX8_isAbout 4 (some .boolean), Cond.methodLink RX8 189 yX8_numberAt, Cond.instanceMethod yX8_numberAt, Cond.selects RX8 yX8_numberAt yX8_numberAt, Cond.code yX8_numberAt cX8_numberAt 3 (some .int), Cond.methodLink RX8 192 yX8_mustBeYes, Cond.instanceMethod yX8_mustBeYes, Cond.selects RX8 yX8_mustBeYes yX8_mustBeYes, Cond.code yX8_mustBeYes cX8_mustBeYes 3 (some .boolean)]
def wsX8_becomes : List Cond := .code yX8_becomes cX8_becomes 7 (some .int) :: ((wsX8_becomes_r1 ++ wsX8_becomes_r2) ++ wsX80)
def wsX8_near_r1 : List Cond := [Cond.fieldLink RX8 24 "AskTreeModel" "many" "[I", Cond.fieldLink RX8 30 "AskTreeModel" "asked" "[I", Cond.fieldLink RX8 16 "AskTreeModel" "isSort" "[Z", Cond.fieldLink RX8 33 "AskTreeModel" "turned" "[I", Cond.fieldLink RX8 205 "AskTreeModel" "hasTurned" "Z", Cond.methodLink RX8 165 yX8_isTree, Cond.instanceMethod yX8_isTree, Cond.selects RX8 yX8_isTree yX8_isTree, Cond.initialized RX8, Cond.code yX8_isTree cX8_isTree 2 (some .boolean), Cond.fieldLink RX8 67 "AskTreeModel" "trees" "I", Cond.methodLink RX8 70 yX8_take, Cond.instanceMethod yX8_take, Cond.selects RX8 yX8_take yX8_take, Cond.code yX8_take cX8_take 10 (some .boolean), Cond.methodLink RX8 177 yX8_leafOf, Cond.instanceMethod yX8_leafOf, Cond.selects RX8 yX8_leafOf yX8_leafOf, Cond.code yX8_leafOf cX8_leafOf 6 (some .int), Cond.fieldLink RX8 21 "AskTreeModel" "nodes" "[I", Cond.methodLink RX8 114 yX8_place, Cond.instanceMethod yX8_place, Cond.selects RX8 yX8_place yX8_place, Cond.code yX8_place cX8_place 3 (some .int)]
def wsX8_near_r2 : List Cond := [Cond.methodLink RX8 153 yX8_isLeaf, Cond.instanceMethod yX8_isLeaf, Cond.selects RX8 yX8_isLeaf yX8_isLeaf, Cond.code yX8_isLeaf cX8_isLeaf 2 (some .boolean), Cond.methodLink RX8 82 yX8_answers, Cond.instanceMethod yX8_answers, Cond.selects RX8 yX8_answers yX8_answers, Cond.code yX8_answers cX8_answers 4 (some .boolean), Cond.methodLink RX8 79 yX8_classAt, Cond.instanceMethod yX8_classAt, Cond.selects RX8 yX8_classAt yX8_classAt, Cond.code yX8_classAt cX8_classAt 4 (some .int), Cond.methodLink RX8 202 yX8_becomes, Cond.instanceMethod yX8_becomes, Cond.selects RX8 yX8_becomes yX8_becomes, Cond.code yX8_becomes cX8_becomes 7 (some .int), Cond.methodLink RX8 195 yX8_follows, Cond.instanceMethod yX8_follows, Cond.selects RX8 yX8_follows yX8_follows, Cond.code yX8_follows cX8_follows 9 (some .boolean), Cond.fieldLink RX8 49 "AskTreeModel" "path" "[I", Cond.methodLink RX8 183 yX8_pathTo, Cond.instanceMethod yX8_pathTo, Cond.selects RX8 yX8_pathTo yX8_pathTo]
def wsX8_near_r3 : List Cond := [Cond.code yX8_pathTo cX8_pathTo 7 (some .int), Cond.methodLink RX8 199 yX8_askedOf, Cond.instanceMethod yX8_askedOf, Cond.selects RX8 yX8_askedOf yX8_askedOf, Cond.code yX8_askedOf cX8_askedOf 15 (some .int), Cond.methodLink RX8 186 yX8_isAbout, Cond.instanceMethod yX8_isAbout, Cond.selects RX8 yX8_isAbout yX8_isAbout, Cond.code yX8_isAbout cX8_isAbout 4 (some .boolean), Cond.methodLink RX8 189 yX8_numberAt, Cond.instanceMethod yX8_numberAt, Cond.selects RX8 yX8_numberAt yX8_numberAt, Cond.code yX8_numberAt cX8_numberAt 3 (some .int), Cond.methodLink RX8 192 yX8_mustBeYes, Cond.instanceMethod yX8_mustBeYes, Cond.selects RX8 yX8_mustBeYes yX8_mustBeYes, Cond.code yX8_mustBeYes cX8_mustBeYes 3 (some .boolean)]
def wsX8_near : List Cond := .code yX8_near cX8_near 17 (some .int) :: ((wsX8_near_r1 ++ (wsX8_near_r2 ++ wsX8_near_r3)) ++ wsX80)
def wsX8_turned : List Cond := .code yX8_turned cX8_turned 2 (some .int) :: ([.fieldLink RX8 205 "AskTreeModel" "hasTurned" "Z", .fieldLink RX8 33 "AskTreeModel" "turned" "[I", .constant RX8 74 (-40000)] ++ wsX80)
def wsX8_count : List Cond := .code yX8_count cX8_count 2 (some .int) :: ([.fieldLink RX8 64 "AskTreeModel" "cases" "I", .fieldLink RX8 67 "AskTreeModel" "trees" "I"] ++ wsX80)
def wsJ9_abs_0f7a4 : List Cond := .code yJ9_abs_0f7a4 cJ9_abs_0f7a4 1 (some .int) :: ([])
def wsJ9_max_7cf53 : List Cond := .code yJ9_max_7cf53 cJ9_max_7cf53 2 (some .int) :: ([])
def wsJ9_min_7cf53 : List Cond := .code yJ9_min_7cf53 cJ9_min_7cf53 2 (some .int) :: ([])
def wsL_law_r1 : List Cond := [Cond.classLink RL 7 RX7, Cond.instantiable RX7 14, Cond.initialized RX7, Cond.classLink RL 10 RX8, Cond.instantiable RX8 23, Cond.initialized RX8, Cond.methodLink RL 9 yX7_init, Cond.instanceMethod yX7_init, Cond.code yX7_init cX7_init 1 none, Cond.methodLink RX7 3 objectInit, Cond.instanceMethod objectInit, Cond.code objectInit ⟨#[0xb1]⟩ 1 none, Cond.classLink RX7 9 RX0, Cond.instantiable RX0 5, Cond.initialized RX0, Cond.fieldLink RX7 12 "AskTree" "cases" "LAskTree$Cases;", Cond.classLink RX7 16 RX4, Cond.instantiable RX4 5, Cond.initialized RX4, Cond.fieldLink RX7 21 "AskTree" "rows" "LAskTree$Rows;", Cond.classLink RX7 25 RX2, Cond.instantiable RX2 12, Cond.initialized RX2, Cond.fieldLink RX7 30 "AskTree" "grower" "LAskTree$Grower;"]
def wsL_law_r2 : List Cond := [Cond.classLink RX7 34 RX1, Cond.instantiable RX1 12, Cond.initialized RX1, Cond.fieldLink RX7 37 "AskTree" "finder" "LAskTree$Finder;", Cond.classLink RX7 41 RX3, Cond.instantiable RX3 5, Cond.initialized RX3, Cond.fieldLink RX7 44 "AskTree" "pruner" "LAskTree$Pruner;", Cond.classLink RX7 48 RX5, Cond.instantiable RX5 7, Cond.initialized RX5, Cond.fieldLink RX7 50 "AskTree$Cases" "kinds" "[I", Cond.fieldLink RX7 57 "AskTree" "rules" "LAskTree$Rules;", Cond.classLink RX7 61 RX6, Cond.fieldLink RX7 63 "AskTree" "trees" "[LAskTree$Tree;", Cond.arrayClass .int, Cond.fieldLink RX7 67 "AskTree" "told" "[I", Cond.fieldLink RX7 70 "AskTree" "turnedMarks" "[I", Cond.fieldLink RX7 73 "AskTree" "ballots" "[I", Cond.fieldLink RX7 76 "AskTree" "treeCount" "I", Cond.fieldLink RX7 80 "AskTree" "lastLeaf" "I", Cond.fieldLink RX7 83 "AskTree" "lastVoices" "I", Cond.fieldLink RX7 86 "AskTree" "hasTurned" "Z", Cond.instanceMethod yX0_init]
def wsL_law_r3 : List Cond := [Cond.code yX0_init cX0_init 1 none, Cond.methodLink RX0 3 objectInit, Cond.fieldLink RX0 9 "AskTree$Cases" "kinds" "[I", Cond.fieldLink RX0 15 "AskTree$Cases" "classes" "[I", Cond.fieldLink RX0 18 "AskTree$Cases" "marks" "[I", Cond.fieldLink RX0 21 "AskTree$Cases" "order" "[I", Cond.fieldLink RX0 24 "AskTree$Cases" "size" "I", Cond.methodLink RX7 18 yX4_init, Cond.instanceMethod yX4_init, Cond.code yX4_init cX4_init 2 none, Cond.methodLink RX4 3 objectInit, Cond.fieldLink RX4 9 "AskTree$Rows" "row" "[I", Cond.fieldLink RX4 15 "AskTree$Rows" "sides" "[I", Cond.fieldLink RX4 18 "AskTree$Rows" "kept" "[I", Cond.fieldLink RX4 21 "AskTree$Rows" "size" "I", Cond.fieldLink RX4 25 "AskTree$Rows" "cases" "LAskTree$Cases;", Cond.methodLink RX7 27 yX2_init, Cond.instanceMethod yX2_init, Cond.code yX2_init cX2_init 3 none, Cond.methodLink RX2 3 objectInit, Cond.fieldLink RX2 9 "AskTree$Grower" "all" "[I", Cond.fieldLink RX2 15 "AskTree$Grower" "gaps" "[I", Cond.fieldLink RX2 18 "AskTree$Grower" "yes" "[I", Cond.fieldLink RX2 21 "AskTree$Grower" "cases" "LAskTree$Cases;"]
def wsL_law_r4 : List Cond := [Cond.fieldLink RX2 25 "AskTree$Grower" "rows" "LAskTree$Rows;", Cond.methodLink RX7 36 yX1_init, Cond.instanceMethod yX1_init, Cond.code yX1_init cX1_init 3 none, Cond.methodLink RX1 3 objectInit, Cond.fieldLink RX1 9 "AskTree$Finder" "all" "[I", Cond.fieldLink RX1 15 "AskTree$Finder" "yes" "[I", Cond.fieldLink RX1 18 "AskTree$Finder" "cases" "LAskTree$Cases;", Cond.fieldLink RX1 22 "AskTree$Finder" "rows" "LAskTree$Rows;", Cond.instanceMethod yX3_init, Cond.code yX3_init cX3_init 1 none, Cond.methodLink RX3 3 objectInit, Cond.fieldLink RX3 9 "AskTree$Pruner" "costs" "[I", Cond.fieldLink RX3 15 "AskTree$Pruner" "upper" "I", Cond.fieldLink RX3 19 "AskTree$Pruner" "lower" "I", Cond.methodLink RX7 54 yX5_init, Cond.instanceMethod yX5_init, Cond.code yX5_init cX5_init 2 none, Cond.methodLink RX5 3 objectInit, Cond.fieldLink RX5 9 "AskTree$Rules" "least" "[I", Cond.fieldLink RX5 15 "AskTree$Rules" "greatest" "[I", Cond.fieldLink RX5 18 "AskTree$Rules" "must" "[I", Cond.fieldLink RX5 21 "AskTree$Rules" "barredCount" "[I", Cond.fieldLink RX5 24 "AskTree$Rules" "barred" "[I"]
def wsL_law_r5 : List Cond := [Cond.arrayClass .boolean, Cond.fieldLink RX5 27 "AskTree$Rules" "clashes" "[Z", Cond.fieldLink RX5 31 "AskTree$Rules" "kinds" "[I", Cond.methodLink RL 12 yX8_init, Cond.instanceMethod yX8_init, Cond.code yX8_init cX8_init 1 none, Cond.methodLink RX8 1 objectInit, Cond.fieldLink RX8 9 "AskTreeModel" "marks" "[I", Cond.fieldLink RX8 13 "AskTreeModel" "classes" "[I", Cond.fieldLink RX8 16 "AskTreeModel" "isSort" "[Z", Cond.constant RX8 20 (134400), Cond.fieldLink RX8 21 "AskTreeModel" "nodes" "[I", Cond.fieldLink RX8 24 "AskTreeModel" "many" "[I", Cond.fieldLink RX8 27 "AskTreeModel" "in" "[Z", Cond.fieldLink RX8 30 "AskTreeModel" "asked" "[I", Cond.fieldLink RX8 33 "AskTreeModel" "turned" "[I", Cond.fieldLink RX8 36 "AskTreeModel" "saidLeaf" "I", Cond.fieldLink RX8 40 "AskTreeModel" "voices" "I", Cond.fieldLink RX8 43 "AskTreeModel" "heap" "[I", Cond.fieldLink RX8 46 "AskTreeModel" "heapYes" "[I", Cond.fieldLink RX8 49 "AskTreeModel" "path" "[I", Cond.fieldLink RX8 52 "AskTreeModel" "bestWrong" "[I", Cond.fieldLink RX8 55 "AskTreeModel" "bestAsked" "[I", Cond.fieldLink RX8 58 "AskTreeModel" "bestMark" "[I"]
def wsL_law_r6 : List Cond := [Cond.fieldLink RX8 61 "AskTreeModel" "bestV" "[I", Cond.methodLink RL 13 yX7_sort, Cond.instanceMethod yX7_sort, Cond.selects RX7 yX7_sort yX7_sort, Cond.code yX7_sort cX7_sort 4 (some .int), Cond.fieldLink RX7 94 "AskTree$Cases" "size" "I", Cond.methodLink RX7 90 yX7_isMark, Cond.static yX7_isMark, Cond.code yX7_isMark cX7_isMark 1 (some .boolean), Cond.methodLink RL 17 yX8_sort, Cond.instanceMethod yX8_sort, Cond.selects RX8 yX8_sort yX8_sort, Cond.code yX8_sort cX8_sort 4 (some .int), Cond.fieldLink RX8 64 "AskTreeModel" "cases" "I", Cond.fieldLink RX8 67 "AskTreeModel" "trees" "I", Cond.methodLink RL 18 yX7_add, Cond.instanceMethod yX7_add, Cond.selects RX7 yX7_add yX7_add, Cond.code yX7_add cX7_add 6 (some .int), Cond.methodLink RX7 97 yX7_isClass, Cond.static yX7_isClass, Cond.code yX7_isClass cX7_isClass 1 (some .boolean), Cond.methodLink RX7 100 yX7_readTold, Cond.instanceMethod yX7_readTold]
def wsL_law_r7 : List Cond := [Cond.selects RX7 yX7_readTold yX7_readTold, Cond.code yX7_readTold cX7_readTold 7 (some .boolean), Cond.methodLink RX7 254 yX7_readPair, Cond.instanceMethod yX7_readPair, Cond.selects RX7 yX7_readPair yX7_readPair, Cond.code yX7_readPair cX7_readPair 3 none, Cond.methodLink RX7 104 yX0_append, Cond.instanceMethod yX0_append, Cond.selects RX0 yX0_append yX0_append, Cond.code yX0_append cX0_append 4 none, Cond.methodLink RX0 28 yX0_putInOrder, Cond.instanceMethod yX0_putInOrder, Cond.selects RX0 yX0_putInOrder yX0_putInOrder, Cond.code yX0_putInOrder cX0_putInOrder 5 none, Cond.methodLink RX0 32 arraycopyName, Cond.native arraycopyName, Cond.static arraycopyName, Cond.initialized "java/lang/System", Cond.methodLink RL 22 yX8_add, Cond.instanceMethod yX8_add, Cond.selects RX8 yX8_add yX8_add, Cond.code yX8_add cX8_add 7 (some .int), Cond.methodLink RX8 70 yX8_take, Cond.instanceMethod yX8_take]
def wsL_law_r8 : List Cond := [Cond.selects RX8 yX8_take yX8_take, Cond.code yX8_take cX8_take 10 (some .boolean), Cond.methodLink RL 23 yX7_drop, Cond.instanceMethod yX7_drop, Cond.selects RX7 yX7_drop yX7_drop, Cond.code yX7_drop cX7_drop 2 (some .int), Cond.methodLink RX7 108 yX7_isCase, Cond.instanceMethod yX7_isCase, Cond.selects RX7 yX7_isCase yX7_isCase, Cond.code yX7_isCase cX7_isCase 2 (some .boolean), Cond.methodLink RX7 111 yX0_takeOut, Cond.instanceMethod yX0_takeOut, Cond.selects RX0 yX0_takeOut yX0_takeOut, Cond.code yX0_takeOut cX0_takeOut 4 none, Cond.methodLink RX0 38 yX0_takeOutOfOrder, Cond.instanceMethod yX0_takeOutOfOrder, Cond.selects RX0 yX0_takeOutOfOrder yX0_takeOutOfOrder, Cond.code yX0_takeOutOfOrder cX0_takeOutOfOrder 6 none, Cond.methodLink RL 27 yX8_drop, Cond.instanceMethod yX8_drop, Cond.selects RX8 yX8_drop yX8_drop, Cond.code yX8_drop cX8_drop 4 (some .int), Cond.methodLink RL 28 yX7_mark, Cond.instanceMethod yX7_mark]
def wsL_law_r9 : List Cond := [Cond.selects RX7 yX7_mark yX7_mark, Cond.code yX7_mark cX7_mark 3 (some .int), Cond.fieldLink RX7 115 "AskTree$Cases" "marks" "[I", Cond.constant RX7 118 (-40000), Cond.methodLink RL 31 yX8_mark, Cond.instanceMethod yX8_mark, Cond.selects RX8 yX8_mark yX8_mark, Cond.code yX8_mark cX8_mark 3 (some .int), Cond.constant RX8 74 (-40000), Cond.methodLink RL 32 yX7_cls, Cond.instanceMethod yX7_cls, Cond.selects RX7 yX7_cls yX7_cls, Cond.code yX7_cls cX7_cls 2 (some .int), Cond.fieldLink RX7 119 "AskTree$Cases" "classes" "[I", Cond.methodLink RL 35 yX8_cls, Cond.instanceMethod yX8_cls, Cond.selects RX8 yX8_cls yX8_cls, Cond.code yX8_cls cX8_cls 2 (some .int), Cond.methodLink RL 36 yX7_grow, Cond.instanceMethod yX7_grow, Cond.selects RX7 yX7_grow yX7_grow, Cond.code yX7_grow cX7_grow 3 (some .int), Cond.methodLink RX7 122 yX7_canGrow, Cond.static yX7_canGrow]
def wsL_law_r10 : List Cond := [Cond.code yX7_canGrow cX7_canGrow 2 (some .boolean), Cond.methodLink RX7 126 yX4_loadAll, Cond.instanceMethod yX4_loadAll, Cond.selects RX4 yX4_loadAll yX4_loadAll, Cond.code yX4_loadAll cX4_loadAll 1 none, Cond.fieldLink RX4 29 "AskTree$Cases" "order" "[I", Cond.methodLink RX4 34 arraycopyName, Cond.fieldLink RX4 40 "AskTree$Cases" "size" "I", Cond.methodLink RX7 129 yX7_placeFor, Cond.instanceMethod yX7_placeFor, Cond.selects RX7 yX7_placeFor yX7_placeFor, Cond.code yX7_placeFor cX7_placeFor 3 (some (.object "AskTree$Tree")), Cond.instantiable RX6 7, Cond.initialized RX6, Cond.fieldLink RX7 152 "AskTree$Tree" "size" "I", Cond.instanceMethod yX6_init, Cond.code yX6_init cX6_init 1 none, Cond.methodLink RX6 3 objectInit, Cond.fieldLink RX6 9 "AskTree$Tree" "asked" "[I", Cond.fieldLink RX6 15 "AskTree$Tree" "values" "[I", Cond.fieldLink RX6 18 "AskTree$Tree" "below" "[I", Cond.fieldLink RX6 21 "AskTree$Tree" "ways" "[I", Cond.fieldLink RX6 24 "AskTree$Tree" "above" "[I", Cond.fieldLink RX6 27 "AskTree$Tree" "shares" "[I"]
def wsL_law_r11 : List Cond := [Cond.fieldLink RX6 30 "AskTree$Tree" "size" "I", Cond.methodLink RX7 133 yX2_growInto, Cond.instanceMethod yX2_growInto, Cond.selects RX2 yX2_growInto yX2_growInto, Cond.code yX2_growInto cX2_growInto 4 none, Cond.methodLink RX2 29 Lib.Math.min.name, Cond.static Lib.Math.min.name, Cond.initialized "java/lang/Math", Cond.code Lib.Math.min.name Lib.Math.min.code 2 (some .int), Cond.fieldLink RX2 35 "AskTree$Grower" "depth" "I", Cond.fieldLink RX2 39 "AskTree$Grower" "least" "I", Cond.fieldLink RX2 42 "AskTree$Rows" "size" "I", Cond.methodLink RX2 47 yX2_branch, Cond.instanceMethod yX2_branch, Cond.selects RX2 yX2_branch yX2_branch, Cond.code yX2_branch cX2_branch 7 (some .int), Cond.fieldLink RX2 69 "AskTree$Grower" "mark" "I", Cond.fieldLink RX2 72 "AskTree$Grower" "value" "I", Cond.fieldLink RX2 75 "AskTree$Grower" "way" "I", Cond.fieldLink RX2 86 "AskTree$Tree" "below" "[I", Cond.methodLink RX2 51 yX4_tally, Cond.instanceMethod yX4_tally, Cond.selects RX4 yX4_tally yX4_tally, Cond.code yX4_tally cX4_tally 5 none]
def wsL_law_r12 : List Cond := [Cond.fieldLink RX4 52 "AskTree$Cases" "classes" "[I", Cond.static yX7_clear, Cond.code yX7_clear cX7_clear 2 none, Cond.methodLink RX4 55 yX4_caseAt, Cond.instanceMethod yX4_caseAt, Cond.selects RX4 yX4_caseAt yX4_caseAt, Cond.code yX4_caseAt cX4_caseAt 3 (some .int), Cond.methodLink RX2 55 yX6_open, Cond.instanceMethod yX6_open, Cond.selects RX6 yX6_open yX6_open, Cond.code yX6_open cX6_open 5 (some .int), Cond.methodLink RX6 41 arraycopyName, Cond.static yX7_firstGreatest, Cond.code yX7_firstGreatest cX7_firstGreatest 4 (some .int), Cond.methodLink RX2 65 yX2_seek, Cond.instanceMethod yX2_seek, Cond.selects RX2 yX2_seek yX2_seek, Cond.code yX2_seek cX2_seek 4 (some .boolean), Cond.methodLink RX2 89 yX4_isSame, Cond.instanceMethod yX4_isSame, Cond.selects RX4 yX4_isSame yX4_isSame, Cond.code yX4_isSame cX4_isSame 4 (some .boolean), Cond.methodLink RX4 44 yX4_markAt, Cond.instanceMethod yX4_markAt]
def wsL_law_r13 : List Cond := [Cond.selects RX4 yX4_markAt yX4_markAt, Cond.code yX4_markAt cX4_markAt 3 (some .int), Cond.fieldLink RX4 41 "AskTree$Cases" "marks" "[I", Cond.methodLink RX2 93 yX2_readGaps, Cond.instanceMethod yX2_readGaps, Cond.selects RX2 yX2_readGaps yX2_readGaps, Cond.code yX2_readGaps cX2_readGaps 5 (some .int), Cond.fieldLink RX2 108 "AskTree$Cases" "classes" "[I", Cond.methodLink RX2 105 yX4_markAt, Cond.methodLink RX2 113 yX4_caseAt, Cond.methodLink RX2 97 yX2_seekIn, Cond.instanceMethod yX2_seekIn, Cond.selects RX2 yX2_seekIn yX2_seekIn, Cond.code yX2_seekIn cX2_seekIn 9 none, Cond.fieldLink RX2 116 "AskTree$Cases" "kinds" "[I", Cond.methodLink RX2 119 yX2_weigh, Cond.instanceMethod yX2_weigh, Cond.selects RX2 yX2_weigh yX2_weigh, Cond.code yX2_weigh cX2_weigh 16 none, Cond.fieldLink RX2 122 "AskTree$Grower" "gainLower" "J", Cond.fieldLink RX2 126 "AskTree$Grower" "gainUpper" "J", Cond.methodLink RX2 78 yX6_ask, Cond.instanceMethod yX6_ask, Cond.selects RX6 yX6_ask yX6_ask]
def wsL_law_r14 : List Cond := [Cond.code yX6_ask cX6_ask 5 none, Cond.methodLink RX2 82 yX4_part, Cond.instanceMethod yX4_part, Cond.selects RX4 yX4_part yX4_part, Cond.code yX4_part cX4_part 9 (some .int), Cond.fieldLink RX4 58 "AskTree$Cases" "kinds" "[I", Cond.static yX7_isYes, Cond.code yX7_isYes cX7_isYes 4 (some .boolean), Cond.methodLink RX4 65 yX4_partRow, Cond.instanceMethod yX4_partRow, Cond.selects RX4 yX4_partRow yX4_partRow, Cond.code yX4_partRow cX4_partRow 7 (some .int), Cond.methodLink RL 39 yX8_grow, Cond.instanceMethod yX8_grow, Cond.selects RX8 yX8_grow yX8_grow, Cond.code yX8_grow cX8_grow 4 (some .int), Cond.fieldLink RX8 111 "AskTreeModel" "making" "I", Cond.methodLink RX8 140 yX8_areGrowing, Cond.static yX8_areGrowing, Cond.code yX8_areGrowing cX8_areGrowing 2 (some .boolean), Cond.methodLink RX8 136 yX8_growNode, Cond.instanceMethod yX8_growNode, Cond.selects RX8 yX8_growNode yX8_growNode, Cond.code yX8_growNode cX8_growNode 9 (some .int)]
def wsL_law_r15 : List Cond := [Cond.fieldLink RX8 105 "AskTreeModel" "foundMark" "I", Cond.fieldLink RX8 108 "AskTreeModel" "foundV" "I", Cond.methodLink RX8 118 yX8_newNode, Cond.instanceMethod yX8_newNode, Cond.selects RX8 yX8_newNode yX8_newNode, Cond.code yX8_newNode cX8_newNode 5 (some .int), Cond.methodLink RX8 93 yX8_countRow, Cond.instanceMethod yX8_countRow, Cond.selects RX8 yX8_countRow yX8_countRow, Cond.code yX8_countRow cX8_countRow 3 none, Cond.methodLink RX8 114 yX8_place, Cond.instanceMethod yX8_place, Cond.selects RX8 yX8_place yX8_place, Cond.code yX8_place cX8_place 3 (some .int), Cond.methodLink RX8 121 yX8_wrongAt, Cond.instanceMethod yX8_wrongAt, Cond.selects RX8 yX8_wrongAt yX8_wrongAt, Cond.code yX8_wrongAt cX8_wrongAt 2 (some .int), Cond.methodLink RX8 75 yX8_countAt, Cond.instanceMethod yX8_countAt, Cond.selects RX8 yX8_countAt yX8_countAt, Cond.code yX8_countAt cX8_countAt 2 (some .int), Cond.methodLink RX8 79 yX8_classAt, Cond.instanceMethod yX8_classAt]
def wsL_law_r16 : List Cond := [Cond.selects RX8 yX8_classAt yX8_classAt, Cond.code yX8_classAt cX8_classAt 4 (some .int), Cond.methodLink RX8 124 yX8_findQuestion, Cond.instanceMethod yX8_findQuestion, Cond.selects RX8 yX8_findQuestion yX8_findQuestion, Cond.code yX8_findQuestion cX8_findQuestion 29 (some .boolean), Cond.methodLink RX8 97 yX8_squares, Cond.static yX8_squares, Cond.code yX8_squares cX8_squares 4 (some .long), Cond.methodLink RX8 101 yX8_countYes, Cond.instanceMethod yX8_countYes, Cond.selects RX8 yX8_countYes yX8_countYes, Cond.code yX8_countYes cX8_countYes 6 none, Cond.methodLink RX8 86 yX8_gapsYes, Cond.instanceMethod yX8_gapsYes, Cond.selects RX8 yX8_gapsYes yX8_gapsYes, Cond.code yX8_gapsYes cX8_gapsYes 8 (some .boolean), Cond.methodLink RX8 82 yX8_answers, Cond.instanceMethod yX8_answers, Cond.selects RX8 yX8_answers yX8_answers, Cond.code yX8_answers cX8_answers 4 (some .boolean), Cond.methodLink RX8 89 yX8_goesYes, Cond.instanceMethod yX8_goesYes, Cond.selects RX8 yX8_goesYes yX8_goesYes]
def wsL_law_r17 : List Cond := [Cond.code yX8_goesYes cX8_goesYes 6 (some .boolean), Cond.methodLink RX8 128 yX8_ask, Cond.instanceMethod yX8_ask, Cond.selects RX8 yX8_ask yX8_ask, Cond.code yX8_ask cX8_ask 6 none, Cond.methodLink RX8 132 yX8_lead, Cond.instanceMethod yX8_lead, Cond.selects RX8 yX8_lead yX8_lead, Cond.code yX8_lead cX8_lead 7 none, Cond.methodLink RL 40 yX7_best, Cond.instanceMethod yX7_best, Cond.selects RX7 yX7_best yX7_best, Cond.code yX7_best cX7_best 2 (some .int), Cond.methodLink RX7 137 yX0_haveGaps, Cond.instanceMethod yX0_haveGaps, Cond.selects RX0 yX0_haveGaps yX0_haveGaps, Cond.code yX0_haveGaps cX0_haveGaps 2 (some .boolean), Cond.methodLink RX7 141 yX1_findInto, Cond.instanceMethod yX1_findInto, Cond.selects RX1 yX1_findInto yX1_findInto, Cond.code yX1_findInto cX1_findInto 3 none, Cond.fieldLink RX1 26 "AskTree$Rows" "size" "I", Cond.methodLink RX1 32 yX1_build, Cond.instanceMethod yX1_build]
def wsL_law_r18 : List Cond := [Cond.selects RX1 yX1_build yX1_build, Cond.code yX1_build cX1_build 11 (some .int), Cond.fieldLink RX1 50 "AskTree$Finder" "topWrong" "I", Cond.fieldLink RX1 57 "AskTree$Finder" "topMark" "I", Cond.fieldLink RX1 60 "AskTree$Finder" "topValue" "I", Cond.fieldLink RX1 71 "AskTree$Tree" "below" "[I", Cond.methodLink RX1 36 yX4_tally, Cond.methodLink RX1 40 yX6_open, Cond.methodLink RX1 46 yX1_takeOne, Cond.instanceMethod yX1_takeOne, Cond.selects RX1 yX1_takeOne yX1_takeOne, Cond.code yX1_takeOne cX1_takeOne 3 none, Cond.fieldLink RX1 80 "AskTree$Finder" "oneMark" "I", Cond.fieldLink RX1 83 "AskTree$Finder" "oneValue" "I", Cond.fieldLink RX1 86 "AskTree$Finder" "oneWrong" "I", Cond.fieldLink RX1 89 "AskTree$Finder" "topAsks" "I", Cond.methodLink RX1 74 yX4_setSides, Cond.instanceMethod yX4_setSides, Cond.selects RX4 yX4_setSides yX4_setSides, Cond.code yX4_setSides cX4_setSides 6 none, Cond.methodLink RX1 77 yX1_seekOne, Cond.instanceMethod yX1_seekOne, Cond.selects RX1 yX1_seekOne yX1_seekOne, Cond.code yX1_seekOne cX1_seekOne 6 none]
def wsL_law_r19 : List Cond := [Cond.fieldLink RX1 118 "AskTree$Finder" "oneTotal" "I", Cond.fieldLink RX1 108 "AskTree$Rows" "sides" "[I", Cond.fieldLink RX1 121 "AskTree$Cases" "classes" "[I", Cond.methodLink RX1 111 yX4_caseAt, Cond.methodLink RX1 92 yX4_isSame, Cond.methodLink RX1 128 yX1_seekOneIn, Cond.instanceMethod yX1_seekOneIn, Cond.selects RX1 yX1_seekOneIn yX1_seekOneIn, Cond.code yX1_seekOneIn cX1_seekOneIn 11 none, Cond.fieldLink RX1 96 "AskTree$Cases" "kinds" "[I", Cond.fieldLink RX1 131 "AskTree$Cases" "marks" "[I", Cond.methodLink RX1 134 yX1_judgeOne, Cond.instanceMethod yX1_judgeOne, Cond.selects RX1 yX1_judgeOne yX1_judgeOne, Cond.code yX1_judgeOne cX1_judgeOne 8 none, Cond.methodLink RX1 53 yX1_seekTop, Cond.instanceMethod yX1_seekTop, Cond.selects RX1 yX1_seekTop yX1_seekTop, Cond.code yX1_seekTop cX1_seekTop 8 none, Cond.methodLink RX1 101 yX4_markAt, Cond.methodLink RX1 105 yX1_judgeTop, Cond.instanceMethod yX1_judgeTop, Cond.selects RX1 yX1_judgeTop yX1_judgeTop, Cond.code yX1_judgeTop cX1_judgeTop 7 none]
def wsL_law_r20 : List Cond := [Cond.methodLink RX1 63 yX4_part, Cond.methodLink RX1 67 yX6_ask, Cond.methodLink RL 43 yX8_best, Cond.instanceMethod yX8_best, Cond.selects RX8 yX8_best yX8_best, Cond.code yX8_best cX8_best 3 (some .int), Cond.methodLink RX8 150 yX8_bestNode, Cond.instanceMethod yX8_bestNode, Cond.selects RX8 yX8_bestNode yX8_bestNode, Cond.code yX8_bestNode cX8_bestNode 7 (some .int), Cond.methodLink RX8 146 yX8_search, Cond.instanceMethod yX8_search, Cond.selects RX8 yX8_search yX8_search, Cond.code yX8_search cX8_search 15 none, Cond.methodLink RX8 143 yX8_countNext, Cond.instanceMethod yX8_countNext, Cond.selects RX8 yX8_countNext yX8_countNext, Cond.code yX8_countNext cX8_countNext 4 (some .int), Cond.methodLink RL 44 yX7_cut, Cond.instanceMethod yX7_cut, Cond.selects RX7 yX7_cut yX7_cut, Cond.code yX7_cut cX7_cut 5 (some .int), Cond.methodLink RX7 145 yX7_treeAt, Cond.instanceMethod yX7_treeAt]
def wsL_law_r21 : List Cond := [Cond.selects RX7 yX7_treeAt yX7_treeAt, Cond.code yX7_treeAt cX7_treeAt 2 (some (.object "AskTree$Tree")), Cond.methodLink RX7 148 yX3_cutInto, Cond.instanceMethod yX3_cutInto, Cond.selects RX3 yX3_cutInto yX3_cutInto, Cond.code yX3_cutInto cX3_cutInto 6 none, Cond.fieldLink RX3 22 "AskTree$Pruner" "leafPrice" "I", Cond.fieldLink RX3 25 "AskTree$Pruner" "wrongPrice" "I", Cond.fieldLink RX3 28 "AskTree$Tree" "size" "I", Cond.fieldLink RX3 41 "AskTree$Tree" "below" "[I", Cond.methodLink RX3 44 Lib.Math.min.name, Cond.methodLink RX3 33 yX3_leafCost, Cond.instanceMethod yX3_leafCost, Cond.selects RX3 yX3_leafCost yX3_leafCost, Cond.code yX3_leafCost cX3_leafCost 3 (some .int), Cond.methodLink RX3 54 yX6_misses, Cond.instanceMethod yX6_misses, Cond.selects RX6 yX6_misses yX6_misses, Cond.code yX6_misses cX6_misses 2 (some .int), Cond.methodLink RX6 51 yX6_total, Cond.instanceMethod yX6_total, Cond.selects RX6 yX6_total yX6_total, Cond.code yX6_total cX6_total 3 (some .int), Cond.methodLink RX6 55 yX6_verdict]
def wsL_law_r22 : List Cond := [Cond.instanceMethod yX6_verdict, Cond.selects RX6 yX6_verdict yX6_verdict, Cond.code yX6_verdict cX6_verdict 2 (some .int), Cond.methodLink RX3 37 yX6_isLeaf, Cond.instanceMethod yX6_isLeaf, Cond.selects RX6 yX6_isLeaf yX6_isLeaf, Cond.code yX6_isLeaf cX6_isLeaf 2 (some .boolean), Cond.methodLink RX6 34 yX6_has, Cond.instanceMethod yX6_has, Cond.selects RX6 yX6_has yX6_has, Cond.code yX6_has cX6_has 2 (some .boolean), Cond.methodLink RX3 50 yX3_copy, Cond.instanceMethod yX3_copy, Cond.selects RX3 yX3_copy yX3_copy, Cond.code yX3_copy cX3_copy 7 (some .int), Cond.fieldLink RX3 58 "AskTree$Tree" "shares" "[I", Cond.fieldLink RX3 65 "AskTree$Tree" "asked" "[I", Cond.fieldLink RX3 68 "AskTree$Tree" "values" "[I", Cond.fieldLink RX3 71 "AskTree$Tree" "ways" "[I", Cond.methodLink RX3 61 yX6_open, Cond.methodLink RX3 74 yX6_ask, Cond.methodLink RL 48 yX8_cut, Cond.instanceMethod yX8_cut, Cond.selects RX8 yX8_cut yX8_cut]
def wsL_law_r23 : List Cond := [Cond.code yX8_cut cX8_cut 5 (some .int), Cond.methodLink RX8 165 yX8_isTree, Cond.instanceMethod yX8_isTree, Cond.selects RX8 yX8_isTree yX8_isTree, Cond.code yX8_isTree cX8_isTree 2 (some .boolean), Cond.methodLink RX8 161 yX8_cutNode, Cond.instanceMethod yX8_cutNode, Cond.selects RX8 yX8_cutNode yX8_cutNode, Cond.code yX8_cutNode cX8_cutNode 9 (some .int), Cond.methodLink RX8 153 yX8_isLeaf, Cond.instanceMethod yX8_isLeaf, Cond.selects RX8 yX8_isLeaf yX8_isLeaf, Cond.code yX8_isLeaf cX8_isLeaf 2 (some .boolean), Cond.methodLink RX8 157 yX8_costOf, Cond.instanceMethod yX8_costOf, Cond.selects RX8 yX8_costOf yX8_costOf, Cond.code yX8_costOf cX8_costOf 10 (some .long), Cond.methodLink RL 49 yX7_price, Cond.instanceMethod yX7_price, Cond.selects RX7 yX7_price yX7_price, Cond.code yX7_price cX7_price 4 (some .int), Cond.fieldLink RX7 157 "AskTree$Pruner" "upper" "I", Cond.fieldLink RX7 160 "AskTree$Pruner" "lower" "I", Cond.methodLink RX7 153 yX3_findPrice]
def wsL_law_r24 : List Cond := [Cond.instanceMethod yX3_findPrice, Cond.selects RX3 yX3_findPrice yX3_findPrice, Cond.code yX3_findPrice cX3_findPrice 3 none, Cond.methodLink RX3 78 yX3_weighNode, Cond.instanceMethod yX3_weighNode, Cond.selects RX3 yX3_weighNode yX3_weighNode, Cond.code yX3_weighNode cX3_weighNode 6 none, Cond.fieldLink RX3 85 "AskTree$Tree" "above" "[I", Cond.methodLink RX3 82 yX3_commonDivisor, Cond.static yX3_commonDivisor, Cond.code yX3_commonDivisor cX3_commonDivisor 4 (some .int), Cond.methodLink RL 52 yX8_price, Cond.instanceMethod yX8_price, Cond.selects RX8 yX8_price yX8_price, Cond.code yX8_price cX8_price 9 (some .int), Cond.methodLink RX8 171 yX8_wrongBelow, Cond.instanceMethod yX8_wrongBelow, Cond.selects RX8 yX8_wrongBelow yX8_wrongBelow, Cond.code yX8_wrongBelow cX8_wrongBelow 4 (some .int), Cond.methodLink RX8 168 yX8_leavesBelow, Cond.instanceMethod yX8_leavesBelow, Cond.selects RX8 yX8_leavesBelow yX8_leavesBelow, Cond.code yX8_leavesBelow cX8_leavesBelow 4 (some .int), Cond.methodLink RL 53 yX7_folds]
def wsL_law_r25 : List Cond := [Cond.instanceMethod yX7_folds, Cond.selects RX7 yX7_folds yX7_folds, Cond.code yX7_folds cX7_folds 8 (some .int), Cond.methodLink RX7 163 yX4_loadWithout, Cond.instanceMethod yX4_loadWithout, Cond.selects RX4 yX4_loadWithout yX4_loadWithout, Cond.code yX4_loadWithout cX4_loadWithout 7 none, Cond.methodLink RX7 167 yX7_missed, Cond.instanceMethod yX7_missed, Cond.selects RX7 yX7_missed yX7_missed, Cond.code yX7_missed cX7_missed 4 (some .int), Cond.methodLink RX7 219 yX6_leafFor, Cond.instanceMethod yX6_leafFor, Cond.selects RX6 yX6_leafFor yX6_leafFor, Cond.code yX6_leafFor cX6_leafFor 8 (some .int), Cond.methodLink RX6 64 yX6_isLeaf, Cond.methodLink RX7 204 yX6_verdict, Cond.methodLink RL 56 yX8_folds, Cond.instanceMethod yX8_folds, Cond.selects RX8 yX8_folds yX8_folds, Cond.code yX8_folds cX8_folds 8 (some .int), Cond.methodLink RX8 180 yX8_isWrong, Cond.instanceMethod yX8_isWrong, Cond.selects RX8 yX8_isWrong yX8_isWrong]
def wsL_law_r26 : List Cond := [Cond.code yX8_isWrong cX8_isWrong 3 (some .boolean), Cond.methodLink RX8 174 yX8_takeCase, Cond.instanceMethod yX8_takeCase, Cond.selects RX8 yX8_takeCase yX8_takeCase, Cond.code yX8_takeCase cX8_takeCase 3 none, Cond.methodLink RX8 177 yX8_leafOf, Cond.instanceMethod yX8_leafOf, Cond.selects RX8 yX8_leafOf yX8_leafOf, Cond.code yX8_leafOf cX8_leafOf 6 (some .int), Cond.methodLink RL 57 yX7_remove, Cond.instanceMethod yX7_remove, Cond.selects RX7 yX7_remove yX7_remove, Cond.code yX7_remove cX7_remove 1 (some .int), Cond.methodLink RL 61 yX8_remove, Cond.instanceMethod yX8_remove, Cond.selects RX8 yX8_remove yX8_remove, Cond.code yX8_remove cX8_remove 1 (some .int), Cond.methodLink RL 62 yX7_tree, Cond.instanceMethod yX7_tree, Cond.selects RX7 yX7_tree yX7_tree, Cond.code yX7_tree cX7_tree 4 (some .int), Cond.methodLink RX7 171 yX6_leaves, Cond.instanceMethod yX6_leaves, Cond.selects RX6 yX6_leaves yX6_leaves]
def wsL_law_r27 : List Cond := [Cond.code yX6_leaves cX6_leaves 1 (some .int), Cond.methodLink RX7 175 yX6_deepest, Cond.instanceMethod yX6_deepest, Cond.selects RX6 yX6_deepest yX6_deepest, Cond.code yX6_deepest cX6_deepest 3 (some .int), Cond.methodLink RX6 58 Lib.Math.max.name, Cond.static Lib.Math.max.name, Cond.code Lib.Math.max.name Lib.Math.max.code 2 (some .int), Cond.methodLink RX7 178 yX6_allMisses, Cond.instanceMethod yX6_allMisses, Cond.selects RX6 yX6_allMisses yX6_allMisses, Cond.code yX6_allMisses cX6_allMisses 3 (some .int), Cond.methodLink RX6 67 yX6_misses, Cond.methodLink RX7 181 yX6_total, Cond.methodLink RX7 185 yX7_missesNow, Cond.instanceMethod yX7_missesNow, Cond.selects RX7 yX7_missesNow yX7_missesNow, Cond.code yX7_missesNow cX7_missesNow 4 (some .int), Cond.methodLink RL 65 yX8_tree, Cond.instanceMethod yX8_tree, Cond.selects RX8 yX8_tree yX8_tree, Cond.code yX8_tree cX8_tree 6 (some .int), Cond.methodLink RL 66 yX7_node, Cond.instanceMethod yX7_node]
def wsL_law_r28 : List Cond := [Cond.selects RX7 yX7_node yX7_node, Cond.code yX7_node cX7_node 6 (some .int), Cond.fieldLink RX7 195 "AskTree$Tree" "asked" "[I", Cond.fieldLink RX7 198 "AskTree$Tree" "values" "[I", Cond.fieldLink RX7 201 "AskTree$Tree" "below" "[I", Cond.fieldLink RX7 210 "AskTree$Tree" "above" "[I", Cond.fieldLink RX7 213 "AskTree$Tree" "ways" "[I", Cond.methodLink RX7 189 yX6_has, Cond.methodLink RX7 192 yX6_isLeaf, Cond.methodLink RX7 207 yX6_misses, Cond.methodLink RL 69 yX8_node, Cond.instanceMethod yX8_node, Cond.selects RX8 yX8_node yX8_node, Cond.code yX8_node cX8_node 5 (some .int), Cond.methodLink RL 70 yX7_share, Cond.instanceMethod yX7_share, Cond.selects RX7 yX7_share yX7_share, Cond.code yX7_share cX7_share 5 (some .int), Cond.fieldLink RX7 216 "AskTree$Tree" "shares" "[I", Cond.methodLink RL 73 yX8_share, Cond.instanceMethod yX8_share, Cond.selects RX8 yX8_share yX8_share, Cond.code yX8_share cX8_share 4 (some .int), Cond.methodLink RL 74 yX7_say]
def wsL_law_r29 : List Cond := [Cond.instanceMethod yX7_say, Cond.selects RX7 yX7_say yX7_say, Cond.code yX7_say cX7_say 7 (some .int), Cond.methodLink RL 77 yX8_say, Cond.instanceMethod yX8_say, Cond.selects RX8 yX8_say yX8_say, Cond.code yX8_say cX8_say 6 (some .int), Cond.methodLink RL 78 yX7_said, Cond.instanceMethod yX7_said, Cond.selects RX7 yX7_said yX7_said, Cond.code yX7_said cX7_said 1 (some .int), Cond.methodLink RL 81 yX8_said, Cond.instanceMethod yX8_said, Cond.selects RX8 yX8_said yX8_said, Cond.code yX8_said cX8_said 1 (some .int), Cond.methodLink RL 82 yX7_vote, Cond.instanceMethod yX7_vote, Cond.selects RX7 yX7_vote yX7_vote, Cond.code yX7_vote cX7_vote 7 (some .int), Cond.methodLink RX7 223 yX7_clear, Cond.methodLink RX7 226 yX7_firstGreatest, Cond.methodLink RL 86 yX8_vote, Cond.instanceMethod yX8_vote, Cond.selects RX8 yX8_vote yX8_vote]
def wsL_law_r30 : List Cond := [Cond.code yX8_vote cX8_vote 7 (some .int), Cond.methodLink RL 87 yX7_voices, Cond.instanceMethod yX7_voices, Cond.selects RX7 yX7_voices yX7_voices, Cond.code yX7_voices cX7_voices 1 (some .int), Cond.methodLink RL 90 yX8_voices, Cond.instanceMethod yX8_voices, Cond.selects RX8 yX8_voices yX8_voices, Cond.code yX8_voices cX8_voices 1 (some .int), Cond.methodLink RL 91 yX7_rule, Cond.instanceMethod yX7_rule, Cond.selects RX7 yX7_rule yX7_rule, Cond.code yX7_rule cX7_rule 6 (some .int), Cond.methodLink RX7 230 yX5_readFor, Cond.instanceMethod yX5_readFor, Cond.selects RX5 yX5_readFor yX5_readFor, Cond.code yX5_readFor cX5_readFor 6 none, Cond.fieldLink RX5 40 "AskTree$Tree" "below" "[I", Cond.fieldLink RX5 43 "AskTree$Tree" "asked" "[I", Cond.fieldLink RX5 46 "AskTree$Tree" "values" "[I", Cond.methodLink RX5 34 yX6_isLeaf, Cond.methodLink RX5 49 yX5_note, Cond.instanceMethod yX5_note, Cond.selects RX5 yX5_note yX5_note]
def wsL_law_r31 : List Cond := [Cond.code yX5_note cX5_note 4 none, Cond.methodLink RX5 56 Lib.Math.min.name, Cond.methodLink RX5 62 Lib.Math.max.name, Cond.methodLink RX5 53 yX5_noteSort, Cond.instanceMethod yX5_noteSort, Cond.selects RX5 yX5_noteSort yX5_noteSort, Cond.code yX5_noteSort cX5_noteSort 4 none, Cond.methodLink RX5 65 yX5_isBarred, Cond.instanceMethod yX5_isBarred, Cond.selects RX5 yX5_isBarred yX5_isBarred, Cond.code yX5_isBarred cX5_isBarred 4 (some .boolean), Cond.methodLink RX7 233 yX5_first, Cond.instanceMethod yX5_first, Cond.selects RX5 yX5_first yX5_first, Cond.code yX5_first cX5_first 2 (some .int), Cond.methodLink RX5 69 yX5_canFollow, Cond.instanceMethod yX5_canFollow, Cond.selects RX5 yX5_canFollow yX5_canFollow, Cond.code yX5_canFollow cX5_canFollow 2 (some .boolean), Cond.methodLink RX7 236 yX5_second, Cond.instanceMethod yX5_second, Cond.selects RX5 yX5_second yX5_second, Cond.code yX5_second cX5_second 2 (some .int), Cond.methodLink RL 94 yX8_rule]
def wsL_law_r32 : List Cond := [Cond.instanceMethod yX8_rule, Cond.selects RX8 yX8_rule yX8_rule, Cond.code yX8_rule cX8_rule 5 (some .int), Cond.methodLink RX8 199 yX8_askedOf, Cond.instanceMethod yX8_askedOf, Cond.selects RX8 yX8_askedOf yX8_askedOf, Cond.code yX8_askedOf cX8_askedOf 15 (some .int), Cond.methodLink RX8 183 yX8_pathTo, Cond.instanceMethod yX8_pathTo, Cond.selects RX8 yX8_pathTo yX8_pathTo, Cond.code yX8_pathTo cX8_pathTo 7 (some .int), Cond.methodLink RX8 186 yX8_isAbout, Cond.instanceMethod yX8_isAbout, Cond.selects RX8 yX8_isAbout yX8_isAbout, Cond.code yX8_isAbout cX8_isAbout 4 (some .boolean), Cond.methodLink RX8 189 yX8_numberAt, Cond.instanceMethod yX8_numberAt, Cond.selects RX8 yX8_numberAt yX8_numberAt, Cond.code yX8_numberAt cX8_numberAt 3 (some .int), Cond.methodLink RX8 192 yX8_mustBeYes, Cond.instanceMethod yX8_mustBeYes, Cond.selects RX8 yX8_mustBeYes yX8_mustBeYes, Cond.code yX8_mustBeYes cX8_mustBeYes 3 (some .boolean), Cond.methodLink RX8 195 yX8_follows]
def wsL_law_r33 : List Cond := [Cond.instanceMethod yX8_follows, Cond.selects RX8 yX8_follows yX8_follows, Cond.code yX8_follows cX8_follows 9 (some .boolean), Cond.methodLink RL 95 yX7_near, Cond.instanceMethod yX7_near, Cond.selects RX7 yX7_near yX7_near, Cond.code yX7_near cX7_near 8 (some .int), Cond.methodLink RX7 239 yX7_toldHasGap, Cond.instanceMethod yX7_toldHasGap, Cond.selects RX7 yX7_toldHasGap yX7_toldHasGap, Cond.code yX7_toldHasGap cX7_toldHasGap 2 (some .boolean), Cond.methodLink RX7 242 yX7_nearestOtherLeaf, Cond.instanceMethod yX7_nearestOtherLeaf, Cond.selects RX7 yX7_nearestOtherLeaf yX7_nearestOtherLeaf, Cond.code yX7_nearestOtherLeaf cX7_nearestOtherLeaf 9 (some .int), Cond.methodLink RX7 257 yX5_canAllFollow, Cond.instanceMethod yX5_canAllFollow, Cond.selects RX5 yX5_canAllFollow yX5_canAllFollow, Cond.code yX5_canAllFollow cX5_canAllFollow 2 (some .boolean), Cond.methodLink RX7 249 yX5_offCount, Cond.instanceMethod yX5_offCount, Cond.selects RX5 yX5_offCount yX5_offCount, Cond.code yX5_offCount cX5_offCount 4 (some .int), Cond.methodLink RX5 72 yX5_turn]
def wsL_law_r34 : List Cond := [Cond.instanceMethod yX5_turn, Cond.selects RX5 yX5_turn yX5_turn, Cond.code yX5_turn cX5_turn 4 (some .int), Cond.methodLink RX7 260 yX5_wayTo, Cond.instanceMethod yX5_wayTo, Cond.selects RX5 yX5_wayTo yX5_wayTo, Cond.code yX5_wayTo cX5_wayTo 4 (some .int), Cond.methodLink RX5 75 Lib.Math.abs.name, Cond.static Lib.Math.abs.name, Cond.code Lib.Math.abs.name Lib.Math.abs.code 1 (some .int), Cond.methodLink RX7 245 yX5_turnInto, Cond.instanceMethod yX5_turnInto, Cond.selects RX5 yX5_turnInto yX5_turnInto, Cond.code yX5_turnInto cX5_turnInto 4 none, Cond.methodLink RL 98 yX8_near, Cond.instanceMethod yX8_near, Cond.selects RX8 yX8_near yX8_near, Cond.code yX8_near cX8_near 17 (some .int), Cond.fieldLink RX8 205 "AskTreeModel" "hasTurned" "Z", Cond.methodLink RX8 202 yX8_becomes, Cond.instanceMethod yX8_becomes, Cond.selects RX8 yX8_becomes yX8_becomes, Cond.code yX8_becomes cX8_becomes 7 (some .int), Cond.methodLink RL 99 yX7_turned]
def wsL_law_r35 : List Cond := [Cond.instanceMethod yX7_turned, Cond.selects RX7 yX7_turned yX7_turned, Cond.code yX7_turned cX7_turned 2 (some .int), Cond.methodLink RL 102 yX8_turned, Cond.instanceMethod yX8_turned, Cond.selects RX8 yX8_turned yX8_turned, Cond.code yX8_turned cX8_turned 2 (some .int), Cond.methodLink RL 103 yX7_count, Cond.instanceMethod yX7_count, Cond.selects RX7 yX7_count yX7_count, Cond.code yX7_count cX7_count 2 (some .int), Cond.methodLink RL 106 yX8_count, Cond.instanceMethod yX8_count, Cond.selects RX8 yX8_count yX8_count, Cond.code yX8_count cX8_count 2 (some .int)]
def wsL_law : List Cond := (wsL_law_r1 ++ (wsL_law_r2 ++ (wsL_law_r3 ++ (wsL_law_r4 ++ (wsL_law_r5 ++ (wsL_law_r6 ++ (wsL_law_r7 ++ (wsL_law_r8 ++ (wsL_law_r9 ++ (wsL_law_r10 ++ (wsL_law_r11 ++ (wsL_law_r12 ++ (wsL_law_r13 ++ (wsL_law_r14 ++ (wsL_law_r15 ++ (wsL_law_r16 ++ (wsL_law_r17 ++ (wsL_law_r18 ++ (wsL_law_r19 ++ (wsL_law_r20 ++ (wsL_law_r21 ++ (wsL_law_r22 ++ (wsL_law_r23 ++ (wsL_law_r24 ++ (wsL_law_r25 ++ (wsL_law_r26 ++ (wsL_law_r27 ++ (wsL_law_r28 ++ (wsL_law_r29 ++ (wsL_law_r30 ++ (wsL_law_r31 ++ (wsL_law_r32 ++ (wsL_law_r33 ++ (wsL_law_r34 ++ wsL_law_r35)))))))))))))))))))))))))))))))))) ++ wsX70 ++ wsX80 ++ wsX00 ++ wsX40 ++ wsX20 ++ wsX10 ++ wsX30 ++ wsX50 ++ wsX60 ++ ([] : List Cond)
abbrev vwCl : List vw_C := [(RX0, TX0, 5), (RX1, TX1, 12), (RX2, TX2, 12), (RX3, TX3, 5), (RX4, TX4, 5), (RX5, TX5, 7), (RX6, TX6, 7), (RX7, TX7, 14), (RX8, TX8, 23)]
end
section
theorem dX0_init_0 : decode cX0_init 0 = .ok (.aload_n 0, 1) := by decide +kernel
theorem dX0_init_1 : decode cX0_init 1 = .ok (.invokespecial 3, 3) := by decide +kernel
theorem dX0_init_4 : decode cX0_init 4 = .ok (.aload_n 0, 1) := by decide +kernel
theorem dX0_init_5 : decode cX0_init 5 = .ok (.bipush 8, 2) := by decide +kernel
theorem dX0_init_7 : decode cX0_init 7 = .ok (.newarray .int, 2) := by decide +kernel
theorem dX0_init_9 : decode cX0_init 9 = .ok (.putfield 9, 3) := by decide +kernel
theorem dX0_init_12 : decode cX0_init 12 = .ok (.aload_n 0, 1) := by decide +kernel
theorem dX0_init_13 : decode cX0_init 13 = .ok (.sipush 300, 3) := by decide +kernel
theorem dX0_init_16 : decode cX0_init 16 = .ok (.newarray .int, 2) := by decide +kernel
theorem dX0_init_18 : decode cX0_init 18 = .ok (.putfield 15, 3) := by decide +kernel
theorem dX0_init_21 : decode cX0_init 21 = .ok (.aload_n 0, 1) := by decide +kernel
theorem dX0_init_22 : decode cX0_init 22 = .ok (.sipush 2400, 3) := by decide +kernel
theorem dX0_init_25 : decode cX0_init 25 = .ok (.newarray .int, 2) := by decide +kernel
theorem dX0_init_27 : decode cX0_init 27 = .ok (.putfield 18, 3) := by decide +kernel
theorem dX0_init_30 : decode cX0_init 30 = .ok (.aload_n 0, 1) := by decide +kernel
theorem dX0_init_31 : decode cX0_init 31 = .ok (.sipush 2400, 3) := by decide +kernel
theorem dX0_init_34 : decode cX0_init 34 = .ok (.newarray .int, 2) := by decide +kernel
theorem dX0_init_36 : decode cX0_init 36 = .ok (.putfield 21, 3) := by decide +kernel
theorem dX0_init_39 : decode cX0_init 39 = .ok (.aload_n 0, 1) := by decide +kernel
theorem dX0_init_40 : decode cX0_init 40 = .ok (.iconst 0, 1) := by decide +kernel
theorem dX0_init_41 : decode cX0_init 41 = .ok (.putfield 24, 3) := by decide +kernel
theorem dX0_init_44 : decode cX0_init 44 = .ok (.return_, 1) := by decide +kernel
theorem dX0_append_0 : decode cX0_append 0 = .ok (.aload_n 0, 1) := by decide +kernel
theorem dX0_append_1 : decode cX0_append 1 = .ok (.getfield 24, 3) := by decide +kernel
theorem dX0_append_4 : decode cX0_append 4 = .ok (.sipush 300, 3) := by decide +kernel
theorem dX0_append_7 : decode cX0_append 7 = .ok (.if_icmp .lt 4, 3) := by decide +kernel
theorem dX0_append_11 : decode cX0_append 11 = .ok (.aload_n 0, 1) := by decide +kernel
theorem dX0_append_12 : decode cX0_append 12 = .ok (.getfield 15, 3) := by decide +kernel
theorem dX0_append_15 : decode cX0_append 15 = .ok (.aload_n 0, 1) := by decide +kernel
theorem dX0_append_16 : decode cX0_append 16 = .ok (.getfield 24, 3) := by decide +kernel
theorem dX0_append_19 : decode cX0_append 19 = .ok (.iload_n 1, 1) := by decide +kernel
theorem dX0_append_20 : decode cX0_append 20 = .ok (.iastore, 1) := by decide +kernel
theorem dX0_append_21 : decode cX0_append 21 = .ok (.iconst 0, 1) := by decide +kernel
theorem dX0_append_22 : decode cX0_append 22 = .ok (.istore_n 3, 1) := by decide +kernel
theorem dX0_append_23 : decode cX0_append 23 = .ok (.iload_n 3, 1) := by decide +kernel
theorem dX0_append_24 : decode cX0_append 24 = .ok (.bipush 8, 2) := by decide +kernel
theorem dX0_append_26 : decode cX0_append 26 = .ok (.if_icmp .ge 34, 3) := by decide +kernel
theorem dX0_append_29 : decode cX0_append 29 = .ok (.aload_n 0, 1) := by decide +kernel
theorem dX0_append_30 : decode cX0_append 30 = .ok (.getfield 18, 3) := by decide +kernel
theorem dX0_append_33 : decode cX0_append 33 = .ok (.aload_n 0, 1) := by decide +kernel
theorem dX0_append_34 : decode cX0_append 34 = .ok (.getfield 24, 3) := by decide +kernel
theorem dX0_append_37 : decode cX0_append 37 = .ok (.bipush 8, 2) := by decide +kernel
theorem dX0_append_39 : decode cX0_append 39 = .ok (.imul, 1) := by decide +kernel
theorem dX0_append_40 : decode cX0_append 40 = .ok (.iload_n 3, 1) := by decide +kernel
theorem dX0_append_41 : decode cX0_append 41 = .ok (.iadd, 1) := by decide +kernel
theorem dX0_append_42 : decode cX0_append 42 = .ok (.aload_n 2, 1) := by decide +kernel
theorem dX0_append_43 : decode cX0_append 43 = .ok (.iload_n 3, 1) := by decide +kernel
theorem dX0_append_44 : decode cX0_append 44 = .ok (.iaload, 1) := by decide +kernel
theorem dX0_append_45 : decode cX0_append 45 = .ok (.iastore, 1) := by decide +kernel
theorem dX0_append_46 : decode cX0_append 46 = .ok (.aload_n 0, 1) := by decide +kernel
theorem dX0_append_47 : decode cX0_append 47 = .ok (.iload_n 3, 1) := by decide +kernel
theorem dX0_append_48 : decode cX0_append 48 = .ok (.aload_n 2, 1) := by decide +kernel
theorem dX0_append_49 : decode cX0_append 49 = .ok (.iload_n 3, 1) := by decide +kernel
theorem dX0_append_50 : decode cX0_append 50 = .ok (.iaload, 1) := by decide +kernel
theorem dX0_append_51 : decode cX0_append 51 = .ok (.invokevirtual 28, 3) := by decide +kernel
theorem dX0_append_54 : decode cX0_append 54 = .ok (.iinc 3 1, 3) := by decide +kernel
theorem dX0_append_57 : decode cX0_append 57 = .ok (.goto (-34), 3) := by decide +kernel
theorem dX0_append_60 : decode cX0_append 60 = .ok (.aload_n 0, 1) := by decide +kernel
theorem dX0_append_61 : decode cX0_append 61 = .ok (.dup, 1) := by decide +kernel
theorem dX0_append_62 : decode cX0_append 62 = .ok (.getfield 24, 3) := by decide +kernel
theorem dX0_append_65 : decode cX0_append 65 = .ok (.iconst 1, 1) := by decide +kernel
theorem dX0_append_66 : decode cX0_append 66 = .ok (.iadd, 1) := by decide +kernel
theorem dX0_append_67 : decode cX0_append 67 = .ok (.putfield 24, 3) := by decide +kernel
theorem dX0_append_70 : decode cX0_append 70 = .ok (.return_, 1) := by decide +kernel
theorem dX0_putInOrder_0 : decode cX0_putInOrder 0 = .ok (.iload_n 1, 1) := by decide +kernel
theorem dX0_putInOrder_1 : decode cX0_putInOrder 1 = .ok (.sipush 300, 3) := by decide +kernel
theorem dX0_putInOrder_4 : decode cX0_putInOrder 4 = .ok (.imul, 1) := by decide +kernel
theorem dX0_putInOrder_5 : decode cX0_putInOrder 5 = .ok (.istore_n 3, 1) := by decide +kernel
theorem dX0_putInOrder_6 : decode cX0_putInOrder 6 = .ok (.iload_n 3, 1) := by decide +kernel
theorem dX0_putInOrder_7 : decode cX0_putInOrder 7 = .ok (.aload_n 0, 1) := by decide +kernel
theorem dX0_putInOrder_8 : decode cX0_putInOrder 8 = .ok (.getfield 24, 3) := by decide +kernel
theorem dX0_putInOrder_11 : decode cX0_putInOrder 11 = .ok (.iadd, 1) := by decide +kernel
theorem dX0_putInOrder_12 : decode cX0_putInOrder 12 = .ok (.istore 4, 2) := by decide +kernel
theorem dX0_putInOrder_14 : decode cX0_putInOrder 14 = .ok (.iload 4, 2) := by decide +kernel
theorem dX0_putInOrder_16 : decode cX0_putInOrder 16 = .ok (.iload_n 3, 1) := by decide +kernel
theorem dX0_putInOrder_17 : decode cX0_putInOrder 17 = .ok (.if_icmp .le 32, 3) := by decide +kernel
theorem dX0_putInOrder_49 : decode cX0_putInOrder 49 = .ok (.aload_n 0, 1) := by decide +kernel
theorem dX0_putInOrder_50 : decode cX0_putInOrder 50 = .ok (.getfield 21, 3) := by decide +kernel
theorem dX0_putInOrder_53 : decode cX0_putInOrder 53 = .ok (.iload 4, 2) := by decide +kernel
theorem dX0_putInOrder_55 : decode cX0_putInOrder 55 = .ok (.aload_n 0, 1) := by decide +kernel
theorem dX0_putInOrder_56 : decode cX0_putInOrder 56 = .ok (.getfield 21, 3) := by decide +kernel
theorem dX0_putInOrder_59 : decode cX0_putInOrder 59 = .ok (.iload 4, 2) := by decide +kernel
theorem dX0_putInOrder_61 : decode cX0_putInOrder 61 = .ok (.iconst 1, 1) := by decide +kernel
theorem dX0_putInOrder_62 : decode cX0_putInOrder 62 = .ok (.iadd, 1) := by decide +kernel
theorem dX0_putInOrder_63 : decode cX0_putInOrder 63 = .ok (.iload_n 3, 1) := by decide +kernel
theorem dX0_putInOrder_64 : decode cX0_putInOrder 64 = .ok (.aload_n 0, 1) := by decide +kernel
theorem dX0_putInOrder_65 : decode cX0_putInOrder 65 = .ok (.getfield 24, 3) := by decide +kernel
theorem dX0_putInOrder_68 : decode cX0_putInOrder 68 = .ok (.iadd, 1) := by decide +kernel
theorem dX0_putInOrder_69 : decode cX0_putInOrder 69 = .ok (.iload 4, 2) := by decide +kernel
theorem dX0_putInOrder_71 : decode cX0_putInOrder 71 = .ok (.isub, 1) := by decide +kernel
theorem dX0_putInOrder_72 : decode cX0_putInOrder 72 = .ok (.invokestatic 32, 3) := by decide +kernel
theorem dX0_putInOrder_75 : decode cX0_putInOrder 75 = .ok (.aload_n 0, 1) := by decide +kernel
theorem dX0_putInOrder_76 : decode cX0_putInOrder 76 = .ok (.getfield 21, 3) := by decide +kernel
theorem dX0_putInOrder_79 : decode cX0_putInOrder 79 = .ok (.iload 4, 2) := by decide +kernel
theorem dX0_putInOrder_81 : decode cX0_putInOrder 81 = .ok (.aload_n 0, 1) := by decide +kernel
theorem dX0_putInOrder_82 : decode cX0_putInOrder 82 = .ok (.getfield 24, 3) := by decide +kernel
theorem dX0_putInOrder_85 : decode cX0_putInOrder 85 = .ok (.iastore, 1) := by decide +kernel
theorem dX0_putInOrder_86 : decode cX0_putInOrder 86 = .ok (.return_, 1) := by decide +kernel
theorem dX0_haveGaps_0 : decode cX0_haveGaps 0 = .ok (.iconst 0, 1) := by decide +kernel
theorem dX0_haveGaps_1 : decode cX0_haveGaps 1 = .ok (.istore_n 1, 1) := by decide +kernel
theorem dX0_haveGaps_2 : decode cX0_haveGaps 2 = .ok (.iload_n 1, 1) := by decide +kernel
theorem dX0_haveGaps_3 : decode cX0_haveGaps 3 = .ok (.bipush 8, 2) := by decide +kernel
theorem dX0_haveGaps_5 : decode cX0_haveGaps 5 = .ok (.if_icmp .ge 44, 3) := by decide +kernel
theorem dX0_haveGaps_8 : decode cX0_haveGaps 8 = .ok (.aload_n 0, 1) := by decide +kernel
theorem dX0_haveGaps_9 : decode cX0_haveGaps 9 = .ok (.getfield 24, 3) := by decide +kernel
theorem dX0_haveGaps_12 : decode cX0_haveGaps 12 = .ok (.ifCond .le 31, 3) := by decide +kernel
theorem dX0_haveGaps_43 : decode cX0_haveGaps 43 = .ok (.iinc 1 1, 3) := by decide +kernel
theorem dX0_haveGaps_46 : decode cX0_haveGaps 46 = .ok (.goto (-44), 3) := by decide +kernel
theorem dX0_haveGaps_49 : decode cX0_haveGaps 49 = .ok (.iconst 0, 1) := by decide +kernel
theorem dX0_haveGaps_50 : decode cX0_haveGaps 50 = .ok (.ireturn, 1) := by decide +kernel
theorem dX1_init_0 : decode cX1_init 0 = .ok (.aload_n 0, 1) := by decide +kernel
theorem dX1_init_1 : decode cX1_init 1 = .ok (.invokespecial 3, 3) := by decide +kernel
theorem dX1_init_4 : decode cX1_init 4 = .ok (.aload_n 0, 1) := by decide +kernel
theorem dX1_init_5 : decode cX1_init 5 = .ok (.iconst 4, 1) := by decide +kernel
theorem dX1_init_6 : decode cX1_init 6 = .ok (.newarray .int, 2) := by decide +kernel
theorem dX1_init_8 : decode cX1_init 8 = .ok (.putfield 9, 3) := by decide +kernel
theorem dX1_init_11 : decode cX1_init 11 = .ok (.aload_n 0, 1) := by decide +kernel
theorem dX1_init_12 : decode cX1_init 12 = .ok (.iconst 4, 1) := by decide +kernel
theorem dX1_init_13 : decode cX1_init 13 = .ok (.newarray .int, 2) := by decide +kernel
theorem dX1_init_15 : decode cX1_init 15 = .ok (.putfield 15, 3) := by decide +kernel
theorem dX1_init_18 : decode cX1_init 18 = .ok (.aload_n 0, 1) := by decide +kernel
theorem dX1_init_19 : decode cX1_init 19 = .ok (.aload_n 1, 1) := by decide +kernel
theorem dX1_init_20 : decode cX1_init 20 = .ok (.putfield 18, 3) := by decide +kernel
theorem dX1_init_23 : decode cX1_init 23 = .ok (.aload_n 0, 1) := by decide +kernel
theorem dX1_init_24 : decode cX1_init 24 = .ok (.aload_n 2, 1) := by decide +kernel
theorem dX1_init_25 : decode cX1_init 25 = .ok (.putfield 22, 3) := by decide +kernel
theorem dX1_init_28 : decode cX1_init 28 = .ok (.return_, 1) := by decide +kernel
theorem dX1_findInto_0 : decode cX1_findInto 0 = .ok (.aload_n 0, 1) := by decide +kernel
theorem dX1_findInto_1 : decode cX1_findInto 1 = .ok (.aload_n 1, 1) := by decide +kernel
theorem dX1_findInto_2 : decode cX1_findInto 2 = .ok (.iconst 0, 1) := by decide +kernel
theorem dX1_findInto_3 : decode cX1_findInto 3 = .ok (.aload_n 0, 1) := by decide +kernel
theorem dX1_findInto_4 : decode cX1_findInto 4 = .ok (.getfield 22, 3) := by decide +kernel
theorem dX1_findInto_7 : decode cX1_findInto 7 = .ok (.getfield 26, 3) := by decide +kernel
theorem dX1_findInto_10 : decode cX1_findInto 10 = .ok (.iconst 0, 1) := by decide +kernel
theorem dX1_findInto_11 : decode cX1_findInto 11 = .ok (.iload_n 2, 1) := by decide +kernel
theorem dX1_findInto_12 : decode cX1_findInto 12 = .ok (.invokevirtual 32, 3) := by decide +kernel
theorem dX1_findInto_15 : decode cX1_findInto 15 = .ok (.pop, 1) := by decide +kernel
theorem dX1_findInto_16 : decode cX1_findInto 16 = .ok (.return_, 1) := by decide +kernel
theorem dX1_build_0 : decode cX1_build 0 = .ok (.aload_n 0, 1) := by decide +kernel
theorem dX1_build_1 : decode cX1_build 1 = .ok (.getfield 22, 3) := by decide +kernel
theorem dX1_build_4 : decode cX1_build 4 = .ok (.iload_n 2, 1) := by decide +kernel
theorem dX1_build_5 : decode cX1_build 5 = .ok (.iload_n 3, 1) := by decide +kernel
theorem dX1_build_6 : decode cX1_build 6 = .ok (.aload_n 0, 1) := by decide +kernel
theorem dX1_build_7 : decode cX1_build 7 = .ok (.getfield 9, 3) := by decide +kernel
theorem dX1_build_10 : decode cX1_build 10 = .ok (.invokevirtual 36, 3) := by decide +kernel
theorem dX1_build_13 : decode cX1_build 13 = .ok (.aload_n 1, 1) := by decide +kernel
theorem dX1_build_14 : decode cX1_build 14 = .ok (.iload 4, 2) := by decide +kernel
theorem dX1_build_16 : decode cX1_build 16 = .ok (.aload_n 0, 1) := by decide +kernel
theorem dX1_build_17 : decode cX1_build 17 = .ok (.getfield 9, 3) := by decide +kernel
theorem dX1_build_20 : decode cX1_build 20 = .ok (.iconst 0, 1) := by decide +kernel
theorem dX1_build_21 : decode cX1_build 21 = .ok (.invokevirtual 40, 3) := by decide +kernel
theorem dX1_build_24 : decode cX1_build 24 = .ok (.istore 6, 2) := by decide +kernel
theorem dX1_build_26 : decode cX1_build 26 = .ok (.iload 6, 2) := by decide +kernel
theorem dX1_build_28 : decode cX1_build 28 = .ok (.ifCond .lt 14, 3) := by decide +kernel
theorem dX1_build_31 : decode cX1_build 31 = .ok (.iload 4, 2) := by decide +kernel
theorem dX1_build_33 : decode cX1_build 33 = .ok (.iconst 2, 1) := by decide +kernel
theorem dX1_build_34 : decode cX1_build 34 = .ok (.if_icmp .ge 8, 3) := by decide +kernel
theorem dX1_build_37 : decode cX1_build 37 = .ok (.iload 5, 2) := by decide +kernel
theorem dX1_build_39 : decode cX1_build 39 = .ok (.ifCond .gt 6, 3) := by decide +kernel
theorem dX1_build_42 : decode cX1_build 42 = .ok (.iload 6, 2) := by decide +kernel
theorem dX1_build_44 : decode cX1_build 44 = .ok (.ireturn, 1) := by decide +kernel
theorem dX1_build_45 : decode cX1_build 45 = .ok (.aload_n 0, 1) := by decide +kernel
theorem dX1_build_46 : decode cX1_build 46 = .ok (.iload_n 2, 1) := by decide +kernel
theorem dX1_build_47 : decode cX1_build 47 = .ok (.iload_n 3, 1) := by decide +kernel
theorem dX1_build_48 : decode cX1_build 48 = .ok (.invokevirtual 46, 3) := by decide +kernel
theorem dX1_build_51 : decode cX1_build 51 = .ok (.iload 5, 2) := by decide +kernel
theorem dX1_build_53 : decode cX1_build 53 = .ok (.iconst 1, 1) := by decide +kernel
theorem dX1_build_54 : decode cX1_build 54 = .ok (.if_icmp .le 14, 3) := by decide +kernel
theorem dX1_build_57 : decode cX1_build 57 = .ok (.aload_n 0, 1) := by decide +kernel
theorem dX1_build_58 : decode cX1_build 58 = .ok (.getfield 50, 3) := by decide +kernel
theorem dX1_build_61 : decode cX1_build 61 = .ok (.ifCond .le 7, 3) := by decide +kernel
theorem dX1_build_68 : decode cX1_build 68 = .ok (.iconst 0, 1) := by decide +kernel
theorem dX1_build_69 : decode cX1_build 69 = .ok (.istore 7, 2) := by decide +kernel
theorem dX1_build_71 : decode cX1_build 71 = .ok (.iconst 0, 1) := by decide +kernel
theorem dX1_build_72 : decode cX1_build 72 = .ok (.istore 8, 2) := by decide +kernel
theorem dX1_build_74 : decode cX1_build 74 = .ok (.iload 8, 2) := by decide +kernel
theorem dX1_build_76 : decode cX1_build 76 = .ok (.bipush 8, 2) := by decide +kernel
theorem dX1_build_78 : decode cX1_build 78 = .ok (.if_icmp .ge 22, 3) := by decide +kernel
theorem dX1_build_81 : decode cX1_build 81 = .ok (.iload 7, 2) := by decide +kernel
theorem dX1_build_83 : decode cX1_build 83 = .ok (.ifCond .eq 17, 3) := by decide +kernel
theorem dX1_build_100 : decode cX1_build 100 = .ok (.aload_n 0, 1) := by decide +kernel
theorem dX1_build_101 : decode cX1_build 101 = .ok (.getfield 57, 3) := by decide +kernel
theorem dX1_build_104 : decode cX1_build 104 = .ok (.istore 8, 2) := by decide +kernel
theorem dX1_build_106 : decode cX1_build 106 = .ok (.aload_n 0, 1) := by decide +kernel
theorem dX1_build_107 : decode cX1_build 107 = .ok (.getfield 60, 3) := by decide +kernel
theorem dX1_build_110 : decode cX1_build 110 = .ok (.istore 9, 2) := by decide +kernel
theorem dX1_build_112 : decode cX1_build 112 = .ok (.iload 8, 2) := by decide +kernel
theorem dX1_build_114 : decode cX1_build 114 = .ok (.iconst (-1), 1) := by decide +kernel
theorem dX1_build_115 : decode cX1_build 115 = .ok (.if_icmp .ne 6, 3) := by decide +kernel
theorem dX1_build_118 : decode cX1_build 118 = .ok (.iload 6, 2) := by decide +kernel
theorem dX1_build_120 : decode cX1_build 120 = .ok (.ireturn, 1) := by decide +kernel
theorem dX1_takeOne_0 : decode cX1_takeOne 0 = .ok (.aload_n 0, 1) := by decide +kernel
theorem dX1_takeOne_1 : decode cX1_takeOne 1 = .ok (.getfield 22, 3) := by decide +kernel
theorem dX1_takeOne_4 : decode cX1_takeOne 4 = .ok (.iconst 0, 1) := by decide +kernel
theorem dX1_takeOne_5 : decode cX1_takeOne 5 = .ok (.iload_n 1, 1) := by decide +kernel
theorem dX1_takeOne_6 : decode cX1_takeOne 6 = .ok (.iload_n 2, 1) := by decide +kernel
theorem dX1_takeOne_7 : decode cX1_takeOne 7 = .ok (.iconst 0, 1) := by decide +kernel
theorem dX1_takeOne_8 : decode cX1_takeOne 8 = .ok (.invokevirtual 74, 3) := by decide +kernel
theorem dX1_takeOne_11 : decode cX1_takeOne 11 = .ok (.aload_n 0, 1) := by decide +kernel
theorem dX1_takeOne_12 : decode cX1_takeOne 12 = .ok (.iload_n 1, 1) := by decide +kernel
theorem dX1_takeOne_13 : decode cX1_takeOne 13 = .ok (.iload_n 2, 1) := by decide +kernel
theorem dX1_takeOne_14 : decode cX1_takeOne 14 = .ok (.iconst 0, 1) := by decide +kernel
theorem dX1_takeOne_15 : decode cX1_takeOne 15 = .ok (.invokevirtual 77, 3) := by decide +kernel
theorem dX1_takeOne_18 : decode cX1_takeOne 18 = .ok (.aload_n 0, 1) := by decide +kernel
theorem dX1_takeOne_19 : decode cX1_takeOne 19 = .ok (.aload_n 0, 1) := by decide +kernel
theorem dX1_takeOne_20 : decode cX1_takeOne 20 = .ok (.getfield 80, 3) := by decide +kernel
theorem dX1_takeOne_23 : decode cX1_takeOne 23 = .ok (.putfield 57, 3) := by decide +kernel
theorem dX1_takeOne_26 : decode cX1_takeOne 26 = .ok (.aload_n 0, 1) := by decide +kernel
theorem dX1_takeOne_27 : decode cX1_takeOne 27 = .ok (.aload_n 0, 1) := by decide +kernel
theorem dX1_takeOne_28 : decode cX1_takeOne 28 = .ok (.getfield 83, 3) := by decide +kernel
theorem dX1_takeOne_31 : decode cX1_takeOne 31 = .ok (.putfield 60, 3) := by decide +kernel
theorem dX1_takeOne_34 : decode cX1_takeOne 34 = .ok (.aload_n 0, 1) := by decide +kernel
theorem dX1_takeOne_35 : decode cX1_takeOne 35 = .ok (.aload_n 0, 1) := by decide +kernel
theorem dX1_takeOne_36 : decode cX1_takeOne 36 = .ok (.getfield 86, 3) := by decide +kernel
theorem dX1_takeOne_39 : decode cX1_takeOne 39 = .ok (.putfield 50, 3) := by decide +kernel
theorem dX1_takeOne_42 : decode cX1_takeOne 42 = .ok (.aload_n 0, 1) := by decide +kernel
theorem dX1_takeOne_43 : decode cX1_takeOne 43 = .ok (.aload_n 0, 1) := by decide +kernel
theorem dX1_takeOne_44 : decode cX1_takeOne 44 = .ok (.getfield 80, 3) := by decide +kernel
theorem dX1_takeOne_47 : decode cX1_takeOne 47 = .ok (.iconst (-1), 1) := by decide +kernel
theorem dX1_takeOne_48 : decode cX1_takeOne 48 = .ok (.if_icmp .ne 7, 3) := by decide +kernel
theorem dX1_takeOne_51 : decode cX1_takeOne 51 = .ok (.iconst 0, 1) := by decide +kernel
theorem dX1_takeOne_52 : decode cX1_takeOne 52 = .ok (.goto 4, 3) := by decide +kernel
theorem dX1_takeOne_56 : decode cX1_takeOne 56 = .ok (.putfield 89, 3) := by decide +kernel
theorem dX1_takeOne_59 : decode cX1_takeOne 59 = .ok (.return_, 1) := by decide +kernel
theorem dX1_seekOne_0 : decode cX1_seekOne 0 = .ok (.aload_n 0, 1) := by decide +kernel
theorem dX1_seekOne_1 : decode cX1_seekOne 1 = .ok (.getfield 9, 3) := by decide +kernel
theorem dX1_seekOne_4 : decode cX1_seekOne 4 = .ok (.invokestatic 114, 3) := by decide +kernel
theorem dX1_seekOne_7 : decode cX1_seekOne 7 = .ok (.aload_n 0, 1) := by decide +kernel
theorem dX1_seekOne_8 : decode cX1_seekOne 8 = .ok (.iconst 0, 1) := by decide +kernel
theorem dX1_seekOne_9 : decode cX1_seekOne 9 = .ok (.putfield 118, 3) := by decide +kernel
theorem dX1_seekOne_12 : decode cX1_seekOne 12 = .ok (.iload_n 1, 1) := by decide +kernel
theorem dX1_seekOne_13 : decode cX1_seekOne 13 = .ok (.istore 4, 2) := by decide +kernel
theorem dX1_seekOne_15 : decode cX1_seekOne 15 = .ok (.iload 4, 2) := by decide +kernel
theorem dX1_seekOne_17 : decode cX1_seekOne 17 = .ok (.iload_n 2, 1) := by decide +kernel
theorem dX1_seekOne_18 : decode cX1_seekOne 18 = .ok (.if_icmp .ge 64, 3) := by decide +kernel
theorem dX1_seekOne_82 : decode cX1_seekOne 82 = .ok (.aload_n 0, 1) := by decide +kernel
theorem dX1_seekOne_83 : decode cX1_seekOne 83 = .ok (.iconst (-1), 1) := by decide +kernel
theorem dX1_seekOne_84 : decode cX1_seekOne 84 = .ok (.putfield 80, 3) := by decide +kernel
theorem dX1_seekOne_87 : decode cX1_seekOne 87 = .ok (.aload_n 0, 1) := by decide +kernel
theorem dX1_seekOne_88 : decode cX1_seekOne 88 = .ok (.iconst 0, 1) := by decide +kernel
theorem dX1_seekOne_89 : decode cX1_seekOne 89 = .ok (.putfield 83, 3) := by decide +kernel
theorem dX1_seekOne_92 : decode cX1_seekOne 92 = .ok (.aload_n 0, 1) := by decide +kernel
theorem dX1_seekOne_93 : decode cX1_seekOne 93 = .ok (.aload_n 0, 1) := by decide +kernel
theorem dX1_seekOne_94 : decode cX1_seekOne 94 = .ok (.getfield 118, 3) := by decide +kernel
theorem dX1_seekOne_97 : decode cX1_seekOne 97 = .ok (.aload_n 0, 1) := by decide +kernel
theorem dX1_seekOne_98 : decode cX1_seekOne 98 = .ok (.getfield 9, 3) := by decide +kernel
theorem dX1_seekOne_101 : decode cX1_seekOne 101 = .ok (.aload_n 0, 1) := by decide +kernel
theorem dX1_seekOne_102 : decode cX1_seekOne 102 = .ok (.getfield 9, 3) := by decide +kernel
theorem dX1_seekOne_105 : decode cX1_seekOne 105 = .ok (.iconst 0, 1) := by decide +kernel
theorem dX1_seekOne_106 : decode cX1_seekOne 106 = .ok (.invokestatic 124, 3) := by decide +kernel
theorem dX1_seekOne_109 : decode cX1_seekOne 109 = .ok (.iaload, 1) := by decide +kernel
theorem dX1_seekOne_110 : decode cX1_seekOne 110 = .ok (.isub, 1) := by decide +kernel
theorem dX1_seekOne_111 : decode cX1_seekOne 111 = .ok (.putfield 86, 3) := by decide +kernel
theorem dX1_seekOne_114 : decode cX1_seekOne 114 = .ok (.iconst 0, 1) := by decide +kernel
theorem dX1_seekOne_115 : decode cX1_seekOne 115 = .ok (.istore 4, 2) := by decide +kernel
theorem dX1_seekOne_117 : decode cX1_seekOne 117 = .ok (.iload 4, 2) := by decide +kernel
theorem dX1_seekOne_119 : decode cX1_seekOne 119 = .ok (.bipush 8, 2) := by decide +kernel
theorem dX1_seekOne_121 : decode cX1_seekOne 121 = .ok (.if_icmp .ge 39, 3) := by decide +kernel
theorem dX1_seekOne_124 : decode cX1_seekOne 124 = .ok (.aload_n 0, 1) := by decide +kernel
theorem dX1_seekOne_125 : decode cX1_seekOne 125 = .ok (.getfield 86, 3) := by decide +kernel
theorem dX1_seekOne_128 : decode cX1_seekOne 128 = .ok (.ifCond .le 32, 3) := by decide +kernel
theorem dX1_seekOne_160 : decode cX1_seekOne 160 = .ok (.return_, 1) := by decide +kernel
theorem dX2_init_0 : decode cX2_init 0 = .ok (.aload_n 0, 1) := by decide +kernel
theorem dX2_init_1 : decode cX2_init 1 = .ok (.invokespecial 3, 3) := by decide +kernel
theorem dX2_init_4 : decode cX2_init 4 = .ok (.aload_n 0, 1) := by decide +kernel
theorem dX2_init_5 : decode cX2_init 5 = .ok (.iconst 4, 1) := by decide +kernel
theorem dX2_init_6 : decode cX2_init 6 = .ok (.newarray .int, 2) := by decide +kernel
theorem dX2_init_8 : decode cX2_init 8 = .ok (.putfield 9, 3) := by decide +kernel
theorem dX2_init_11 : decode cX2_init 11 = .ok (.aload_n 0, 1) := by decide +kernel
theorem dX2_init_12 : decode cX2_init 12 = .ok (.iconst 4, 1) := by decide +kernel
theorem dX2_init_13 : decode cX2_init 13 = .ok (.newarray .int, 2) := by decide +kernel
theorem dX2_init_15 : decode cX2_init 15 = .ok (.putfield 15, 3) := by decide +kernel
theorem dX2_init_18 : decode cX2_init 18 = .ok (.aload_n 0, 1) := by decide +kernel
theorem dX2_init_19 : decode cX2_init 19 = .ok (.iconst 4, 1) := by decide +kernel
theorem dX2_init_20 : decode cX2_init 20 = .ok (.newarray .int, 2) := by decide +kernel
theorem dX2_init_22 : decode cX2_init 22 = .ok (.putfield 18, 3) := by decide +kernel
theorem dX2_init_25 : decode cX2_init 25 = .ok (.aload_n 0, 1) := by decide +kernel
theorem dX2_init_26 : decode cX2_init 26 = .ok (.aload_n 1, 1) := by decide +kernel
theorem dX2_init_27 : decode cX2_init 27 = .ok (.putfield 21, 3) := by decide +kernel
theorem dX2_init_30 : decode cX2_init 30 = .ok (.aload_n 0, 1) := by decide +kernel
theorem dX2_init_31 : decode cX2_init 31 = .ok (.aload_n 2, 1) := by decide +kernel
theorem dX2_init_32 : decode cX2_init 32 = .ok (.putfield 25, 3) := by decide +kernel
theorem dX2_init_35 : decode cX2_init 35 = .ok (.return_, 1) := by decide +kernel
theorem dX2_growInto_0 : decode cX2_growInto 0 = .ok (.aload_n 0, 1) := by decide +kernel
theorem dX2_growInto_1 : decode cX2_growInto 1 = .ok (.iload_n 2, 1) := by decide +kernel
theorem dX2_growInto_2 : decode cX2_growInto 2 = .ok (.bipush 8, 2) := by decide +kernel
theorem dX2_growInto_4 : decode cX2_growInto 4 = .ok (.invokestatic 29, 3) := by decide +kernel
theorem dX2_growInto_7 : decode cX2_growInto 7 = .ok (.putfield 35, 3) := by decide +kernel
theorem dX2_growInto_10 : decode cX2_growInto 10 = .ok (.aload_n 0, 1) := by decide +kernel
theorem dX2_growInto_11 : decode cX2_growInto 11 = .ok (.iload_n 3, 1) := by decide +kernel
theorem dX2_growInto_12 : decode cX2_growInto 12 = .ok (.putfield 39, 3) := by decide +kernel
theorem dX2_growInto_15 : decode cX2_growInto 15 = .ok (.aload_n 0, 1) := by decide +kernel
theorem dX2_growInto_16 : decode cX2_growInto 16 = .ok (.aload_n 1, 1) := by decide +kernel
theorem dX2_growInto_17 : decode cX2_growInto 17 = .ok (.iconst 0, 1) := by decide +kernel
theorem dX2_growInto_18 : decode cX2_growInto 18 = .ok (.aload_n 0, 1) := by decide +kernel
theorem dX2_growInto_19 : decode cX2_growInto 19 = .ok (.getfield 25, 3) := by decide +kernel
theorem dX2_growInto_22 : decode cX2_growInto 22 = .ok (.getfield 42, 3) := by decide +kernel
theorem dX2_growInto_25 : decode cX2_growInto 25 = .ok (.iconst 0, 1) := by decide +kernel
theorem dX2_growInto_26 : decode cX2_growInto 26 = .ok (.invokevirtual 47, 3) := by decide +kernel
theorem dX2_growInto_29 : decode cX2_growInto 29 = .ok (.pop, 1) := by decide +kernel
theorem dX2_growInto_30 : decode cX2_growInto 30 = .ok (.return_, 1) := by decide +kernel
theorem dX2_branch_0 : decode cX2_branch 0 = .ok (.aload_n 0, 1) := by decide +kernel
theorem dX2_branch_1 : decode cX2_branch 1 = .ok (.getfield 25, 3) := by decide +kernel
theorem dX2_branch_4 : decode cX2_branch 4 = .ok (.iload_n 2, 1) := by decide +kernel
theorem dX2_branch_5 : decode cX2_branch 5 = .ok (.iload_n 3, 1) := by decide +kernel
theorem dX2_branch_6 : decode cX2_branch 6 = .ok (.aload_n 0, 1) := by decide +kernel
theorem dX2_branch_7 : decode cX2_branch 7 = .ok (.getfield 9, 3) := by decide +kernel
theorem dX2_branch_10 : decode cX2_branch 10 = .ok (.invokevirtual 51, 3) := by decide +kernel
theorem dX2_branch_13 : decode cX2_branch 13 = .ok (.aload_n 1, 1) := by decide +kernel
theorem dX2_branch_14 : decode cX2_branch 14 = .ok (.iload 4, 2) := by decide +kernel
theorem dX2_branch_16 : decode cX2_branch 16 = .ok (.aload_n 0, 1) := by decide +kernel
theorem dX2_branch_17 : decode cX2_branch 17 = .ok (.getfield 9, 3) := by decide +kernel
theorem dX2_branch_20 : decode cX2_branch 20 = .ok (.iconst 0, 1) := by decide +kernel
theorem dX2_branch_21 : decode cX2_branch 21 = .ok (.invokevirtual 55, 3) := by decide +kernel
theorem dX2_branch_24 : decode cX2_branch 24 = .ok (.istore 5, 2) := by decide +kernel
theorem dX2_branch_26 : decode cX2_branch 26 = .ok (.iload 5, 2) := by decide +kernel
theorem dX2_branch_28 : decode cX2_branch 28 = .ok (.ifCond .lt 40, 3) := by decide +kernel
theorem dX2_branch_31 : decode cX2_branch 31 = .ok (.iload 4, 2) := by decide +kernel
theorem dX2_branch_33 : decode cX2_branch 33 = .ok (.aload_n 0, 1) := by decide +kernel
theorem dX2_branch_34 : decode cX2_branch 34 = .ok (.getfield 35, 3) := by decide +kernel
theorem dX2_branch_37 : decode cX2_branch 37 = .ok (.if_icmp .ge 31, 3) := by decide +kernel
theorem dX2_branch_40 : decode cX2_branch 40 = .ok (.aload_n 0, 1) := by decide +kernel
theorem dX2_branch_41 : decode cX2_branch 41 = .ok (.getfield 9, 3) := by decide +kernel
theorem dX2_branch_44 : decode cX2_branch 44 = .ok (.aload_n 0, 1) := by decide +kernel
theorem dX2_branch_45 : decode cX2_branch 45 = .ok (.getfield 9, 3) := by decide +kernel
theorem dX2_branch_48 : decode cX2_branch 48 = .ok (.iconst 0, 1) := by decide +kernel
theorem dX2_branch_49 : decode cX2_branch 49 = .ok (.invokestatic 61, 3) := by decide +kernel
theorem dX2_branch_52 : decode cX2_branch 52 = .ok (.iaload, 1) := by decide +kernel
theorem dX2_branch_53 : decode cX2_branch 53 = .ok (.iload_n 3, 1) := by decide +kernel
theorem dX2_branch_54 : decode cX2_branch 54 = .ok (.iload_n 2, 1) := by decide +kernel
theorem dX2_branch_55 : decode cX2_branch 55 = .ok (.isub, 1) := by decide +kernel
theorem dX2_branch_56 : decode cX2_branch 56 = .ok (.if_icmp .eq 12, 3) := by decide +kernel
theorem dX2_branch_68 : decode cX2_branch 68 = .ok (.iload 5, 2) := by decide +kernel
theorem dX2_branch_70 : decode cX2_branch 70 = .ok (.ireturn, 1) := by decide +kernel
theorem dX3_init_0 : decode cX3_init 0 = .ok (.aload_n 0, 1) := by decide +kernel
theorem dX3_init_1 : decode cX3_init 1 = .ok (.invokespecial 3, 3) := by decide +kernel
theorem dX3_init_4 : decode cX3_init 4 = .ok (.aload_n 0, 1) := by decide +kernel
theorem dX3_init_5 : decode cX3_init 5 = .ok (.sipush 511, 3) := by decide +kernel
theorem dX3_init_8 : decode cX3_init 8 = .ok (.newarray .int, 2) := by decide +kernel
theorem dX3_init_10 : decode cX3_init 10 = .ok (.putfield 9, 3) := by decide +kernel
theorem dX3_init_13 : decode cX3_init 13 = .ok (.aload_n 0, 1) := by decide +kernel
theorem dX3_init_14 : decode cX3_init 14 = .ok (.iconst 0, 1) := by decide +kernel
theorem dX3_init_15 : decode cX3_init 15 = .ok (.putfield 15, 3) := by decide +kernel
theorem dX3_init_18 : decode cX3_init 18 = .ok (.aload_n 0, 1) := by decide +kernel
theorem dX3_init_19 : decode cX3_init 19 = .ok (.iconst 1, 1) := by decide +kernel
theorem dX3_init_20 : decode cX3_init 20 = .ok (.putfield 19, 3) := by decide +kernel
theorem dX3_init_23 : decode cX3_init 23 = .ok (.return_, 1) := by decide +kernel
theorem dX4_init_0 : decode cX4_init 0 = .ok (.aload_n 0, 1) := by decide +kernel
theorem dX4_init_1 : decode cX4_init 1 = .ok (.invokespecial 3, 3) := by decide +kernel
theorem dX4_init_4 : decode cX4_init 4 = .ok (.aload_n 0, 1) := by decide +kernel
theorem dX4_init_5 : decode cX4_init 5 = .ok (.sipush 2400, 3) := by decide +kernel
theorem dX4_init_8 : decode cX4_init 8 = .ok (.newarray .int, 2) := by decide +kernel
theorem dX4_init_10 : decode cX4_init 10 = .ok (.putfield 9, 3) := by decide +kernel
theorem dX4_init_13 : decode cX4_init 13 = .ok (.aload_n 0, 1) := by decide +kernel
theorem dX4_init_14 : decode cX4_init 14 = .ok (.sipush 300, 3) := by decide +kernel
theorem dX4_init_17 : decode cX4_init 17 = .ok (.newarray .int, 2) := by decide +kernel
theorem dX4_init_19 : decode cX4_init 19 = .ok (.putfield 15, 3) := by decide +kernel
theorem dX4_init_22 : decode cX4_init 22 = .ok (.aload_n 0, 1) := by decide +kernel
theorem dX4_init_23 : decode cX4_init 23 = .ok (.sipush 300, 3) := by decide +kernel
theorem dX4_init_26 : decode cX4_init 26 = .ok (.newarray .int, 2) := by decide +kernel
theorem dX4_init_28 : decode cX4_init 28 = .ok (.putfield 18, 3) := by decide +kernel
theorem dX4_init_31 : decode cX4_init 31 = .ok (.aload_n 0, 1) := by decide +kernel
theorem dX4_init_32 : decode cX4_init 32 = .ok (.iconst 0, 1) := by decide +kernel
theorem dX4_init_33 : decode cX4_init 33 = .ok (.putfield 21, 3) := by decide +kernel
theorem dX4_init_36 : decode cX4_init 36 = .ok (.aload_n 0, 1) := by decide +kernel
theorem dX4_init_37 : decode cX4_init 37 = .ok (.aload_n 1, 1) := by decide +kernel
theorem dX4_init_38 : decode cX4_init 38 = .ok (.putfield 25, 3) := by decide +kernel
theorem dX4_init_41 : decode cX4_init 41 = .ok (.return_, 1) := by decide +kernel
theorem dX4_loadAll_0 : decode cX4_loadAll 0 = .ok (.aload_n 0, 1) := by decide +kernel
theorem dX4_loadAll_1 : decode cX4_loadAll 1 = .ok (.getfield 25, 3) := by decide +kernel
theorem dX4_loadAll_4 : decode cX4_loadAll 4 = .ok (.getfield 29, 3) := by decide +kernel
theorem dX4_loadAll_7 : decode cX4_loadAll 7 = .ok (.iconst 0, 1) := by decide +kernel
theorem dX4_loadAll_8 : decode cX4_loadAll 8 = .ok (.aload_n 0, 1) := by decide +kernel
theorem dX4_loadAll_9 : decode cX4_loadAll 9 = .ok (.getfield 9, 3) := by decide +kernel
theorem dX4_loadAll_12 : decode cX4_loadAll 12 = .ok (.iconst 0, 1) := by decide +kernel
theorem dX4_loadAll_13 : decode cX4_loadAll 13 = .ok (.aload_n 0, 1) := by decide +kernel
theorem dX4_loadAll_14 : decode cX4_loadAll 14 = .ok (.getfield 9, 3) := by decide +kernel
theorem dX4_loadAll_17 : decode cX4_loadAll 17 = .ok (.arraylength, 1) := by decide +kernel
theorem dX4_loadAll_18 : decode cX4_loadAll 18 = .ok (.invokestatic 34, 3) := by decide +kernel
theorem dX4_loadAll_21 : decode cX4_loadAll 21 = .ok (.aload_n 0, 1) := by decide +kernel
theorem dX4_loadAll_22 : decode cX4_loadAll 22 = .ok (.aload_n 0, 1) := by decide +kernel
theorem dX4_loadAll_23 : decode cX4_loadAll 23 = .ok (.getfield 25, 3) := by decide +kernel
theorem dX4_loadAll_26 : decode cX4_loadAll 26 = .ok (.getfield 40, 3) := by decide +kernel
theorem dX4_loadAll_29 : decode cX4_loadAll 29 = .ok (.putfield 21, 3) := by decide +kernel
theorem dX4_loadAll_32 : decode cX4_loadAll 32 = .ok (.return_, 1) := by decide +kernel
theorem dX4_loadWithout_0 : decode cX4_loadWithout 0 = .ok (.aload_n 0, 1) := by decide +kernel
theorem dX4_loadWithout_1 : decode cX4_loadWithout 1 = .ok (.iconst 0, 1) := by decide +kernel
theorem dX4_loadWithout_2 : decode cX4_loadWithout 2 = .ok (.putfield 21, 3) := by decide +kernel
theorem dX4_loadWithout_5 : decode cX4_loadWithout 5 = .ok (.iconst 0, 1) := by decide +kernel
theorem dX4_loadWithout_6 : decode cX4_loadWithout 6 = .ok (.istore_n 3, 1) := by decide +kernel
theorem dX4_loadWithout_7 : decode cX4_loadWithout 7 = .ok (.iload_n 3, 1) := by decide +kernel
theorem dX4_loadWithout_8 : decode cX4_loadWithout 8 = .ok (.bipush 8, 2) := by decide +kernel
theorem dX4_loadWithout_10 : decode cX4_loadWithout 10 = .ok (.if_icmp .ge 94, 3) := by decide +kernel
theorem dX4_loadWithout_13 : decode cX4_loadWithout 13 = .ok (.iload_n 2, 1) := by decide +kernel
theorem dX4_loadWithout_14 : decode cX4_loadWithout 14 = .ok (.ifCond .le 90, 3) := by decide +kernel
theorem dX4_loadWithout_17 : decode cX4_loadWithout 17 = .ok (.iload_n 3, 1) := by decide +kernel
theorem dX4_loadWithout_18 : decode cX4_loadWithout 18 = .ok (.sipush 300, 3) := by decide +kernel
theorem dX4_loadWithout_21 : decode cX4_loadWithout 21 = .ok (.imul, 1) := by decide +kernel
theorem dX4_loadWithout_22 : decode cX4_loadWithout 22 = .ok (.istore 4, 2) := by decide +kernel
theorem dX4_loadWithout_24 : decode cX4_loadWithout 24 = .ok (.iload 4, 2) := by decide +kernel
theorem dX4_loadWithout_26 : decode cX4_loadWithout 26 = .ok (.istore 5, 2) := by decide +kernel
theorem dX4_loadWithout_28 : decode cX4_loadWithout 28 = .ok (.iload 4, 2) := by decide +kernel
theorem dX4_loadWithout_30 : decode cX4_loadWithout 30 = .ok (.istore 6, 2) := by decide +kernel
theorem dX4_loadWithout_32 : decode cX4_loadWithout 32 = .ok (.iload 6, 2) := by decide +kernel
theorem dX4_loadWithout_34 : decode cX4_loadWithout 34 = .ok (.iload 4, 2) := by decide +kernel
theorem dX4_loadWithout_36 : decode cX4_loadWithout 36 = .ok (.aload_n 0, 1) := by decide +kernel
theorem dX4_loadWithout_37 : decode cX4_loadWithout 37 = .ok (.getfield 25, 3) := by decide +kernel
theorem dX4_loadWithout_40 : decode cX4_loadWithout 40 = .ok (.getfield 40, 3) := by decide +kernel
theorem dX4_loadWithout_43 : decode cX4_loadWithout 43 = .ok (.iadd, 1) := by decide +kernel
theorem dX4_loadWithout_44 : decode cX4_loadWithout 44 = .ok (.if_icmp .ge 45, 3) := by decide +kernel
theorem dX4_loadWithout_89 : decode cX4_loadWithout 89 = .ok (.aload_n 0, 1) := by decide +kernel
theorem dX4_loadWithout_90 : decode cX4_loadWithout 90 = .ok (.iload 5, 2) := by decide +kernel
theorem dX4_loadWithout_92 : decode cX4_loadWithout 92 = .ok (.iload 4, 2) := by decide +kernel
theorem dX4_loadWithout_94 : decode cX4_loadWithout 94 = .ok (.isub, 1) := by decide +kernel
theorem dX4_loadWithout_95 : decode cX4_loadWithout 95 = .ok (.putfield 21, 3) := by decide +kernel
theorem dX4_loadWithout_98 : decode cX4_loadWithout 98 = .ok (.iinc 3 1, 3) := by decide +kernel
theorem dX4_loadWithout_101 : decode cX4_loadWithout 101 = .ok (.goto (-94), 3) := by decide +kernel
theorem dX4_loadWithout_104 : decode cX4_loadWithout 104 = .ok (.return_, 1) := by decide +kernel
theorem dX4_tally_0 : decode cX4_tally 0 = .ok (.aload_n 3, 1) := by decide +kernel
theorem dX4_tally_1 : decode cX4_tally 1 = .ok (.invokestatic 48, 3) := by decide +kernel
theorem dX4_tally_4 : decode cX4_tally 4 = .ok (.iload_n 1, 1) := by decide +kernel
theorem dX4_tally_5 : decode cX4_tally 5 = .ok (.istore 4, 2) := by decide +kernel
theorem dX4_tally_7 : decode cX4_tally 7 = .ok (.iload 4, 2) := by decide +kernel
theorem dX4_tally_9 : decode cX4_tally 9 = .ok (.iload_n 2, 1) := by decide +kernel
theorem dX4_tally_10 : decode cX4_tally 10 = .ok (.if_icmp .ge 30, 3) := by decide +kernel
theorem dX4_tally_40 : decode cX4_tally 40 = .ok (.return_, 1) := by decide +kernel
theorem dX4_setSides_0 : decode cX4_setSides 0 = .ok (.iload_n 2, 1) := by decide +kernel
theorem dX4_setSides_1 : decode cX4_setSides 1 = .ok (.istore 5, 2) := by decide +kernel
theorem dX4_setSides_3 : decode cX4_setSides 3 = .ok (.iload 5, 2) := by decide +kernel
theorem dX4_setSides_5 : decode cX4_setSides 5 = .ok (.iload_n 3, 1) := by decide +kernel
theorem dX4_setSides_6 : decode cX4_setSides 6 = .ok (.if_icmp .ge 23, 3) := by decide +kernel
theorem dX4_setSides_29 : decode cX4_setSides 29 = .ok (.return_, 1) := by decide +kernel
theorem dX5_init_0 : decode cX5_init 0 = .ok (.aload_n 0, 1) := by decide +kernel
theorem dX5_init_1 : decode cX5_init 1 = .ok (.invokespecial 3, 3) := by decide +kernel
theorem dX5_init_4 : decode cX5_init 4 = .ok (.aload_n 0, 1) := by decide +kernel
theorem dX5_init_5 : decode cX5_init 5 = .ok (.bipush 8, 2) := by decide +kernel
theorem dX5_init_7 : decode cX5_init 7 = .ok (.newarray .int, 2) := by decide +kernel
theorem dX5_init_9 : decode cX5_init 9 = .ok (.putfield 9, 3) := by decide +kernel
theorem dX5_init_12 : decode cX5_init 12 = .ok (.aload_n 0, 1) := by decide +kernel
theorem dX5_init_13 : decode cX5_init 13 = .ok (.bipush 8, 2) := by decide +kernel
theorem dX5_init_15 : decode cX5_init 15 = .ok (.newarray .int, 2) := by decide +kernel
theorem dX5_init_17 : decode cX5_init 17 = .ok (.putfield 15, 3) := by decide +kernel
theorem dX5_init_20 : decode cX5_init 20 = .ok (.aload_n 0, 1) := by decide +kernel
theorem dX5_init_21 : decode cX5_init 21 = .ok (.bipush 8, 2) := by decide +kernel
theorem dX5_init_23 : decode cX5_init 23 = .ok (.newarray .int, 2) := by decide +kernel
theorem dX5_init_25 : decode cX5_init 25 = .ok (.putfield 18, 3) := by decide +kernel
theorem dX5_init_28 : decode cX5_init 28 = .ok (.aload_n 0, 1) := by decide +kernel
theorem dX5_init_29 : decode cX5_init 29 = .ok (.bipush 8, 2) := by decide +kernel
theorem dX5_init_31 : decode cX5_init 31 = .ok (.newarray .int, 2) := by decide +kernel
theorem dX5_init_33 : decode cX5_init 33 = .ok (.putfield 21, 3) := by decide +kernel
theorem dX5_init_36 : decode cX5_init 36 = .ok (.aload_n 0, 1) := by decide +kernel
theorem dX5_init_37 : decode cX5_init 37 = .ok (.bipush 64, 2) := by decide +kernel
theorem dX5_init_39 : decode cX5_init 39 = .ok (.newarray .int, 2) := by decide +kernel
theorem dX5_init_41 : decode cX5_init 41 = .ok (.putfield 24, 3) := by decide +kernel
theorem dX5_init_44 : decode cX5_init 44 = .ok (.aload_n 0, 1) := by decide +kernel
theorem dX5_init_45 : decode cX5_init 45 = .ok (.bipush 8, 2) := by decide +kernel
theorem dX5_init_47 : decode cX5_init 47 = .ok (.newarray .boolean, 2) := by decide +kernel
theorem dX5_init_49 : decode cX5_init 49 = .ok (.putfield 27, 3) := by decide +kernel
theorem dX5_init_52 : decode cX5_init 52 = .ok (.aload_n 0, 1) := by decide +kernel
theorem dX5_init_53 : decode cX5_init 53 = .ok (.aload_n 1, 1) := by decide +kernel
theorem dX5_init_54 : decode cX5_init 54 = .ok (.putfield 31, 3) := by decide +kernel
theorem dX5_init_57 : decode cX5_init 57 = .ok (.return_, 1) := by decide +kernel
theorem dX6_init_0 : decode cX6_init 0 = .ok (.aload_n 0, 1) := by decide +kernel
theorem dX6_init_1 : decode cX6_init 1 = .ok (.invokespecial 3, 3) := by decide +kernel
theorem dX6_init_4 : decode cX6_init 4 = .ok (.aload_n 0, 1) := by decide +kernel
theorem dX6_init_5 : decode cX6_init 5 = .ok (.sipush 511, 3) := by decide +kernel
theorem dX6_init_8 : decode cX6_init 8 = .ok (.newarray .int, 2) := by decide +kernel
theorem dX6_init_10 : decode cX6_init 10 = .ok (.putfield 9, 3) := by decide +kernel
theorem dX6_init_13 : decode cX6_init 13 = .ok (.aload_n 0, 1) := by decide +kernel
theorem dX6_init_14 : decode cX6_init 14 = .ok (.sipush 511, 3) := by decide +kernel
theorem dX6_init_17 : decode cX6_init 17 = .ok (.newarray .int, 2) := by decide +kernel
theorem dX6_init_19 : decode cX6_init 19 = .ok (.putfield 15, 3) := by decide +kernel
theorem dX6_init_22 : decode cX6_init 22 = .ok (.aload_n 0, 1) := by decide +kernel
theorem dX6_init_23 : decode cX6_init 23 = .ok (.sipush 511, 3) := by decide +kernel
theorem dX6_init_26 : decode cX6_init 26 = .ok (.newarray .int, 2) := by decide +kernel
theorem dX6_init_28 : decode cX6_init 28 = .ok (.putfield 18, 3) := by decide +kernel
theorem dX6_init_31 : decode cX6_init 31 = .ok (.aload_n 0, 1) := by decide +kernel
theorem dX6_init_32 : decode cX6_init 32 = .ok (.sipush 511, 3) := by decide +kernel
theorem dX6_init_35 : decode cX6_init 35 = .ok (.newarray .int, 2) := by decide +kernel
theorem dX6_init_37 : decode cX6_init 37 = .ok (.putfield 21, 3) := by decide +kernel
theorem dX6_init_40 : decode cX6_init 40 = .ok (.aload_n 0, 1) := by decide +kernel
theorem dX6_init_41 : decode cX6_init 41 = .ok (.sipush 511, 3) := by decide +kernel
theorem dX6_init_44 : decode cX6_init 44 = .ok (.newarray .int, 2) := by decide +kernel
theorem dX6_init_46 : decode cX6_init 46 = .ok (.putfield 24, 3) := by decide +kernel
theorem dX6_init_49 : decode cX6_init 49 = .ok (.aload_n 0, 1) := by decide +kernel
theorem dX6_init_50 : decode cX6_init 50 = .ok (.sipush 2044, 3) := by decide +kernel
theorem dX6_init_53 : decode cX6_init 53 = .ok (.newarray .int, 2) := by decide +kernel
theorem dX6_init_55 : decode cX6_init 55 = .ok (.putfield 27, 3) := by decide +kernel
theorem dX6_init_58 : decode cX6_init 58 = .ok (.aload_n 0, 1) := by decide +kernel
theorem dX6_init_59 : decode cX6_init 59 = .ok (.iconst 0, 1) := by decide +kernel
theorem dX6_init_60 : decode cX6_init 60 = .ok (.putfield 30, 3) := by decide +kernel
theorem dX6_init_63 : decode cX6_init 63 = .ok (.return_, 1) := by decide +kernel
theorem dX6_open_0 : decode cX6_open 0 = .ok (.aload_n 0, 1) := by decide +kernel
theorem dX6_open_1 : decode cX6_open 1 = .ok (.getfield 30, 3) := by decide +kernel
theorem dX6_open_4 : decode cX6_open 4 = .ok (.sipush 511, 3) := by decide +kernel
theorem dX6_open_7 : decode cX6_open 7 = .ok (.if_icmp .lt 5, 3) := by decide +kernel
theorem dX6_open_12 : decode cX6_open 12 = .ok (.aload_n 0, 1) := by decide +kernel
theorem dX6_open_13 : decode cX6_open 13 = .ok (.getfield 30, 3) := by decide +kernel
theorem dX6_open_16 : decode cX6_open 16 = .ok (.istore 4, 2) := by decide +kernel
theorem dX6_open_18 : decode cX6_open 18 = .ok (.aload_n 0, 1) := by decide +kernel
theorem dX6_open_19 : decode cX6_open 19 = .ok (.getfield 9, 3) := by decide +kernel
theorem dX6_open_22 : decode cX6_open 22 = .ok (.iload 4, 2) := by decide +kernel
theorem dX6_open_24 : decode cX6_open 24 = .ok (.iconst (-1), 1) := by decide +kernel
theorem dX6_open_25 : decode cX6_open 25 = .ok (.iastore, 1) := by decide +kernel
theorem dX6_open_26 : decode cX6_open 26 = .ok (.aload_n 0, 1) := by decide +kernel
theorem dX6_open_27 : decode cX6_open 27 = .ok (.getfield 15, 3) := by decide +kernel
theorem dX6_open_30 : decode cX6_open 30 = .ok (.iload 4, 2) := by decide +kernel
theorem dX6_open_32 : decode cX6_open 32 = .ok (.iconst 0, 1) := by decide +kernel
theorem dX6_open_33 : decode cX6_open 33 = .ok (.iastore, 1) := by decide +kernel
theorem dX6_open_34 : decode cX6_open 34 = .ok (.aload_n 0, 1) := by decide +kernel
theorem dX6_open_35 : decode cX6_open 35 = .ok (.getfield 18, 3) := by decide +kernel
theorem dX6_open_38 : decode cX6_open 38 = .ok (.iload 4, 2) := by decide +kernel
theorem dX6_open_40 : decode cX6_open 40 = .ok (.iconst (-1), 1) := by decide +kernel
theorem dX6_open_41 : decode cX6_open 41 = .ok (.iastore, 1) := by decide +kernel
theorem dX6_open_42 : decode cX6_open 42 = .ok (.aload_n 0, 1) := by decide +kernel
theorem dX6_open_43 : decode cX6_open 43 = .ok (.getfield 21, 3) := by decide +kernel
theorem dX6_open_46 : decode cX6_open 46 = .ok (.iload 4, 2) := by decide +kernel
theorem dX6_open_48 : decode cX6_open 48 = .ok (.iconst 0, 1) := by decide +kernel
theorem dX6_open_49 : decode cX6_open 49 = .ok (.iastore, 1) := by decide +kernel
theorem dX6_open_50 : decode cX6_open 50 = .ok (.aload_n 0, 1) := by decide +kernel
theorem dX6_open_51 : decode cX6_open 51 = .ok (.getfield 24, 3) := by decide +kernel
theorem dX6_open_54 : decode cX6_open 54 = .ok (.iload 4, 2) := by decide +kernel
theorem dX6_open_56 : decode cX6_open 56 = .ok (.iload_n 1, 1) := by decide +kernel
theorem dX6_open_57 : decode cX6_open 57 = .ok (.iastore, 1) := by decide +kernel
theorem dX6_open_58 : decode cX6_open 58 = .ok (.aload_n 2, 1) := by decide +kernel
theorem dX6_open_59 : decode cX6_open 59 = .ok (.iload_n 3, 1) := by decide +kernel
theorem dX6_open_60 : decode cX6_open 60 = .ok (.aload_n 0, 1) := by decide +kernel
theorem dX6_open_61 : decode cX6_open 61 = .ok (.getfield 27, 3) := by decide +kernel
theorem dX6_open_64 : decode cX6_open 64 = .ok (.iload 4, 2) := by decide +kernel
theorem dX6_open_66 : decode cX6_open 66 = .ok (.iconst 4, 1) := by decide +kernel
theorem dX6_open_67 : decode cX6_open 67 = .ok (.imul, 1) := by decide +kernel
theorem dX6_open_68 : decode cX6_open 68 = .ok (.iconst 4, 1) := by decide +kernel
theorem dX6_open_69 : decode cX6_open 69 = .ok (.invokestatic 41, 3) := by decide +kernel
theorem dX6_open_72 : decode cX6_open 72 = .ok (.aload_n 0, 1) := by decide +kernel
theorem dX6_open_73 : decode cX6_open 73 = .ok (.dup, 1) := by decide +kernel
theorem dX6_open_74 : decode cX6_open 74 = .ok (.getfield 30, 3) := by decide +kernel
theorem dX6_open_77 : decode cX6_open 77 = .ok (.iconst 1, 1) := by decide +kernel
theorem dX6_open_78 : decode cX6_open 78 = .ok (.iadd, 1) := by decide +kernel
theorem dX6_open_79 : decode cX6_open 79 = .ok (.putfield 30, 3) := by decide +kernel
theorem dX6_open_82 : decode cX6_open 82 = .ok (.iload 4, 2) := by decide +kernel
theorem dX6_open_84 : decode cX6_open 84 = .ok (.ireturn, 1) := by decide +kernel
theorem dX7_init_0 : decode cX7_init 0 = .ok (.aload_n 0, 1) := by decide +kernel
theorem dX7_init_1 : decode cX7_init 1 = .ok (.invokespecial 3, 3) := by decide +kernel
theorem dX7_init_4 : decode cX7_init 4 = .ok (.aload_n 0, 1) := by decide +kernel
theorem dX7_init_5 : decode cX7_init 5 = .ok (.new 9, 3) := by decide +kernel
theorem dX7_init_8 : decode cX7_init 8 = .ok (.dup, 1) := by decide +kernel
theorem dX7_init_9 : decode cX7_init 9 = .ok (.invokespecial 11, 3) := by decide +kernel
theorem dX7_init_12 : decode cX7_init 12 = .ok (.putfield 12, 3) := by decide +kernel
theorem dX7_init_15 : decode cX7_init 15 = .ok (.aload_n 0, 1) := by decide +kernel
theorem dX7_init_16 : decode cX7_init 16 = .ok (.new 16, 3) := by decide +kernel
theorem dX7_init_19 : decode cX7_init 19 = .ok (.dup, 1) := by decide +kernel
theorem dX7_init_20 : decode cX7_init 20 = .ok (.aload_n 0, 1) := by decide +kernel
theorem dX7_init_21 : decode cX7_init 21 = .ok (.getfield 12, 3) := by decide +kernel
theorem dX7_init_24 : decode cX7_init 24 = .ok (.invokespecial 18, 3) := by decide +kernel
theorem dX7_init_27 : decode cX7_init 27 = .ok (.putfield 21, 3) := by decide +kernel
theorem dX7_init_30 : decode cX7_init 30 = .ok (.aload_n 0, 1) := by decide +kernel
theorem dX7_init_31 : decode cX7_init 31 = .ok (.new 25, 3) := by decide +kernel
theorem dX7_init_34 : decode cX7_init 34 = .ok (.dup, 1) := by decide +kernel
theorem dX7_init_35 : decode cX7_init 35 = .ok (.aload_n 0, 1) := by decide +kernel
theorem dX7_init_36 : decode cX7_init 36 = .ok (.getfield 12, 3) := by decide +kernel
theorem dX7_init_39 : decode cX7_init 39 = .ok (.aload_n 0, 1) := by decide +kernel
theorem dX7_init_40 : decode cX7_init 40 = .ok (.getfield 21, 3) := by decide +kernel
theorem dX7_init_43 : decode cX7_init 43 = .ok (.invokespecial 27, 3) := by decide +kernel
theorem dX7_init_46 : decode cX7_init 46 = .ok (.putfield 30, 3) := by decide +kernel
theorem dX7_init_49 : decode cX7_init 49 = .ok (.aload_n 0, 1) := by decide +kernel
theorem dX7_init_50 : decode cX7_init 50 = .ok (.new 34, 3) := by decide +kernel
theorem dX7_init_53 : decode cX7_init 53 = .ok (.dup, 1) := by decide +kernel
theorem dX7_init_54 : decode cX7_init 54 = .ok (.aload_n 0, 1) := by decide +kernel
theorem dX7_init_55 : decode cX7_init 55 = .ok (.getfield 12, 3) := by decide +kernel
theorem dX7_init_58 : decode cX7_init 58 = .ok (.aload_n 0, 1) := by decide +kernel
theorem dX7_init_59 : decode cX7_init 59 = .ok (.getfield 21, 3) := by decide +kernel
theorem dX7_init_62 : decode cX7_init 62 = .ok (.invokespecial 36, 3) := by decide +kernel
theorem dX7_init_65 : decode cX7_init 65 = .ok (.putfield 37, 3) := by decide +kernel
theorem dX7_init_68 : decode cX7_init 68 = .ok (.aload_n 0, 1) := by decide +kernel
theorem dX7_init_69 : decode cX7_init 69 = .ok (.new 41, 3) := by decide +kernel
theorem dX7_init_72 : decode cX7_init 72 = .ok (.dup, 1) := by decide +kernel
theorem dX7_init_73 : decode cX7_init 73 = .ok (.invokespecial 43, 3) := by decide +kernel
theorem dX7_init_76 : decode cX7_init 76 = .ok (.putfield 44, 3) := by decide +kernel
theorem dX7_init_79 : decode cX7_init 79 = .ok (.aload_n 0, 1) := by decide +kernel
theorem dX7_init_80 : decode cX7_init 80 = .ok (.new 48, 3) := by decide +kernel
theorem dX7_init_83 : decode cX7_init 83 = .ok (.dup, 1) := by decide +kernel
theorem dX7_init_84 : decode cX7_init 84 = .ok (.aload_n 0, 1) := by decide +kernel
theorem dX7_init_85 : decode cX7_init 85 = .ok (.getfield 12, 3) := by decide +kernel
theorem dX7_init_88 : decode cX7_init 88 = .ok (.getfield 50, 3) := by decide +kernel
theorem dX7_init_91 : decode cX7_init 91 = .ok (.invokespecial 54, 3) := by decide +kernel
theorem dX7_init_94 : decode cX7_init 94 = .ok (.putfield 57, 3) := by decide +kernel
theorem dX7_init_97 : decode cX7_init 97 = .ok (.aload_n 0, 1) := by decide +kernel
theorem dX7_init_98 : decode cX7_init 98 = .ok (.bipush 21, 2) := by decide +kernel
theorem dX7_init_100 : decode cX7_init 100 = .ok (.anewarray 61, 3) := by decide +kernel
theorem dX7_init_103 : decode cX7_init 103 = .ok (.putfield 63, 3) := by decide +kernel
theorem dX7_init_106 : decode cX7_init 106 = .ok (.aload_n 0, 1) := by decide +kernel
theorem dX7_init_107 : decode cX7_init 107 = .ok (.bipush 8, 2) := by decide +kernel
theorem dX7_init_109 : decode cX7_init 109 = .ok (.newarray .int, 2) := by decide +kernel
theorem dX7_init_111 : decode cX7_init 111 = .ok (.putfield 67, 3) := by decide +kernel
theorem dX7_init_114 : decode cX7_init 114 = .ok (.aload_n 0, 1) := by decide +kernel
theorem dX7_init_115 : decode cX7_init 115 = .ok (.bipush 8, 2) := by decide +kernel
theorem dX7_init_117 : decode cX7_init 117 = .ok (.newarray .int, 2) := by decide +kernel
theorem dX7_init_119 : decode cX7_init 119 = .ok (.putfield 70, 3) := by decide +kernel
theorem dX7_init_122 : decode cX7_init 122 = .ok (.aload_n 0, 1) := by decide +kernel
theorem dX7_init_123 : decode cX7_init 123 = .ok (.iconst 4, 1) := by decide +kernel
theorem dX7_init_124 : decode cX7_init 124 = .ok (.newarray .int, 2) := by decide +kernel
theorem dX7_init_126 : decode cX7_init 126 = .ok (.putfield 73, 3) := by decide +kernel
theorem dX7_init_129 : decode cX7_init 129 = .ok (.aload_n 0, 1) := by decide +kernel
theorem dX7_init_130 : decode cX7_init 130 = .ok (.iconst 0, 1) := by decide +kernel
theorem dX7_init_131 : decode cX7_init 131 = .ok (.putfield 76, 3) := by decide +kernel
theorem dX7_init_134 : decode cX7_init 134 = .ok (.aload_n 0, 1) := by decide +kernel
theorem dX7_init_135 : decode cX7_init 135 = .ok (.iconst (-1), 1) := by decide +kernel
theorem dX7_init_136 : decode cX7_init 136 = .ok (.putfield 80, 3) := by decide +kernel
theorem dX7_init_139 : decode cX7_init 139 = .ok (.aload_n 0, 1) := by decide +kernel
theorem dX7_init_140 : decode cX7_init 140 = .ok (.iconst (-1), 1) := by decide +kernel
theorem dX7_init_141 : decode cX7_init 141 = .ok (.putfield 83, 3) := by decide +kernel
theorem dX7_init_144 : decode cX7_init 144 = .ok (.aload_n 0, 1) := by decide +kernel
theorem dX7_init_145 : decode cX7_init 145 = .ok (.iconst 0, 1) := by decide +kernel
theorem dX7_init_146 : decode cX7_init 146 = .ok (.putfield 86, 3) := by decide +kernel
theorem dX7_init_149 : decode cX7_init 149 = .ok (.return_, 1) := by decide +kernel
theorem dX7_sort_0 : decode cX7_sort 0 = .ok (.iload_n 1, 1) := by decide +kernel
theorem dX7_sort_1 : decode cX7_sort 1 = .ok (.invokestatic 90, 3) := by decide +kernel
theorem dX7_sort_4 : decode cX7_sort 4 = .ok (.ifCond .eq 29, 3) := by decide +kernel
theorem dX7_sort_7 : decode cX7_sort 7 = .ok (.iload_n 2, 1) := by decide +kernel
theorem dX7_sort_8 : decode cX7_sort 8 = .ok (.ifCond .lt 25, 3) := by decide +kernel
theorem dX7_sort_11 : decode cX7_sort 11 = .ok (.iload_n 2, 1) := by decide +kernel
theorem dX7_sort_12 : decode cX7_sort 12 = .ok (.iconst 1, 1) := by decide +kernel
theorem dX7_sort_13 : decode cX7_sort 13 = .ok (.if_icmp .gt 20, 3) := by decide +kernel
theorem dX7_sort_16 : decode cX7_sort 16 = .ok (.aload_n 0, 1) := by decide +kernel
theorem dX7_sort_17 : decode cX7_sort 17 = .ok (.getfield 12, 3) := by decide +kernel
theorem dX7_sort_20 : decode cX7_sort 20 = .ok (.getfield 94, 3) := by decide +kernel
theorem dX7_sort_23 : decode cX7_sort 23 = .ok (.ifCond .gt 10, 3) := by decide +kernel
theorem dX7_sort_26 : decode cX7_sort 26 = .ok (.aload_n 0, 1) := by decide +kernel
theorem dX7_sort_27 : decode cX7_sort 27 = .ok (.getfield 76, 3) := by decide +kernel
theorem dX7_sort_30 : decode cX7_sort 30 = .ok (.ifCond .le 5, 3) := by decide +kernel
theorem dX7_sort_33 : decode cX7_sort 33 = .ok (.iconst (-1), 1) := by decide +kernel
theorem dX7_sort_34 : decode cX7_sort 34 = .ok (.ireturn, 1) := by decide +kernel
theorem dX7_sort_35 : decode cX7_sort 35 = .ok (.aload_n 0, 1) := by decide +kernel
theorem dX7_sort_36 : decode cX7_sort 36 = .ok (.getfield 12, 3) := by decide +kernel
theorem dX7_sort_39 : decode cX7_sort 39 = .ok (.getfield 50, 3) := by decide +kernel
theorem dX7_sort_42 : decode cX7_sort 42 = .ok (.iload_n 1, 1) := by decide +kernel
theorem dX7_sort_43 : decode cX7_sort 43 = .ok (.iaload, 1) := by decide +kernel
theorem dX7_sort_44 : decode cX7_sort 44 = .ok (.istore_n 3, 1) := by decide +kernel
theorem dX7_sort_45 : decode cX7_sort 45 = .ok (.aload_n 0, 1) := by decide +kernel
theorem dX7_sort_46 : decode cX7_sort 46 = .ok (.getfield 12, 3) := by decide +kernel
theorem dX7_sort_49 : decode cX7_sort 49 = .ok (.getfield 50, 3) := by decide +kernel
theorem dX7_sort_52 : decode cX7_sort 52 = .ok (.iload_n 1, 1) := by decide +kernel
theorem dX7_sort_53 : decode cX7_sort 53 = .ok (.iload_n 2, 1) := by decide +kernel
theorem dX7_sort_54 : decode cX7_sort 54 = .ok (.iastore, 1) := by decide +kernel
theorem dX7_sort_55 : decode cX7_sort 55 = .ok (.iload_n 3, 1) := by decide +kernel
theorem dX7_sort_56 : decode cX7_sort 56 = .ok (.ireturn, 1) := by decide +kernel
theorem dX7_add_0 : decode cX7_add 0 = .ok (.iload_n 1, 1) := by decide +kernel
theorem dX7_add_1 : decode cX7_add 1 = .ok (.invokestatic 97, 3) := by decide +kernel
theorem dX7_add_4 : decode cX7_add 4 = .ok (.ifCond .eq 16, 3) := by decide +kernel
theorem dX7_add_7 : decode cX7_add 7 = .ok (.aload_n 0, 1) := by decide +kernel
theorem dX7_add_8 : decode cX7_add 8 = .ok (.iload_n 2, 1) := by decide +kernel
theorem dX7_add_9 : decode cX7_add 9 = .ok (.iload_n 3, 1) := by decide +kernel
theorem dX7_add_10 : decode cX7_add 10 = .ok (.iload 4, 2) := by decide +kernel
theorem dX7_add_12 : decode cX7_add 12 = .ok (.iload 5, 2) := by decide +kernel
theorem dX7_add_14 : decode cX7_add 14 = .ok (.invokevirtual 100, 3) := by decide +kernel
theorem dX7_add_17 : decode cX7_add 17 = .ok (.ifCond .ne 5, 3) := by decide +kernel
theorem dX7_add_20 : decode cX7_add 20 = .ok (.iconst (-1), 1) := by decide +kernel
theorem dX7_add_21 : decode cX7_add 21 = .ok (.ireturn, 1) := by decide +kernel
theorem dX7_add_22 : decode cX7_add 22 = .ok (.aload_n 0, 1) := by decide +kernel
theorem dX7_add_23 : decode cX7_add 23 = .ok (.getfield 12, 3) := by decide +kernel
theorem dX7_add_26 : decode cX7_add 26 = .ok (.getfield 94, 3) := by decide +kernel
theorem dX7_add_29 : decode cX7_add 29 = .ok (.sipush 300, 3) := by decide +kernel
theorem dX7_add_32 : decode cX7_add 32 = .ok (.if_icmp .lt 6, 3) := by decide +kernel
theorem dX7_add_38 : decode cX7_add 38 = .ok (.aload_n 0, 1) := by decide +kernel
theorem dX7_add_39 : decode cX7_add 39 = .ok (.getfield 12, 3) := by decide +kernel
theorem dX7_add_42 : decode cX7_add 42 = .ok (.iload_n 1, 1) := by decide +kernel
theorem dX7_add_43 : decode cX7_add 43 = .ok (.aload_n 0, 1) := by decide +kernel
theorem dX7_add_44 : decode cX7_add 44 = .ok (.getfield 67, 3) := by decide +kernel
theorem dX7_add_47 : decode cX7_add 47 = .ok (.invokevirtual 104, 3) := by decide +kernel
theorem dX7_add_50 : decode cX7_add 50 = .ok (.aload_n 0, 1) := by decide +kernel
theorem dX7_add_51 : decode cX7_add 51 = .ok (.getfield 12, 3) := by decide +kernel
theorem dX7_add_54 : decode cX7_add 54 = .ok (.getfield 94, 3) := by decide +kernel
theorem dX7_add_57 : decode cX7_add 57 = .ok (.iconst 1, 1) := by decide +kernel
theorem dX7_add_58 : decode cX7_add 58 = .ok (.isub, 1) := by decide +kernel
theorem dX7_add_59 : decode cX7_add 59 = .ok (.ireturn, 1) := by decide +kernel
theorem dX7_drop_0 : decode cX7_drop 0 = .ok (.aload_n 0, 1) := by decide +kernel
theorem dX7_drop_1 : decode cX7_drop 1 = .ok (.iload_n 1, 1) := by decide +kernel
theorem dX7_drop_2 : decode cX7_drop 2 = .ok (.invokevirtual 108, 3) := by decide +kernel
theorem dX7_drop_5 : decode cX7_drop 5 = .ok (.ifCond .ne 5, 3) := by decide +kernel
theorem dX7_drop_8 : decode cX7_drop 8 = .ok (.iconst (-1), 1) := by decide +kernel
theorem dX7_drop_9 : decode cX7_drop 9 = .ok (.ireturn, 1) := by decide +kernel
theorem dX7_mark_0 : decode cX7_mark 0 = .ok (.aload_n 0, 1) := by decide +kernel
theorem dX7_mark_1 : decode cX7_mark 1 = .ok (.iload_n 1, 1) := by decide +kernel
theorem dX7_mark_2 : decode cX7_mark 2 = .ok (.invokevirtual 108, 3) := by decide +kernel
theorem dX7_mark_5 : decode cX7_mark 5 = .ok (.ifCond .eq 27, 3) := by decide +kernel
theorem dX7_mark_32 : decode cX7_mark 32 = .ok (.ldc 118, 2) := by decide +kernel
theorem dX7_mark_34 : decode cX7_mark 34 = .ok (.ireturn, 1) := by decide +kernel
theorem dX7_cls_0 : decode cX7_cls 0 = .ok (.aload_n 0, 1) := by decide +kernel
theorem dX7_cls_1 : decode cX7_cls 1 = .ok (.iload_n 1, 1) := by decide +kernel
theorem dX7_cls_2 : decode cX7_cls 2 = .ok (.invokevirtual 108, 3) := by decide +kernel
theorem dX7_cls_5 : decode cX7_cls 5 = .ok (.ifCond .eq 15, 3) := by decide +kernel
theorem dX7_cls_20 : decode cX7_cls 20 = .ok (.iconst (-1), 1) := by decide +kernel
theorem dX7_cls_21 : decode cX7_cls 21 = .ok (.ireturn, 1) := by decide +kernel
theorem dX7_grow_0 : decode cX7_grow 0 = .ok (.iload_n 1, 1) := by decide +kernel
theorem dX7_grow_1 : decode cX7_grow 1 = .ok (.iload_n 2, 1) := by decide +kernel
theorem dX7_grow_2 : decode cX7_grow 2 = .ok (.invokestatic 122, 3) := by decide +kernel
theorem dX7_grow_5 : decode cX7_grow 5 = .ok (.ifCond .ne 5, 3) := by decide +kernel
theorem dX7_grow_8 : decode cX7_grow 8 = .ok (.iconst (-1), 1) := by decide +kernel
theorem dX7_grow_9 : decode cX7_grow 9 = .ok (.ireturn, 1) := by decide +kernel
theorem dX7_grow_10 : decode cX7_grow 10 = .ok (.aload_n 0, 1) := by decide +kernel
theorem dX7_grow_11 : decode cX7_grow 11 = .ok (.getfield 76, 3) := by decide +kernel
theorem dX7_grow_14 : decode cX7_grow 14 = .ok (.bipush 20, 2) := by decide +kernel
theorem dX7_grow_16 : decode cX7_grow 16 = .ok (.if_icmp .lt 6, 3) := by decide +kernel
theorem dX7_grow_22 : decode cX7_grow 22 = .ok (.aload_n 0, 1) := by decide +kernel
theorem dX7_grow_23 : decode cX7_grow 23 = .ok (.getfield 21, 3) := by decide +kernel
theorem dX7_grow_26 : decode cX7_grow 26 = .ok (.invokevirtual 126, 3) := by decide +kernel
theorem dX7_grow_29 : decode cX7_grow 29 = .ok (.aload_n 0, 1) := by decide +kernel
theorem dX7_grow_30 : decode cX7_grow 30 = .ok (.getfield 30, 3) := by decide +kernel
theorem dX7_grow_33 : decode cX7_grow 33 = .ok (.aload_n 0, 1) := by decide +kernel
theorem dX7_grow_34 : decode cX7_grow 34 = .ok (.aload_n 0, 1) := by decide +kernel
theorem dX7_grow_35 : decode cX7_grow 35 = .ok (.getfield 76, 3) := by decide +kernel
theorem dX7_grow_38 : decode cX7_grow 38 = .ok (.invokevirtual 129, 3) := by decide +kernel
theorem dX7_grow_41 : decode cX7_grow 41 = .ok (.iload_n 1, 1) := by decide +kernel
theorem dX7_grow_42 : decode cX7_grow 42 = .ok (.iload_n 2, 1) := by decide +kernel
theorem dX7_grow_43 : decode cX7_grow 43 = .ok (.invokevirtual 133, 3) := by decide +kernel
theorem dX7_grow_46 : decode cX7_grow 46 = .ok (.aload_n 0, 1) := by decide +kernel
theorem dX7_grow_47 : decode cX7_grow 47 = .ok (.dup, 1) := by decide +kernel
theorem dX7_grow_48 : decode cX7_grow 48 = .ok (.getfield 76, 3) := by decide +kernel
theorem dX7_grow_51 : decode cX7_grow 51 = .ok (.iconst 1, 1) := by decide +kernel
theorem dX7_grow_52 : decode cX7_grow 52 = .ok (.iadd, 1) := by decide +kernel
theorem dX7_grow_53 : decode cX7_grow 53 = .ok (.putfield 76, 3) := by decide +kernel
theorem dX7_grow_56 : decode cX7_grow 56 = .ok (.aload_n 0, 1) := by decide +kernel
theorem dX7_grow_57 : decode cX7_grow 57 = .ok (.getfield 76, 3) := by decide +kernel
theorem dX7_grow_60 : decode cX7_grow 60 = .ok (.iconst 1, 1) := by decide +kernel
theorem dX7_grow_61 : decode cX7_grow 61 = .ok (.isub, 1) := by decide +kernel
theorem dX7_grow_62 : decode cX7_grow 62 = .ok (.ireturn, 1) := by decide +kernel
theorem dX7_best_0 : decode cX7_best 0 = .ok (.iload_n 1, 1) := by decide +kernel
theorem dX7_best_1 : decode cX7_best 1 = .ok (.ifCond .lt 8, 3) := by decide +kernel
theorem dX7_best_4 : decode cX7_best 4 = .ok (.iload_n 1, 1) := by decide +kernel
theorem dX7_best_5 : decode cX7_best 5 = .ok (.iconst 2, 1) := by decide +kernel
theorem dX7_best_6 : decode cX7_best 6 = .ok (.if_icmp .le 5, 3) := by decide +kernel
theorem dX7_best_9 : decode cX7_best 9 = .ok (.iconst (-1), 1) := by decide +kernel
theorem dX7_best_10 : decode cX7_best 10 = .ok (.ireturn, 1) := by decide +kernel
theorem dX7_best_11 : decode cX7_best 11 = .ok (.aload_n 0, 1) := by decide +kernel
theorem dX7_best_12 : decode cX7_best 12 = .ok (.getfield 12, 3) := by decide +kernel
theorem dX7_best_15 : decode cX7_best 15 = .ok (.getfield 94, 3) := by decide +kernel
theorem dX7_best_18 : decode cX7_best 18 = .ok (.bipush 50, 2) := by decide +kernel
theorem dX7_best_20 : decode cX7_best 20 = .ok (.if_icmp .le 6, 3) := by decide +kernel
theorem dX7_best_26 : decode cX7_best 26 = .ok (.aload_n 0, 1) := by decide +kernel
theorem dX7_best_27 : decode cX7_best 27 = .ok (.getfield 12, 3) := by decide +kernel
theorem dX7_best_30 : decode cX7_best 30 = .ok (.invokevirtual 137, 3) := by decide +kernel
theorem dX7_best_33 : decode cX7_best 33 = .ok (.ifCond .eq 6, 3) := by decide +kernel
theorem dX7_best_39 : decode cX7_best 39 = .ok (.aload_n 0, 1) := by decide +kernel
theorem dX7_best_40 : decode cX7_best 40 = .ok (.getfield 76, 3) := by decide +kernel
theorem dX7_best_43 : decode cX7_best 43 = .ok (.bipush 20, 2) := by decide +kernel
theorem dX7_best_45 : decode cX7_best 45 = .ok (.if_icmp .lt 6, 3) := by decide +kernel
theorem dX7_best_51 : decode cX7_best 51 = .ok (.aload_n 0, 1) := by decide +kernel
theorem dX7_best_52 : decode cX7_best 52 = .ok (.getfield 21, 3) := by decide +kernel
theorem dX7_best_55 : decode cX7_best 55 = .ok (.invokevirtual 126, 3) := by decide +kernel
theorem dX7_best_58 : decode cX7_best 58 = .ok (.aload_n 0, 1) := by decide +kernel
theorem dX7_best_59 : decode cX7_best 59 = .ok (.getfield 37, 3) := by decide +kernel
theorem dX7_best_62 : decode cX7_best 62 = .ok (.aload_n 0, 1) := by decide +kernel
theorem dX7_best_63 : decode cX7_best 63 = .ok (.aload_n 0, 1) := by decide +kernel
theorem dX7_best_64 : decode cX7_best 64 = .ok (.getfield 76, 3) := by decide +kernel
theorem dX7_best_67 : decode cX7_best 67 = .ok (.invokevirtual 129, 3) := by decide +kernel
theorem dX7_best_70 : decode cX7_best 70 = .ok (.iload_n 1, 1) := by decide +kernel
theorem dX7_best_71 : decode cX7_best 71 = .ok (.invokevirtual 141, 3) := by decide +kernel
theorem dX7_best_74 : decode cX7_best 74 = .ok (.aload_n 0, 1) := by decide +kernel
theorem dX7_best_75 : decode cX7_best 75 = .ok (.dup, 1) := by decide +kernel
theorem dX7_best_76 : decode cX7_best 76 = .ok (.getfield 76, 3) := by decide +kernel
theorem dX7_best_79 : decode cX7_best 79 = .ok (.iconst 1, 1) := by decide +kernel
theorem dX7_best_80 : decode cX7_best 80 = .ok (.iadd, 1) := by decide +kernel
theorem dX7_best_81 : decode cX7_best 81 = .ok (.putfield 76, 3) := by decide +kernel
theorem dX7_best_84 : decode cX7_best 84 = .ok (.aload_n 0, 1) := by decide +kernel
theorem dX7_best_85 : decode cX7_best 85 = .ok (.getfield 76, 3) := by decide +kernel
theorem dX7_best_88 : decode cX7_best 88 = .ok (.iconst 1, 1) := by decide +kernel
theorem dX7_best_89 : decode cX7_best 89 = .ok (.isub, 1) := by decide +kernel
theorem dX7_best_90 : decode cX7_best 90 = .ok (.ireturn, 1) := by decide +kernel
theorem dX7_cut_0 : decode cX7_cut 0 = .ok (.aload_n 0, 1) := by decide +kernel
theorem dX7_cut_1 : decode cX7_cut 1 = .ok (.iload_n 1, 1) := by decide +kernel
theorem dX7_cut_2 : decode cX7_cut 2 = .ok (.invokevirtual 145, 3) := by decide +kernel
theorem dX7_cut_5 : decode cX7_cut 5 = .ok (.astore 4, 2) := by decide +kernel
theorem dX7_cut_7 : decode cX7_cut 7 = .ok (.aload 4, 2) := by decide +kernel
theorem dX7_cut_9 : decode cX7_cut 9 = .ok (.ifnull 26, 3) := by decide +kernel
theorem dX7_cut_35 : decode cX7_cut 35 = .ok (.iconst (-1), 1) := by decide +kernel
theorem dX7_cut_36 : decode cX7_cut 36 = .ok (.ireturn, 1) := by decide +kernel
theorem dX7_price_0 : decode cX7_price 0 = .ok (.aload_n 0, 1) := by decide +kernel
theorem dX7_price_1 : decode cX7_price 1 = .ok (.iload_n 1, 1) := by decide +kernel
theorem dX7_price_2 : decode cX7_price 2 = .ok (.invokevirtual 145, 3) := by decide +kernel
theorem dX7_price_5 : decode cX7_price 5 = .ok (.astore_n 3, 1) := by decide +kernel
theorem dX7_price_6 : decode cX7_price 6 = .ok (.aload_n 3, 1) := by decide +kernel
theorem dX7_price_7 : decode cX7_price 7 = .ok (.ifnull 20, 3) := by decide +kernel
theorem dX7_price_27 : decode cX7_price 27 = .ok (.iconst (-1), 1) := by decide +kernel
theorem dX7_price_28 : decode cX7_price 28 = .ok (.ireturn, 1) := by decide +kernel
theorem dX7_folds_0 : decode cX7_folds 0 = .ok (.iload_n 1, 1) := by decide +kernel
theorem dX7_folds_1 : decode cX7_folds 1 = .ok (.iconst 2, 1) := by decide +kernel
theorem dX7_folds_2 : decode cX7_folds 2 = .ok (.if_icmp .lt 17, 3) := by decide +kernel
theorem dX7_folds_5 : decode cX7_folds 5 = .ok (.iload_n 1, 1) := by decide +kernel
theorem dX7_folds_6 : decode cX7_folds 6 = .ok (.bipush 10, 2) := by decide +kernel
theorem dX7_folds_8 : decode cX7_folds 8 = .ok (.if_icmp .gt 11, 3) := by decide +kernel
theorem dX7_folds_11 : decode cX7_folds 11 = .ok (.iload_n 2, 1) := by decide +kernel
theorem dX7_folds_12 : decode cX7_folds 12 = .ok (.iload_n 3, 1) := by decide +kernel
theorem dX7_folds_13 : decode cX7_folds 13 = .ok (.invokestatic 122, 3) := by decide +kernel
theorem dX7_folds_16 : decode cX7_folds 16 = .ok (.ifCond .ne 5, 3) := by decide +kernel
theorem dX7_folds_19 : decode cX7_folds 19 = .ok (.iconst (-1), 1) := by decide +kernel
theorem dX7_folds_20 : decode cX7_folds 20 = .ok (.ireturn, 1) := by decide +kernel
theorem dX7_folds_21 : decode cX7_folds 21 = .ok (.iconst 0, 1) := by decide +kernel
theorem dX7_folds_22 : decode cX7_folds 22 = .ok (.istore 4, 2) := by decide +kernel
theorem dX7_folds_24 : decode cX7_folds 24 = .ok (.iconst 0, 1) := by decide +kernel
theorem dX7_folds_25 : decode cX7_folds 25 = .ok (.istore 5, 2) := by decide +kernel
theorem dX7_folds_27 : decode cX7_folds 27 = .ok (.iload 5, 2) := by decide +kernel
theorem dX7_folds_29 : decode cX7_folds 29 = .ok (.iload_n 1, 1) := by decide +kernel
theorem dX7_folds_30 : decode cX7_folds 30 = .ok (.if_icmp .ge 76, 3) := by decide +kernel
theorem dX7_folds_33 : decode cX7_folds 33 = .ok (.aload_n 0, 1) := by decide +kernel
theorem dX7_folds_34 : decode cX7_folds 34 = .ok (.bipush 20, 2) := by decide +kernel
theorem dX7_folds_36 : decode cX7_folds 36 = .ok (.invokevirtual 129, 3) := by decide +kernel
theorem dX7_folds_39 : decode cX7_folds 39 = .ok (.astore 6, 2) := by decide +kernel
theorem dX7_folds_41 : decode cX7_folds 41 = .ok (.aload_n 0, 1) := by decide +kernel
theorem dX7_folds_42 : decode cX7_folds 42 = .ok (.getfield 21, 3) := by decide +kernel
theorem dX7_folds_45 : decode cX7_folds 45 = .ok (.iload 5, 2) := by decide +kernel
theorem dX7_folds_47 : decode cX7_folds 47 = .ok (.iload_n 1, 1) := by decide +kernel
theorem dX7_folds_48 : decode cX7_folds 48 = .ok (.invokevirtual 163, 3) := by decide +kernel
theorem dX7_folds_51 : decode cX7_folds 51 = .ok (.aload_n 0, 1) := by decide +kernel
theorem dX7_folds_52 : decode cX7_folds 52 = .ok (.getfield 30, 3) := by decide +kernel
theorem dX7_folds_55 : decode cX7_folds 55 = .ok (.aload 6, 2) := by decide +kernel
theorem dX7_folds_57 : decode cX7_folds 57 = .ok (.iload_n 2, 1) := by decide +kernel
theorem dX7_folds_58 : decode cX7_folds 58 = .ok (.iload_n 3, 1) := by decide +kernel
theorem dX7_folds_59 : decode cX7_folds 59 = .ok (.invokevirtual 133, 3) := by decide +kernel
theorem dX7_folds_62 : decode cX7_folds 62 = .ok (.iload 5, 2) := by decide +kernel
theorem dX7_folds_64 : decode cX7_folds 64 = .ok (.istore 7, 2) := by decide +kernel
theorem dX7_folds_66 : decode cX7_folds 66 = .ok (.iload 7, 2) := by decide +kernel
theorem dX7_folds_68 : decode cX7_folds 68 = .ok (.aload_n 0, 1) := by decide +kernel
theorem dX7_folds_69 : decode cX7_folds 69 = .ok (.getfield 12, 3) := by decide +kernel
theorem dX7_folds_72 : decode cX7_folds 72 = .ok (.getfield 94, 3) := by decide +kernel
theorem dX7_folds_75 : decode cX7_folds 75 = .ok (.if_icmp .ge 25, 3) := by decide +kernel
theorem dX7_folds_100 : decode cX7_folds 100 = .ok (.iinc 5 1, 3) := by decide +kernel
theorem dX7_folds_103 : decode cX7_folds 103 = .ok (.goto (-76), 3) := by decide +kernel
theorem dX7_folds_106 : decode cX7_folds 106 = .ok (.iload 4, 2) := by decide +kernel
theorem dX7_folds_108 : decode cX7_folds 108 = .ok (.ireturn, 1) := by decide +kernel
theorem dX7_remove_0 : decode cX7_remove 0 = .ok (.aload_n 0, 1) := by decide +kernel
theorem dX7_remove_1 : decode cX7_remove 1 = .ok (.getfield 76, 3) := by decide +kernel
theorem dX7_remove_4 : decode cX7_remove 4 = .ok (.ifCond .ne 5, 3) := by decide +kernel
theorem dX7_remove_7 : decode cX7_remove 7 = .ok (.iconst (-1), 1) := by decide +kernel
theorem dX7_remove_8 : decode cX7_remove 8 = .ok (.ireturn, 1) := by decide +kernel
theorem dX7_tree_0 : decode cX7_tree 0 = .ok (.aload_n 0, 1) := by decide +kernel
theorem dX7_tree_1 : decode cX7_tree 1 = .ok (.iload_n 1, 1) := by decide +kernel
theorem dX7_tree_2 : decode cX7_tree 2 = .ok (.invokevirtual 145, 3) := by decide +kernel
theorem dX7_tree_5 : decode cX7_tree 5 = .ok (.astore_n 3, 1) := by decide +kernel
theorem dX7_tree_6 : decode cX7_tree 6 = .ok (.aload_n 3, 1) := by decide +kernel
theorem dX7_tree_7 : decode cX7_tree 7 = .ok (.ifnonnull 5, 3) := by decide +kernel
theorem dX7_tree_10 : decode cX7_tree 10 = .ok (.iconst (-1), 1) := by decide +kernel
theorem dX7_tree_11 : decode cX7_tree 11 = .ok (.ireturn, 1) := by decide +kernel
theorem dX7_node_0 : decode cX7_node 0 = .ok (.aload_n 0, 1) := by decide +kernel
theorem dX7_node_1 : decode cX7_node 1 = .ok (.iload_n 1, 1) := by decide +kernel
theorem dX7_node_2 : decode cX7_node 2 = .ok (.invokevirtual 145, 3) := by decide +kernel
theorem dX7_node_5 : decode cX7_node 5 = .ok (.astore 4, 2) := by decide +kernel
theorem dX7_node_7 : decode cX7_node 7 = .ok (.aload 4, 2) := by decide +kernel
theorem dX7_node_9 : decode cX7_node 9 = .ok (.ifnull 12, 3) := by decide +kernel
theorem dX7_node_21 : decode cX7_node 21 = .ok (.iconst (-1), 1) := by decide +kernel
theorem dX7_node_22 : decode cX7_node 22 = .ok (.ireturn, 1) := by decide +kernel
theorem dX7_share_0 : decode cX7_share 0 = .ok (.aload_n 0, 1) := by decide +kernel
theorem dX7_share_1 : decode cX7_share 1 = .ok (.iload_n 1, 1) := by decide +kernel
theorem dX7_share_2 : decode cX7_share 2 = .ok (.invokevirtual 145, 3) := by decide +kernel
theorem dX7_share_5 : decode cX7_share 5 = .ok (.astore 4, 2) := by decide +kernel
theorem dX7_share_7 : decode cX7_share 7 = .ok (.aload 4, 2) := by decide +kernel
theorem dX7_share_9 : decode cX7_share 9 = .ok (.ifnull 19, 3) := by decide +kernel
theorem dX7_share_28 : decode cX7_share 28 = .ok (.iconst (-1), 1) := by decide +kernel
theorem dX7_share_29 : decode cX7_share 29 = .ok (.ireturn, 1) := by decide +kernel
theorem dX7_say_0 : decode cX7_say 0 = .ok (.aload_n 0, 1) := by decide +kernel
theorem dX7_say_1 : decode cX7_say 1 = .ok (.iload_n 1, 1) := by decide +kernel
theorem dX7_say_2 : decode cX7_say 2 = .ok (.invokevirtual 145, 3) := by decide +kernel
theorem dX7_say_5 : decode cX7_say 5 = .ok (.astore 6, 2) := by decide +kernel
theorem dX7_say_7 : decode cX7_say 7 = .ok (.aload 6, 2) := by decide +kernel
theorem dX7_say_9 : decode cX7_say 9 = .ok (.ifnull 16, 3) := by decide +kernel
theorem dX7_say_25 : decode cX7_say 25 = .ok (.iconst (-1), 1) := by decide +kernel
theorem dX7_say_26 : decode cX7_say 26 = .ok (.ireturn, 1) := by decide +kernel
theorem dX7_said_0 : decode cX7_said 0 = .ok (.aload_n 0, 1) := by decide +kernel
theorem dX7_said_1 : decode cX7_said 1 = .ok (.getfield 80, 3) := by decide +kernel
theorem dX7_said_4 : decode cX7_said 4 = .ok (.ireturn, 1) := by decide +kernel
theorem dX7_vote_0 : decode cX7_vote 0 = .ok (.aload_n 0, 1) := by decide +kernel
theorem dX7_vote_1 : decode cX7_vote 1 = .ok (.getfield 76, 3) := by decide +kernel
theorem dX7_vote_4 : decode cX7_vote 4 = .ok (.ifCond .eq 15, 3) := by decide +kernel
theorem dX7_vote_19 : decode cX7_vote 19 = .ok (.iconst (-1), 1) := by decide +kernel
theorem dX7_vote_20 : decode cX7_vote 20 = .ok (.ireturn, 1) := by decide +kernel
theorem dX7_voices_0 : decode cX7_voices 0 = .ok (.aload_n 0, 1) := by decide +kernel
theorem dX7_voices_1 : decode cX7_voices 1 = .ok (.getfield 83, 3) := by decide +kernel
theorem dX7_voices_4 : decode cX7_voices 4 = .ok (.ireturn, 1) := by decide +kernel
theorem dX7_rule_0 : decode cX7_rule 0 = .ok (.aload_n 0, 1) := by decide +kernel
theorem dX7_rule_1 : decode cX7_rule 1 = .ok (.iload_n 1, 1) := by decide +kernel
theorem dX7_rule_2 : decode cX7_rule 2 = .ok (.invokevirtual 145, 3) := by decide +kernel
theorem dX7_rule_5 : decode cX7_rule 5 = .ok (.astore 5, 2) := by decide +kernel
theorem dX7_rule_7 : decode cX7_rule 7 = .ok (.aload 5, 2) := by decide +kernel
theorem dX7_rule_9 : decode cX7_rule 9 = .ok (.ifnull 39, 3) := by decide +kernel
theorem dX7_rule_48 : decode cX7_rule 48 = .ok (.ldc 118, 2) := by decide +kernel
theorem dX7_rule_50 : decode cX7_rule 50 = .ok (.ireturn, 1) := by decide +kernel
theorem dX7_near_0 : decode cX7_near 0 = .ok (.aload_n 0, 1) := by decide +kernel
theorem dX7_near_1 : decode cX7_near 1 = .ok (.iload_n 1, 1) := by decide +kernel
theorem dX7_near_2 : decode cX7_near 2 = .ok (.invokevirtual 145, 3) := by decide +kernel
theorem dX7_near_5 : decode cX7_near 5 = .ok (.astore 6, 2) := by decide +kernel
theorem dX7_near_7 : decode cX7_near 7 = .ok (.aload 6, 2) := by decide +kernel
theorem dX7_near_9 : decode cX7_near 9 = .ok (.ifnull 23, 3) := by decide +kernel
theorem dX7_near_32 : decode cX7_near 32 = .ok (.iconst (-1), 1) := by decide +kernel
theorem dX7_near_33 : decode cX7_near 33 = .ok (.ireturn, 1) := by decide +kernel
theorem dX7_turned_0 : decode cX7_turned 0 = .ok (.iload_n 1, 1) := by decide +kernel
theorem dX7_turned_1 : decode cX7_turned 1 = .ok (.invokestatic 90, 3) := by decide +kernel
theorem dX7_turned_4 : decode cX7_turned 4 = .ok (.ifCond .eq 19, 3) := by decide +kernel
theorem dX7_turned_7 : decode cX7_turned 7 = .ok (.aload_n 0, 1) := by decide +kernel
theorem dX7_turned_8 : decode cX7_turned 8 = .ok (.getfield 86, 3) := by decide +kernel
theorem dX7_turned_11 : decode cX7_turned 11 = .ok (.ifCond .eq 12, 3) := by decide +kernel
theorem dX7_turned_23 : decode cX7_turned 23 = .ok (.ldc 118, 2) := by decide +kernel
theorem dX7_turned_25 : decode cX7_turned 25 = .ok (.ireturn, 1) := by decide +kernel
theorem dX7_count_0 : decode cX7_count 0 = .ok (.iload_n 1, 1) := by decide +kernel
theorem dX7_count_1 : decode cX7_count 1 = .ok (.lookupswitch 40 #[(0, 27), (1, 35)], 27) := by decide +kernel
theorem dX7_count_28 : decode cX7_count 28 = .ok (.aload_n 0, 1) := by decide +kernel
theorem dX7_count_29 : decode cX7_count 29 = .ok (.getfield 12, 3) := by decide +kernel
theorem dX7_count_32 : decode cX7_count 32 = .ok (.getfield 94, 3) := by decide +kernel
theorem dX7_count_35 : decode cX7_count 35 = .ok (.ireturn, 1) := by decide +kernel
theorem dX7_count_36 : decode cX7_count 36 = .ok (.aload_n 0, 1) := by decide +kernel
theorem dX7_count_37 : decode cX7_count 37 = .ok (.getfield 76, 3) := by decide +kernel
theorem dX7_count_40 : decode cX7_count 40 = .ok (.ireturn, 1) := by decide +kernel
theorem dX7_count_41 : decode cX7_count 41 = .ok (.iconst (-1), 1) := by decide +kernel
theorem dX7_count_42 : decode cX7_count 42 = .ok (.ireturn, 1) := by decide +kernel
theorem dX7_isCase_0 : decode cX7_isCase 0 = .ok (.iload_n 1, 1) := by decide +kernel
theorem dX7_isCase_1 : decode cX7_isCase 1 = .ok (.ifCond .lt 18, 3) := by decide +kernel
theorem dX7_isCase_4 : decode cX7_isCase 4 = .ok (.iload_n 1, 1) := by decide +kernel
theorem dX7_isCase_5 : decode cX7_isCase 5 = .ok (.aload_n 0, 1) := by decide +kernel
theorem dX7_isCase_6 : decode cX7_isCase 6 = .ok (.getfield 12, 3) := by decide +kernel
theorem dX7_isCase_9 : decode cX7_isCase 9 = .ok (.getfield 94, 3) := by decide +kernel
theorem dX7_isCase_12 : decode cX7_isCase 12 = .ok (.if_icmp .ge 7, 3) := by decide +kernel
theorem dX7_isCase_19 : decode cX7_isCase 19 = .ok (.iconst 0, 1) := by decide +kernel
theorem dX7_isCase_20 : decode cX7_isCase 20 = .ok (.ireturn, 1) := by decide +kernel
theorem dX7_isMark_0 : decode cX7_isMark 0 = .ok (.iload_n 0, 1) := by decide +kernel
theorem dX7_isMark_1 : decode cX7_isMark 1 = .ok (.ifCond .lt 13, 3) := by decide +kernel
theorem dX7_isMark_4 : decode cX7_isMark 4 = .ok (.iload_n 0, 1) := by decide +kernel
theorem dX7_isMark_5 : decode cX7_isMark 5 = .ok (.bipush 8, 2) := by decide +kernel
theorem dX7_isMark_7 : decode cX7_isMark 7 = .ok (.if_icmp .ge 7, 3) := by decide +kernel
theorem dX7_isMark_10 : decode cX7_isMark 10 = .ok (.iconst 1, 1) := by decide +kernel
theorem dX7_isMark_11 : decode cX7_isMark 11 = .ok (.goto 4, 3) := by decide +kernel
theorem dX7_isMark_14 : decode cX7_isMark 14 = .ok (.iconst 0, 1) := by decide +kernel
theorem dX7_isMark_15 : decode cX7_isMark 15 = .ok (.ireturn, 1) := by decide +kernel
theorem dX7_isClass_0 : decode cX7_isClass 0 = .ok (.iload_n 0, 1) := by decide +kernel
theorem dX7_isClass_1 : decode cX7_isClass 1 = .ok (.ifCond .lt 12, 3) := by decide +kernel
theorem dX7_isClass_4 : decode cX7_isClass 4 = .ok (.iload_n 0, 1) := by decide +kernel
theorem dX7_isClass_5 : decode cX7_isClass 5 = .ok (.iconst 4, 1) := by decide +kernel
theorem dX7_isClass_6 : decode cX7_isClass 6 = .ok (.if_icmp .ge 7, 3) := by decide +kernel
theorem dX7_isClass_9 : decode cX7_isClass 9 = .ok (.iconst 1, 1) := by decide +kernel
theorem dX7_isClass_10 : decode cX7_isClass 10 = .ok (.goto 4, 3) := by decide +kernel
theorem dX7_isClass_13 : decode cX7_isClass 13 = .ok (.iconst 0, 1) := by decide +kernel
theorem dX7_isClass_14 : decode cX7_isClass 14 = .ok (.ireturn, 1) := by decide +kernel
theorem dX7_canGrow_0 : decode cX7_canGrow 0 = .ok (.iload_n 0, 1) := by decide +kernel
theorem dX7_canGrow_1 : decode cX7_canGrow 1 = .ok (.ifCond .lt 24, 3) := by decide +kernel
theorem dX7_canGrow_4 : decode cX7_canGrow 4 = .ok (.iload_n 0, 1) := by decide +kernel
theorem dX7_canGrow_5 : decode cX7_canGrow 5 = .ok (.bipush 8, 2) := by decide +kernel
theorem dX7_canGrow_7 : decode cX7_canGrow 7 = .ok (.if_icmp .gt 18, 3) := by decide +kernel
theorem dX7_canGrow_10 : decode cX7_canGrow 10 = .ok (.iload_n 1, 1) := by decide +kernel
theorem dX7_canGrow_11 : decode cX7_canGrow 11 = .ok (.iconst 1, 1) := by decide +kernel
theorem dX7_canGrow_12 : decode cX7_canGrow 12 = .ok (.if_icmp .lt 13, 3) := by decide +kernel
theorem dX7_canGrow_15 : decode cX7_canGrow 15 = .ok (.iload_n 1, 1) := by decide +kernel
theorem dX7_canGrow_16 : decode cX7_canGrow 16 = .ok (.bipush 100, 2) := by decide +kernel
theorem dX7_canGrow_18 : decode cX7_canGrow 18 = .ok (.if_icmp .gt 7, 3) := by decide +kernel
theorem dX7_canGrow_21 : decode cX7_canGrow 21 = .ok (.iconst 1, 1) := by decide +kernel
theorem dX7_canGrow_22 : decode cX7_canGrow 22 = .ok (.goto 4, 3) := by decide +kernel
theorem dX7_canGrow_25 : decode cX7_canGrow 25 = .ok (.iconst 0, 1) := by decide +kernel
theorem dX7_canGrow_26 : decode cX7_canGrow 26 = .ok (.ireturn, 1) := by decide +kernel
theorem dX7_treeAt_0 : decode cX7_treeAt 0 = .ok (.iload_n 1, 1) := by decide +kernel
theorem dX7_treeAt_1 : decode cX7_treeAt 1 = .ok (.ifCond .lt 20, 3) := by decide +kernel
theorem dX7_treeAt_4 : decode cX7_treeAt 4 = .ok (.iload_n 1, 1) := by decide +kernel
theorem dX7_treeAt_5 : decode cX7_treeAt 5 = .ok (.aload_n 0, 1) := by decide +kernel
theorem dX7_treeAt_6 : decode cX7_treeAt 6 = .ok (.getfield 76, 3) := by decide +kernel
theorem dX7_treeAt_9 : decode cX7_treeAt 9 = .ok (.if_icmp .ge 12, 3) := by decide +kernel
theorem dX7_treeAt_21 : decode cX7_treeAt 21 = .ok (.aconst_null, 1) := by decide +kernel
theorem dX7_treeAt_22 : decode cX7_treeAt 22 = .ok (.areturn, 1) := by decide +kernel
theorem dX7_placeFor_0 : decode cX7_placeFor 0 = .ok (.aload_n 0, 1) := by decide +kernel
theorem dX7_placeFor_1 : decode cX7_placeFor 1 = .ok (.getfield 63, 3) := by decide +kernel
theorem dX7_placeFor_4 : decode cX7_placeFor 4 = .ok (.iload_n 1, 1) := by decide +kernel
theorem dX7_placeFor_5 : decode cX7_placeFor 5 = .ok (.aaload, 1) := by decide +kernel
theorem dX7_placeFor_6 : decode cX7_placeFor 6 = .ok (.astore_n 2, 1) := by decide +kernel
theorem dX7_placeFor_7 : decode cX7_placeFor 7 = .ok (.aload_n 2, 1) := by decide +kernel
theorem dX7_placeFor_8 : decode cX7_placeFor 8 = .ok (.ifnonnull 18, 3) := by decide +kernel
theorem dX7_placeFor_11 : decode cX7_placeFor 11 = .ok (.new 61, 3) := by decide +kernel
theorem dX7_placeFor_14 : decode cX7_placeFor 14 = .ok (.dup, 1) := by decide +kernel
theorem dX7_placeFor_15 : decode cX7_placeFor 15 = .ok (.invokespecial 253, 3) := by decide +kernel
theorem dX7_placeFor_18 : decode cX7_placeFor 18 = .ok (.astore_n 2, 1) := by decide +kernel
theorem dX7_placeFor_19 : decode cX7_placeFor 19 = .ok (.aload_n 0, 1) := by decide +kernel
theorem dX7_placeFor_20 : decode cX7_placeFor 20 = .ok (.getfield 63, 3) := by decide +kernel
theorem dX7_placeFor_23 : decode cX7_placeFor 23 = .ok (.iload_n 1, 1) := by decide +kernel
theorem dX7_placeFor_24 : decode cX7_placeFor 24 = .ok (.aload_n 2, 1) := by decide +kernel
theorem dX7_placeFor_25 : decode cX7_placeFor 25 = .ok (.aastore, 1) := by decide +kernel
theorem dX7_placeFor_26 : decode cX7_placeFor 26 = .ok (.aload_n 2, 1) := by decide +kernel
theorem dX7_placeFor_27 : decode cX7_placeFor 27 = .ok (.iconst 0, 1) := by decide +kernel
theorem dX7_placeFor_28 : decode cX7_placeFor 28 = .ok (.putfield 152, 3) := by decide +kernel
theorem dX7_placeFor_31 : decode cX7_placeFor 31 = .ok (.aload_n 2, 1) := by decide +kernel
theorem dX7_placeFor_32 : decode cX7_placeFor 32 = .ok (.areturn, 1) := by decide +kernel
theorem dX7_readTold_0 : decode cX7_readTold 0 = .ok (.aload_n 0, 1) := by decide +kernel
theorem dX7_readTold_1 : decode cX7_readTold 1 = .ok (.iconst 0, 1) := by decide +kernel
theorem dX7_readTold_2 : decode cX7_readTold 2 = .ok (.iload_n 1, 1) := by decide +kernel
theorem dX7_readTold_3 : decode cX7_readTold 3 = .ok (.invokevirtual 254, 3) := by decide +kernel
theorem dX7_readTold_6 : decode cX7_readTold 6 = .ok (.aload_n 0, 1) := by decide +kernel
theorem dX7_readTold_7 : decode cX7_readTold 7 = .ok (.iconst 2, 1) := by decide +kernel
theorem dX7_readTold_8 : decode cX7_readTold 8 = .ok (.iload_n 2, 1) := by decide +kernel
theorem dX7_readTold_9 : decode cX7_readTold 9 = .ok (.invokevirtual 254, 3) := by decide +kernel
theorem dX7_readTold_12 : decode cX7_readTold 12 = .ok (.aload_n 0, 1) := by decide +kernel
theorem dX7_readTold_13 : decode cX7_readTold 13 = .ok (.iconst 4, 1) := by decide +kernel
theorem dX7_readTold_14 : decode cX7_readTold 14 = .ok (.iload_n 3, 1) := by decide +kernel
theorem dX7_readTold_15 : decode cX7_readTold 15 = .ok (.invokevirtual 254, 3) := by decide +kernel
theorem dX7_readTold_18 : decode cX7_readTold 18 = .ok (.aload_n 0, 1) := by decide +kernel
theorem dX7_readTold_19 : decode cX7_readTold 19 = .ok (.bipush 6, 2) := by decide +kernel
theorem dX7_readTold_21 : decode cX7_readTold 21 = .ok (.iload 4, 2) := by decide +kernel
theorem dX7_readTold_23 : decode cX7_readTold 23 = .ok (.invokevirtual 254, 3) := by decide +kernel
theorem dX7_readTold_26 : decode cX7_readTold 26 = .ok (.iconst 0, 1) := by decide +kernel
theorem dX7_readTold_27 : decode cX7_readTold 27 = .ok (.istore 5, 2) := by decide +kernel
theorem dX7_readTold_29 : decode cX7_readTold 29 = .ok (.iload 5, 2) := by decide +kernel
theorem dX7_readTold_31 : decode cX7_readTold 31 = .ok (.bipush 8, 2) := by decide +kernel
theorem dX7_readTold_33 : decode cX7_readTold 33 = .ok (.if_icmp .ge 62, 3) := by decide +kernel
theorem dX7_readTold_36 : decode cX7_readTold 36 = .ok (.aload_n 0, 1) := by decide +kernel
theorem dX7_readTold_37 : decode cX7_readTold 37 = .ok (.getfield 67, 3) := by decide +kernel
theorem dX7_readTold_40 : decode cX7_readTold 40 = .ok (.iload 5, 2) := by decide +kernel
theorem dX7_readTold_42 : decode cX7_readTold 42 = .ok (.iaload, 1) := by decide +kernel
theorem dX7_readTold_43 : decode cX7_readTold 43 = .ok (.sipush (-1000), 3) := by decide +kernel
theorem dX7_readTold_46 : decode cX7_readTold 46 = .ok (.if_icmp .lt 20, 3) := by decide +kernel
theorem dX7_readTold_49 : decode cX7_readTold 49 = .ok (.aload_n 0, 1) := by decide +kernel
theorem dX7_readTold_50 : decode cX7_readTold 50 = .ok (.getfield 67, 3) := by decide +kernel
theorem dX7_readTold_53 : decode cX7_readTold 53 = .ok (.iload 5, 2) := by decide +kernel
theorem dX7_readTold_55 : decode cX7_readTold 55 = .ok (.iaload, 1) := by decide +kernel
theorem dX7_readTold_56 : decode cX7_readTold 56 = .ok (.sipush 1000, 3) := by decide +kernel
theorem dX7_readTold_59 : decode cX7_readTold 59 = .ok (.if_icmp .gt 7, 3) := by decide +kernel
theorem dX7_readTold_62 : decode cX7_readTold 62 = .ok (.iconst 1, 1) := by decide +kernel
theorem dX7_readTold_63 : decode cX7_readTold 63 = .ok (.goto 4, 3) := by decide +kernel
theorem dX7_readTold_66 : decode cX7_readTold 66 = .ok (.iconst 0, 1) := by decide +kernel
theorem dX7_readTold_67 : decode cX7_readTold 67 = .ok (.istore 6, 2) := by decide +kernel
theorem dX7_readTold_69 : decode cX7_readTold 69 = .ok (.iload 6, 2) := by decide +kernel
theorem dX7_readTold_71 : decode cX7_readTold 71 = .ok (.ifCond .ne 18, 3) := by decide +kernel
theorem dX7_readTold_74 : decode cX7_readTold 74 = .ok (.aload_n 0, 1) := by decide +kernel
theorem dX7_readTold_75 : decode cX7_readTold 75 = .ok (.getfield 67, 3) := by decide +kernel
theorem dX7_readTold_78 : decode cX7_readTold 78 = .ok (.iload 5, 2) := by decide +kernel
theorem dX7_readTold_80 : decode cX7_readTold 80 = .ok (.iaload, 1) := by decide +kernel
theorem dX7_readTold_81 : decode cX7_readTold 81 = .ok (.sipush (-32768), 3) := by decide +kernel
theorem dX7_readTold_84 : decode cX7_readTold 84 = .ok (.if_icmp .eq 5, 3) := by decide +kernel
theorem dX7_readTold_87 : decode cX7_readTold 87 = .ok (.iconst 0, 1) := by decide +kernel
theorem dX7_readTold_88 : decode cX7_readTold 88 = .ok (.ireturn, 1) := by decide +kernel
theorem dX7_readTold_89 : decode cX7_readTold 89 = .ok (.iinc 5 1, 3) := by decide +kernel
theorem dX7_readTold_92 : decode cX7_readTold 92 = .ok (.goto (-63), 3) := by decide +kernel
theorem dX7_readTold_95 : decode cX7_readTold 95 = .ok (.iconst 1, 1) := by decide +kernel
theorem dX7_readTold_96 : decode cX7_readTold 96 = .ok (.ireturn, 1) := by decide +kernel
theorem dX7_readPair_0 : decode cX7_readPair 0 = .ok (.aload_n 0, 1) := by decide +kernel
theorem dX7_readPair_1 : decode cX7_readPair 1 = .ok (.getfield 67, 3) := by decide +kernel
theorem dX7_readPair_4 : decode cX7_readPair 4 = .ok (.iload_n 1, 1) := by decide +kernel
theorem dX7_readPair_5 : decode cX7_readPair 5 = .ok (.iload_n 2, 1) := by decide +kernel
theorem dX7_readPair_6 : decode cX7_readPair 6 = .ok (.bipush 16, 2) := by decide +kernel
theorem dX7_readPair_8 : decode cX7_readPair 8 = .ok (.ishr, 1) := by decide +kernel
theorem dX7_readPair_9 : decode cX7_readPair 9 = .ok (.iastore, 1) := by decide +kernel
theorem dX7_readPair_10 : decode cX7_readPair 10 = .ok (.aload_n 0, 1) := by decide +kernel
theorem dX7_readPair_11 : decode cX7_readPair 11 = .ok (.getfield 67, 3) := by decide +kernel
theorem dX7_readPair_14 : decode cX7_readPair 14 = .ok (.iload_n 1, 1) := by decide +kernel
theorem dX7_readPair_15 : decode cX7_readPair 15 = .ok (.iconst 1, 1) := by decide +kernel
theorem dX7_readPair_16 : decode cX7_readPair 16 = .ok (.iadd, 1) := by decide +kernel
theorem dX7_readPair_17 : decode cX7_readPair 17 = .ok (.iload_n 2, 1) := by decide +kernel
theorem dX7_readPair_18 : decode cX7_readPair 18 = .ok (.bipush 16, 2) := by decide +kernel
theorem dX7_readPair_20 : decode cX7_readPair 20 = .ok (.ishl, 1) := by decide +kernel
theorem dX7_readPair_21 : decode cX7_readPair 21 = .ok (.bipush 16, 2) := by decide +kernel
theorem dX7_readPair_23 : decode cX7_readPair 23 = .ok (.ishr, 1) := by decide +kernel
theorem dX7_readPair_24 : decode cX7_readPair 24 = .ok (.iastore, 1) := by decide +kernel
theorem dX7_readPair_25 : decode cX7_readPair 25 = .ok (.return_, 1) := by decide +kernel
theorem dX7_firstGreatest_0 : decode cX7_firstGreatest 0 = .ok (.iconst 0, 1) := by decide +kernel
theorem dX7_firstGreatest_1 : decode cX7_firstGreatest 1 = .ok (.istore_n 2, 1) := by decide +kernel
theorem dX7_firstGreatest_2 : decode cX7_firstGreatest 2 = .ok (.iconst 1, 1) := by decide +kernel
theorem dX7_firstGreatest_3 : decode cX7_firstGreatest 3 = .ok (.istore_n 3, 1) := by decide +kernel
theorem dX7_firstGreatest_4 : decode cX7_firstGreatest 4 = .ok (.iload_n 3, 1) := by decide +kernel
theorem dX7_firstGreatest_5 : decode cX7_firstGreatest 5 = .ok (.iconst 4, 1) := by decide +kernel
theorem dX7_firstGreatest_6 : decode cX7_firstGreatest 6 = .ok (.if_icmp .ge 24, 3) := by decide +kernel
theorem dX7_firstGreatest_9 : decode cX7_firstGreatest 9 = .ok (.aload_n 0, 1) := by decide +kernel
theorem dX7_firstGreatest_10 : decode cX7_firstGreatest 10 = .ok (.iload_n 1, 1) := by decide +kernel
theorem dX7_firstGreatest_11 : decode cX7_firstGreatest 11 = .ok (.iload_n 3, 1) := by decide +kernel
theorem dX7_firstGreatest_12 : decode cX7_firstGreatest 12 = .ok (.iadd, 1) := by decide +kernel
theorem dX7_firstGreatest_13 : decode cX7_firstGreatest 13 = .ok (.iaload, 1) := by decide +kernel
theorem dX7_firstGreatest_14 : decode cX7_firstGreatest 14 = .ok (.aload_n 0, 1) := by decide +kernel
theorem dX7_firstGreatest_15 : decode cX7_firstGreatest 15 = .ok (.iload_n 1, 1) := by decide +kernel
theorem dX7_firstGreatest_16 : decode cX7_firstGreatest 16 = .ok (.iload_n 2, 1) := by decide +kernel
theorem dX7_firstGreatest_17 : decode cX7_firstGreatest 17 = .ok (.iadd, 1) := by decide +kernel
theorem dX7_firstGreatest_18 : decode cX7_firstGreatest 18 = .ok (.iaload, 1) := by decide +kernel
theorem dX7_firstGreatest_19 : decode cX7_firstGreatest 19 = .ok (.if_icmp .le 5, 3) := by decide +kernel
theorem dX7_firstGreatest_24 : decode cX7_firstGreatest 24 = .ok (.iinc 3 1, 3) := by decide +kernel
theorem dX7_firstGreatest_27 : decode cX7_firstGreatest 27 = .ok (.goto (-23), 3) := by decide +kernel
theorem dX7_firstGreatest_30 : decode cX7_firstGreatest 30 = .ok (.iload_n 2, 1) := by decide +kernel
theorem dX7_firstGreatest_31 : decode cX7_firstGreatest 31 = .ok (.ireturn, 1) := by decide +kernel
theorem dX7_clear_0 : decode cX7_clear 0 = .ok (.iconst 0, 1) := by decide +kernel
theorem dX7_clear_1 : decode cX7_clear 1 = .ok (.istore_n 1, 1) := by decide +kernel
theorem dX7_clear_2 : decode cX7_clear 2 = .ok (.iload_n 1, 1) := by decide +kernel
theorem dX7_clear_3 : decode cX7_clear 3 = .ok (.iconst 4, 1) := by decide +kernel
theorem dX7_clear_4 : decode cX7_clear 4 = .ok (.if_icmp .ge 13, 3) := by decide +kernel
theorem dX7_clear_7 : decode cX7_clear 7 = .ok (.aload_n 0, 1) := by decide +kernel
theorem dX7_clear_8 : decode cX7_clear 8 = .ok (.iload_n 1, 1) := by decide +kernel
theorem dX7_clear_9 : decode cX7_clear 9 = .ok (.iconst 0, 1) := by decide +kernel
theorem dX7_clear_10 : decode cX7_clear 10 = .ok (.iastore, 1) := by decide +kernel
theorem dX7_clear_11 : decode cX7_clear 11 = .ok (.iinc 1 1, 3) := by decide +kernel
theorem dX7_clear_14 : decode cX7_clear 14 = .ok (.goto (-12), 3) := by decide +kernel
theorem dX7_clear_17 : decode cX7_clear 17 = .ok (.return_, 1) := by decide +kernel
set_option maxRecDepth 20000 in
theorem ggX0_append_X0_putInOrder : GoodIn wsX0_append wsX0_putInOrder := goodIn_r _ [8, 1, 3, 9, 10, 11, 12, 13, 14, 15, 16, 17, 18] (by decide +kernel) (by decide +kernel)
set_option maxRecDepth 20000 in
theorem gX0_append_X0_putInOrder : GoodIn wsX0_append (wsV RX0 28 RX0 yX0_putInOrder wsX0_putInOrder) := goodIn_app (goodIn_of _ (by decide +kernel)) ggX0_append_X0_putInOrder
set_option maxRecDepth 20000 in
theorem ggX1_findInto_X1_build : GoodIn wsX1_findInto wsX1_build := goodIn_r _ [7, 1, 8, 9, 10, 11, 12, 13, 14, 15, 16, 17, 18, 19, 20, 21, 22, 23, 24, 25, 26, 27, 28, 29, 30, 31, 32, 33, 34, 35, 36, 37, 38, 39, 40, 41, 42, 43, 44, 45, 46, 6, 47, 48, 49, 50, 51, 52, 53, 54, 55, 56, 57, 58, 59, 60, 61, 62, 63, 64, 65, 66, 67, 68, 69, 70, 71, 72, 73, 74, 75, 76, 77, 78, 79, 80, 81, 82, 83, 84, 85, 86, 87, 88, 89, 90, 91, 92, 93, 94, 95, 96, 97, 98, 99, 100, 101, 102, 103, 104, 105, 106, 107, 108, 109, 110, 111, 112, 113, 3, 4, 5, 114, 115, 116, 117, 118, 119, 120, 121, 122, 123, 124, 125, 131, 132, 133, 134, 135, 136, 137, 126, 127, 128, 129, 130, 138, 139, 140, 141, 142] (by decide +kernel) (by decide +kernel)
set_option maxRecDepth 20000 in
theorem gX1_findInto_X1_build : GoodIn wsX1_findInto (wsV RX1 32 RX1 yX1_build wsX1_build) := goodIn_app (goodIn_of _ (by decide +kernel)) ggX1_findInto_X1_build
set_option maxRecDepth 20000 in
theorem ggX1_build_X4_tally : GoodIn wsX1_build wsX4_tally := goodIn_r _ [11, 12, 13, 14, 15, 16, 17, 18, 19, 10, 20, 21, 131, 132, 133, 134, 135, 136, 137, 138, 139, 140] (by decide +kernel) (by decide +kernel)
set_option maxRecDepth 20000 in
theorem gX1_build_X4_tally : GoodIn wsX1_build (wsV RX1 36 RX4 yX4_tally wsX4_tally) := goodIn_app (goodIn_of _ (by decide +kernel)) ggX1_build_X4_tally
set_option maxRecDepth 20000 in
theorem ggX1_build_X6_open : GoodIn wsX1_build wsX6_open := goodIn_r _ [26, 27, 28, 29, 30, 31, 32, 33, 34, 35, 36, 37, 124, 125, 126, 127, 128, 129, 130] (by decide +kernel) (by decide +kernel)
set_option maxRecDepth 20000 in
theorem gX1_build_X6_open : GoodIn wsX1_build (wsV RX1 40 RX6 yX6_open wsX6_open) := goodIn_app (goodIn_of _ (by decide +kernel)) ggX1_build_X6_open
set_option maxRecDepth 20000 in
theorem ggX1_build_X1_takeOne : GoodIn wsX1_build wsX1_takeOne := goodIn_r _ [42, 1, 43, 4, 44, 5, 45, 3, 46, 47, 48, 49, 10, 50, 51, 17, 18, 19, 20, 21, 52, 53, 54, 41, 55, 2, 56, 57, 58, 59, 14, 15, 16, 60, 61, 62, 63, 64, 65, 66, 67, 68, 69, 70, 12, 71, 72, 73, 74, 75, 76, 77, 78, 79, 80, 81, 82, 112, 113, 114, 115, 116, 117, 118, 119, 120, 121, 122, 123, 131, 132, 133, 134, 135, 136, 137, 138, 139, 140] (by decide +kernel) (by decide +kernel)
set_option maxRecDepth 20000 in
theorem gX1_build_X1_takeOne : GoodIn wsX1_build (wsV RX1 46 RX1 yX1_takeOne wsX1_takeOne) := goodIn_app (goodIn_of _ (by decide +kernel)) ggX1_build_X1_takeOne
set_option maxRecDepth 20000 in
theorem ggX1_takeOne_X4_setSides : GoodIn wsX1_takeOne wsX4_setSides := goodIn_r _ [13, 14, 15, 16, 17, 12, 18, 19, 69, 70, 71, 72, 73] (by decide +kernel) (by decide +kernel)
set_option maxRecDepth 20000 in
theorem gX1_takeOne_X4_setSides : GoodIn wsX1_takeOne (wsV RX1 74 RX4 yX4_setSides wsX4_setSides) := goodIn_app (goodIn_of _ (by decide +kernel)) ggX1_takeOne_X4_setSides
set_option maxRecDepth 20000 in
theorem ggX1_takeOne_X1_seekOne : GoodIn wsX1_takeOne wsX1_seekOne := goodIn_r _ [24, 25, 26, 1, 27, 28, 29, 2, 4, 6, 30, 31, 32, 33, 16, 17, 12, 18, 19, 34, 35, 36, 37, 38, 39, 40, 41, 42, 43, 44, 45, 46, 47, 48, 23, 49, 50, 51, 52, 53, 54, 55, 56, 57, 58, 59, 60, 61, 62, 63, 64, 65, 66, 67, 68, 69, 70, 71, 72, 73, 74, 75, 76, 77, 78] (by decide +kernel) (by decide +kernel)
set_option maxRecDepth 20000 in
theorem gX1_takeOne_X1_seekOne : GoodIn wsX1_takeOne (wsV RX1 77 RX1 yX1_seekOne wsX1_seekOne) := goodIn_app (goodIn_of _ (by decide +kernel)) ggX1_takeOne_X1_seekOne
set_option maxRecDepth 20000 in
theorem ggX1_seekOne_X7_clear : GoodIn wsX1_seekOne wsX7_clear := goodIn_r _ [12] (by decide +kernel) (by decide +kernel)
set_option maxRecDepth 20000 in
theorem gX1_seekOne_X7_clear_n114 : GoodIn wsX1_seekOne (wsX7_clear) := ggX1_seekOne_X7_clear
set_option maxRecDepth 20000 in
theorem ggX1_seekOne_X7_firstGreatest : GoodIn wsX1_seekOne wsX7_firstGreatest := goodIn_r _ [20] (by decide +kernel) (by decide +kernel)
set_option maxRecDepth 20000 in
theorem gX1_seekOne_X7_firstGreatest_n124 : GoodIn wsX1_seekOne (wsX7_firstGreatest) := ggX1_seekOne_X7_firstGreatest
set_option maxRecDepth 20000 in
theorem ggX2_growInto_X2_branch : GoodIn wsX2_growInto wsX2_branch := goodIn_r _ [13, 7, 14, 5, 15, 16, 17, 18, 19, 20, 21, 22, 23, 24, 25, 26, 27, 28, 29, 30, 31, 32, 33, 34, 35, 36, 37, 38, 39, 40, 41, 42, 43, 44, 45, 46, 47, 48, 49, 50, 51, 52, 53, 54, 12, 55, 56, 57, 58, 59, 60, 61, 62, 63, 64, 65, 66, 67, 68, 69, 70, 71, 72, 73, 74, 75, 76, 77, 78, 79, 80, 81, 82, 83, 6, 84, 85, 86, 87, 88, 89, 90, 91, 92, 93, 94, 95, 96, 97, 98, 99, 100, 101, 102, 103, 9, 10, 11, 104, 105, 106, 107, 108, 109, 110, 111, 112, 113, 114, 115, 121, 122, 123, 124, 125, 126, 127, 116, 117, 118, 119, 120, 128, 129, 130, 131, 132] (by decide +kernel) (by decide +kernel)
set_option maxRecDepth 20000 in
theorem gX2_growInto_X2_branch : GoodIn wsX2_growInto (wsV RX2 47 RX2 yX2_branch wsX2_branch) := goodIn_app (goodIn_of _ (by decide +kernel)) ggX2_growInto_X2_branch
set_option maxRecDepth 20000 in
theorem ggX2_branch_X4_tally : GoodIn wsX2_branch wsX4_tally := goodIn_r _ [12, 13, 14, 15, 16, 17, 18, 19, 20, 11, 21, 22, 117, 118, 119, 120, 121, 122, 123, 124, 125, 126] (by decide +kernel) (by decide +kernel)
set_option maxRecDepth 20000 in
theorem gX2_branch_X4_tally : GoodIn wsX2_branch (wsV RX2 51 RX4 yX4_tally wsX4_tally) := goodIn_app (goodIn_of _ (by decide +kernel)) ggX2_branch_X4_tally
set_option maxRecDepth 20000 in
theorem ggX2_branch_X6_open : GoodIn wsX2_branch wsX6_open := goodIn_r _ [27, 28, 29, 30, 31, 32, 33, 34, 35, 36, 37, 38, 110, 111, 112, 113, 114, 115, 116] (by decide +kernel) (by decide +kernel)
set_option maxRecDepth 20000 in
theorem gX2_branch_X6_open : GoodIn wsX2_branch (wsV RX2 55 RX6 yX6_open wsX6_open) := goodIn_app (goodIn_of _ (by decide +kernel)) ggX2_branch_X6_open
set_option maxRecDepth 20000 in
theorem ggX2_branch_X7_firstGreatest : GoodIn wsX2_branch wsX7_firstGreatest := goodIn_r _ [40] (by decide +kernel) (by decide +kernel)
set_option maxRecDepth 20000 in
theorem gX2_branch_X7_firstGreatest_n61 : GoodIn wsX2_branch (wsX7_firstGreatest) := ggX2_branch_X7_firstGreatest
set_option maxRecDepth 20000 in
theorem ggX4_tally_X7_clear : GoodIn wsX4_tally wsX7_clear := goodIn_r _ [5] (by decide +kernel) (by decide +kernel)
set_option maxRecDepth 20000 in
theorem gX4_tally_X7_clear_n48 : GoodIn wsX4_tally (wsX7_clear) := ggX4_tally_X7_clear
set_option maxRecDepth 20000 in
theorem ggX7_init_X0_init : GoodIn wsX7_init wsX0_init := goodIn_r _ [40, 41, 2, 3, 31, 42, 43, 44, 45, 46, 91, 92, 93, 94, 95] (by decide +kernel) (by decide +kernel)
set_option maxRecDepth 20000 in
theorem gX7_init_X0_init_n11 : GoodIn wsX7_init (wsX0_init) := ggX7_init_X0_init
set_option maxRecDepth 20000 in
theorem ggX7_init_X4_init : GoodIn wsX7_init wsX4_init := goodIn_r _ [49, 50, 2, 3, 31, 51, 52, 53, 54, 55, 110, 111, 112, 113, 114] (by decide +kernel) (by decide +kernel)
set_option maxRecDepth 20000 in
theorem gX7_init_X4_init : GoodIn wsX7_init (wsX4_init) := ggX7_init_X4_init
set_option maxRecDepth 20000 in
theorem ggX7_init_X2_init : GoodIn wsX7_init wsX2_init := goodIn_r _ [58, 59, 2, 3, 31, 60, 61, 62, 63, 64, 115, 116, 117, 118, 119, 120, 121, 122, 123, 124, 125, 126] (by decide +kernel) (by decide +kernel)
set_option maxRecDepth 20000 in
theorem gX7_init_X2_init : GoodIn wsX7_init (wsX2_init) := ggX7_init_X2_init
set_option maxRecDepth 20000 in
theorem ggX7_init_X1_init : GoodIn wsX7_init wsX1_init := goodIn_r _ [67, 68, 2, 3, 31, 69, 70, 71, 72, 127, 128, 129, 130, 131, 132, 133, 134, 135, 136, 137, 138] (by decide +kernel) (by decide +kernel)
set_option maxRecDepth 20000 in
theorem gX7_init_X1_init : GoodIn wsX7_init (wsX1_init) := ggX7_init_X1_init
set_option maxRecDepth 20000 in
theorem ggX7_init_X3_init : GoodIn wsX7_init wsX3_init := goodIn_r _ [74, 75, 2, 3, 31, 76, 77, 78, 139, 140, 141, 142, 143] (by decide +kernel) (by decide +kernel)
set_option maxRecDepth 20000 in
theorem gX7_init_X3_init_n43 : GoodIn wsX7_init (wsX3_init) := ggX7_init_X3_init
set_option maxRecDepth 20000 in
theorem ggX7_init_X5_init : GoodIn wsX7_init wsX5_init := goodIn_r _ [81, 82, 2, 3, 31, 83, 84, 85, 86, 87, 88, 89, 90, 144, 145, 146, 147, 148, 149, 150] (by decide +kernel) (by decide +kernel)
set_option maxRecDepth 20000 in
theorem gX7_init_X5_init : GoodIn wsX7_init (wsX5_init) := ggX7_init_X5_init
set_option maxRecDepth 20000 in
theorem ggX7_sort_X7_isMark : GoodIn wsX7_sort wsX7_isMark := goodIn_r _ [8] (by decide +kernel) (by decide +kernel)
set_option maxRecDepth 20000 in
theorem gX7_sort_X7_isMark : GoodIn wsX7_sort (va_wsS RX7 90 yX7_isMark wsX7_isMark) := goodIn_app (goodIn_of _ (by decide +kernel)) ggX7_sort_X7_isMark
set_option maxRecDepth 20000 in
theorem ggX7_add_X7_isClass : GoodIn wsX7_add wsX7_isClass := goodIn_r _ [7] (by decide +kernel) (by decide +kernel)
set_option maxRecDepth 20000 in
theorem gX7_add_X7_isClass : GoodIn wsX7_add (va_wsS RX7 97 yX7_isClass wsX7_isClass) := goodIn_app (goodIn_of _ (by decide +kernel)) ggX7_add_X7_isClass
set_option maxRecDepth 20000 in
theorem ggX7_add_X7_readTold : GoodIn wsX7_add wsX7_readTold := goodIn_r _ [11, 3, 12, 13, 14, 6, 15, 33, 34, 35, 36, 37, 38, 39, 40, 41, 42, 43, 44, 45, 46] (by decide +kernel) (by decide +kernel)
set_option maxRecDepth 20000 in
theorem gX7_add_X7_readTold : GoodIn wsX7_add (wsV RX7 100 RX7 yX7_readTold wsX7_readTold) := goodIn_app (goodIn_of _ (by decide +kernel)) ggX7_add_X7_readTold
set_option maxRecDepth 20000 in
theorem ggX7_add_X0_append : GoodIn wsX7_add wsX0_append := goodIn_r _ [20, 21, 22, 23, 24, 25, 26, 19, 27, 28, 29, 30, 31, 32, 47, 48, 49, 50, 51] (by decide +kernel) (by decide +kernel)
set_option maxRecDepth 20000 in
theorem gX7_add_X0_append : GoodIn wsX7_add (wsV RX7 104 RX0 yX0_append wsX0_append) := goodIn_app (goodIn_of _ (by decide +kernel)) ggX7_add_X0_append
set_option maxRecDepth 20000 in
theorem ggX7_drop_X7_isCase : GoodIn wsX7_drop wsX7_isCase := goodIn_r _ [7, 1, 2, 25, 26, 27, 28, 29, 30, 31, 32, 33, 34, 35, 36, 37, 38, 39, 40, 41, 42, 43] (by decide +kernel) (by decide +kernel)
set_option maxRecDepth 20000 in
theorem gX7_drop_X7_isCase : GoodIn wsX7_drop (wsV RX7 108 RX7 yX7_isCase wsX7_isCase) := goodIn_app (goodIn_of _ (by decide +kernel)) ggX7_drop_X7_isCase
set_option maxRecDepth 20000 in
theorem ggX7_mark_X7_isCase : GoodIn wsX7_mark wsX7_isCase := goodIn_r _ [8, 1, 9, 13, 14, 15, 16, 17, 18, 19, 20, 21, 22, 23, 24, 25, 26, 27, 28, 29, 30, 31] (by decide +kernel) (by decide +kernel)
set_option maxRecDepth 20000 in
theorem gX7_mark_X7_isCase : GoodIn wsX7_mark (wsV RX7 108 RX7 yX7_isCase wsX7_isCase) := goodIn_app (goodIn_of _ (by decide +kernel)) ggX7_mark_X7_isCase
set_option maxRecDepth 20000 in
theorem ggX7_cls_X7_isCase : GoodIn wsX7_cls wsX7_isCase := goodIn_r _ [7, 1, 8, 9, 10, 11, 12, 13, 14, 15, 16, 17, 18, 19, 20, 21, 22, 23, 24, 25, 26, 27] (by decide +kernel) (by decide +kernel)
set_option maxRecDepth 20000 in
theorem gX7_cls_X7_isCase : GoodIn wsX7_cls (wsV RX7 108 RX7 yX7_isCase wsX7_isCase) := goodIn_app (goodIn_of _ (by decide +kernel)) ggX7_cls_X7_isCase
set_option maxRecDepth 20000 in
theorem ggX7_grow_X7_canGrow : GoodIn wsX7_grow wsX7_canGrow := goodIn_r _ [7] (by decide +kernel) (by decide +kernel)
set_option maxRecDepth 20000 in
theorem gX7_grow_X7_canGrow : GoodIn wsX7_grow (va_wsS RX7 122 yX7_canGrow wsX7_canGrow) := goodIn_app (goodIn_of _ (by decide +kernel)) ggX7_grow_X7_canGrow
set_option maxRecDepth 20000 in
theorem ggX7_grow_X4_loadAll : GoodIn wsX7_grow wsX4_loadAll := goodIn_r _ [12, 13, 14, 15, 16, 17, 18, 19, 20, 21, 149, 150, 151, 152, 153, 154, 155, 156, 157, 158] (by decide +kernel) (by decide +kernel)
set_option maxRecDepth 20000 in
theorem gX7_grow_X4_loadAll : GoodIn wsX7_grow (wsV RX7 126 RX4 yX4_loadAll wsX4_loadAll) := goodIn_app (goodIn_of _ (by decide +kernel)) ggX7_grow_X4_loadAll
set_option maxRecDepth 20000 in
theorem ggX7_grow_X7_placeFor : GoodIn wsX7_grow wsX7_placeFor := goodIn_r _ [25, 26, 27, 28, 29, 30, 31, 32, 33, 34, 35, 36, 37, 38, 39, 40, 41, 42, 43, 135, 136, 137, 138, 139, 140, 141, 142, 143, 144, 145, 146, 147, 148, 159, 160, 161, 162, 163, 164, 165] (by decide +kernel) (by decide +kernel)
set_option maxRecDepth 20000 in
theorem gX7_grow_X7_placeFor : GoodIn wsX7_grow (wsV RX7 129 RX7 yX7_placeFor wsX7_placeFor) := goodIn_app (goodIn_of _ (by decide +kernel)) ggX7_grow_X7_placeFor
set_option maxRecDepth 20000 in
theorem ggX7_grow_X2_growInto : GoodIn wsX7_grow wsX2_growInto := goodIn_r _ [48, 49, 50, 51, 52, 53, 54, 55, 56, 57, 58, 59, 47, 60, 61, 62, 63, 64, 65, 66, 67, 68, 11, 69, 13, 70, 71, 6, 72, 73, 74, 75, 76, 15, 77, 78, 79, 29, 80, 43, 37, 38, 39, 40, 41, 42, 81, 17, 18, 19, 82, 83, 84, 85, 86, 87, 88, 89, 90, 91, 92, 93, 94, 95, 96, 97, 98, 99, 100, 101, 102, 103, 104, 105, 106, 107, 108, 109, 110, 111, 112, 113, 114, 115, 116, 117, 118, 119, 120, 121, 122, 123, 124, 125, 126, 127, 128, 129, 130, 131, 132, 133, 134, 16, 166, 167, 168, 169, 170, 171, 172, 173, 174, 175, 176, 177, 149, 150, 151, 152, 153, 159, 160, 161, 162, 163, 164, 165, 154, 155, 156, 157, 158] (by decide +kernel) (by decide +kernel)
set_option maxRecDepth 20000 in
theorem gX7_grow_X2_growInto : GoodIn wsX7_grow (wsV RX7 133 RX2 yX2_growInto wsX2_growInto) := goodIn_app (goodIn_of _ (by decide +kernel)) ggX7_grow_X2_growInto
set_option maxRecDepth 20000 in
theorem ggX7_best_X0_haveGaps : GoodIn wsX7_best wsX0_haveGaps := goodIn_r _ [10, 11, 12, 13, 166, 167, 168, 169, 170] (by decide +kernel) (by decide +kernel)
set_option maxRecDepth 20000 in
theorem gX7_best_X0_haveGaps : GoodIn wsX7_best (wsV RX7 137 RX0 yX0_haveGaps wsX0_haveGaps) := goodIn_app (goodIn_of _ (by decide +kernel)) ggX7_best_X0_haveGaps
set_option maxRecDepth 20000 in
theorem ggX7_best_X4_loadAll : GoodIn wsX7_best wsX4_loadAll := goodIn_r _ [18, 19, 20, 21, 22, 23, 24, 25, 26, 27, 171, 172, 173, 174, 175, 166, 167, 168, 169, 170] (by decide +kernel) (by decide +kernel)
set_option maxRecDepth 20000 in
theorem gX7_best_X4_loadAll : GoodIn wsX7_best (wsV RX7 126 RX4 yX4_loadAll wsX4_loadAll) := goodIn_app (goodIn_of _ (by decide +kernel)) ggX7_best_X4_loadAll
set_option maxRecDepth 20000 in
theorem ggX7_best_X7_placeFor : GoodIn wsX7_best wsX7_placeFor := goodIn_r _ [32, 33, 34, 35, 36, 37, 38, 39, 40, 41, 42, 43, 44, 45, 46, 47, 48, 49, 50, 152, 153, 154, 155, 156, 157, 158, 159, 160, 161, 162, 163, 164, 165, 176, 177, 178, 179, 180, 181, 182] (by decide +kernel) (by decide +kernel)
set_option maxRecDepth 20000 in
theorem gX7_best_X7_placeFor : GoodIn wsX7_best (wsV RX7 129 RX7 yX7_placeFor wsX7_placeFor) := goodIn_app (goodIn_of _ (by decide +kernel)) ggX7_best_X7_placeFor
set_option maxRecDepth 20000 in
theorem ggX7_best_X1_findInto : GoodIn wsX7_best wsX1_findInto := goodIn_r _ [55, 56, 57, 58, 59, 60, 54, 61, 62, 63, 64, 65, 66, 67, 68, 69, 17, 70, 19, 71, 72, 31, 73, 74, 75, 76, 77, 21, 78, 79, 80, 36, 81, 50, 44, 45, 46, 47, 48, 49, 82, 23, 24, 25, 83, 84, 85, 86, 87, 88, 89, 90, 91, 92, 93, 94, 95, 96, 97, 98, 99, 100, 101, 102, 103, 104, 105, 106, 107, 108, 109, 110, 111, 112, 113, 114, 115, 116, 117, 118, 119, 120, 121, 122, 123, 124, 125, 126, 127, 128, 129, 130, 131, 132, 133, 134, 135, 136, 137, 138, 139, 140, 141, 142, 143, 144, 145, 146, 147, 22, 148, 149, 150, 151, 183, 184, 185, 186, 187, 188, 189, 190, 191, 192, 193, 194, 171, 172, 173, 174, 175, 176, 177, 178, 179, 180, 181, 182, 166, 167, 168, 169, 170] (by decide +kernel) (by decide +kernel)
set_option maxRecDepth 20000 in
theorem gX7_best_X1_findInto : GoodIn wsX7_best (wsV RX7 141 RX1 yX1_findInto wsX1_findInto) := goodIn_app (goodIn_of _ (by decide +kernel)) ggX7_best_X1_findInto
set_option maxRecDepth 20000 in
theorem ggX7_cut_X7_treeAt : GoodIn wsX7_cut wsX7_treeAt := goodIn_r _ [7, 1, 8, 92, 93, 94, 95, 96, 97, 98, 99, 100, 101, 102, 103, 104, 105] (by decide +kernel) (by decide +kernel)
set_option maxRecDepth 20000 in
theorem gX7_cut_X7_treeAt : GoodIn wsX7_cut (wsV RX7 145 RX7 yX7_treeAt wsX7_treeAt) := goodIn_app (goodIn_of _ (by decide +kernel)) ggX7_cut_X7_treeAt
set_option maxRecDepth 20000 in
theorem ggX7_price_X7_treeAt : GoodIn wsX7_price wsX7_treeAt := goodIn_r _ [9, 10, 11, 64, 65, 66, 67, 68, 69, 70, 71, 72, 73, 74, 75, 76, 77] (by decide +kernel) (by decide +kernel)
set_option maxRecDepth 20000 in
theorem gX7_price_X7_treeAt : GoodIn wsX7_price (wsV RX7 145 RX7 yX7_treeAt wsX7_treeAt) := goodIn_app (goodIn_of _ (by decide +kernel)) ggX7_price_X7_treeAt
set_option maxRecDepth 20000 in
theorem ggX7_folds_X7_canGrow : GoodIn wsX7_folds wsX7_canGrow := goodIn_r _ [8] (by decide +kernel) (by decide +kernel)
set_option maxRecDepth 20000 in
theorem gX7_folds_X7_canGrow : GoodIn wsX7_folds (va_wsS RX7 122 yX7_canGrow wsX7_canGrow) := goodIn_app (goodIn_of _ (by decide +kernel)) ggX7_folds_X7_canGrow
set_option maxRecDepth 20000 in
theorem ggX7_folds_X7_placeFor : GoodIn wsX7_folds wsX7_placeFor := goodIn_r _ [12, 13, 14, 15, 16, 17, 18, 19, 20, 21, 22, 23, 24, 25, 26, 27, 28, 29, 30, 161, 162, 163, 164, 165, 166, 167, 168, 169, 170, 171, 172, 173, 174, 180, 181, 182, 183, 184, 185, 186] (by decide +kernel) (by decide +kernel)
set_option maxRecDepth 20000 in
theorem gX7_folds_X7_placeFor : GoodIn wsX7_folds (wsV RX7 129 RX7 yX7_placeFor wsX7_placeFor) := goodIn_app (goodIn_of _ (by decide +kernel)) ggX7_folds_X7_placeFor
set_option maxRecDepth 20000 in
theorem ggX7_folds_X4_loadWithout : GoodIn wsX7_folds wsX4_loadWithout := goodIn_r _ [35, 36, 37, 38, 39, 40, 187, 188, 189, 190, 191, 175, 176, 177, 178, 179] (by decide +kernel) (by decide +kernel)
set_option maxRecDepth 20000 in
theorem gX7_folds_X4_loadWithout : GoodIn wsX7_folds (wsV RX7 163 RX4 yX4_loadWithout wsX4_loadWithout) := goodIn_app (goodIn_of _ (by decide +kernel)) ggX7_folds_X4_loadWithout
set_option maxRecDepth 20000 in
theorem ggX7_folds_X2_growInto : GoodIn wsX7_folds wsX2_growInto := goodIn_r _ [45, 46, 47, 48, 49, 50, 51, 52, 53, 54, 55, 56, 44, 57, 58, 59, 60, 61, 62, 63, 64, 65, 34, 66, 37, 67, 68, 7, 69, 70, 71, 72, 73, 40, 74, 75, 76, 16, 77, 30, 24, 25, 26, 27, 28, 29, 78, 79, 80, 81, 82, 83, 84, 85, 86, 87, 88, 89, 90, 91, 92, 93, 94, 95, 96, 97, 98, 99, 100, 101, 102, 103, 104, 105, 106, 107, 108, 109, 110, 111, 112, 113, 114, 115, 116, 117, 118, 119, 120, 121, 122, 123, 124, 125, 126, 127, 128, 129, 130, 131, 132, 133, 134, 135, 192, 193, 194, 195, 196, 197, 198, 199, 200, 201, 202, 203, 187, 188, 189, 190, 191, 180, 181, 182, 183, 184, 185, 186, 175, 176, 177, 178, 179] (by decide +kernel) (by decide +kernel)
set_option maxRecDepth 20000 in
theorem gX7_folds_X2_growInto : GoodIn wsX7_folds (wsV RX7 133 RX2 yX2_growInto wsX2_growInto) := goodIn_app (goodIn_of _ (by decide +kernel)) ggX7_folds_X2_growInto
set_option maxRecDepth 20000 in
theorem ggX7_tree_X7_treeAt : GoodIn wsX7_tree wsX7_treeAt := goodIn_r _ [6, 7, 8, 85, 86, 87, 88, 89, 90, 91, 92, 93, 94, 95, 96, 97, 98] (by decide +kernel) (by decide +kernel)
set_option maxRecDepth 20000 in
theorem gX7_tree_X7_treeAt : GoodIn wsX7_tree (wsV RX7 145 RX7 yX7_treeAt wsX7_treeAt) := goodIn_app (goodIn_of _ (by decide +kernel)) ggX7_tree_X7_treeAt
set_option maxRecDepth 20000 in
theorem ggX7_node_X7_treeAt : GoodIn wsX7_node wsX7_treeAt := goodIn_r _ [10, 11, 12, 52, 53, 54, 55, 56, 57, 58, 59, 60, 61, 62, 63, 64, 65] (by decide +kernel) (by decide +kernel)
set_option maxRecDepth 20000 in
theorem gX7_node_X7_treeAt : GoodIn wsX7_node (wsV RX7 145 RX7 yX7_treeAt wsX7_treeAt) := goodIn_app (goodIn_of _ (by decide +kernel)) ggX7_node_X7_treeAt
set_option maxRecDepth 20000 in
theorem ggX7_share_X7_treeAt : GoodIn wsX7_share wsX7_treeAt := goodIn_r _ [6, 7, 8, 25, 26, 27, 28, 29, 30, 31, 32, 33, 34, 35, 36, 37, 38] (by decide +kernel) (by decide +kernel)
set_option maxRecDepth 20000 in
theorem gX7_share_X7_treeAt : GoodIn wsX7_share (wsV RX7 145 RX7 yX7_treeAt wsX7_treeAt) := goodIn_app (goodIn_of _ (by decide +kernel)) ggX7_share_X7_treeAt
set_option maxRecDepth 20000 in
theorem ggX7_say_X7_treeAt : GoodIn wsX7_say wsX7_treeAt := goodIn_r _ [9, 10, 11, 49, 50, 51, 52, 53, 54, 55, 56, 57, 58, 59, 60, 61, 62] (by decide +kernel) (by decide +kernel)
set_option maxRecDepth 20000 in
theorem gX7_say_X7_treeAt : GoodIn wsX7_say (wsV RX7 145 RX7 yX7_treeAt wsX7_treeAt) := goodIn_app (goodIn_of _ (by decide +kernel)) ggX7_say_X7_treeAt
set_option maxRecDepth 20000 in
theorem ggX7_rule_X7_treeAt : GoodIn wsX7_rule wsX7_treeAt := goodIn_r _ [7, 8, 9, 73, 74, 75, 76, 77, 78, 79, 80, 81, 82, 83, 84, 85, 86] (by decide +kernel) (by decide +kernel)
set_option maxRecDepth 20000 in
theorem gX7_rule_X7_treeAt : GoodIn wsX7_rule (wsV RX7 145 RX7 yX7_treeAt wsX7_treeAt) := goodIn_app (goodIn_of _ (by decide +kernel)) ggX7_rule_X7_treeAt
set_option maxRecDepth 20000 in
theorem ggX7_near_X7_treeAt : GoodIn wsX7_near wsX7_treeAt := goodIn_r _ [9, 10, 11, 123, 124, 125, 126, 127, 128, 129, 130, 131, 132, 133, 134, 135, 136] (by decide +kernel) (by decide +kernel)
set_option maxRecDepth 20000 in
theorem gX7_near_X7_treeAt : GoodIn wsX7_near (wsV RX7 145 RX7 yX7_treeAt wsX7_treeAt) := goodIn_app (goodIn_of _ (by decide +kernel)) ggX7_near_X7_treeAt
set_option maxRecDepth 20000 in
theorem ggX7_turned_X7_isMark : GoodIn wsX7_turned wsX7_isMark := goodIn_r _ [7] (by decide +kernel) (by decide +kernel)
set_option maxRecDepth 20000 in
theorem gX7_turned_X7_isMark : GoodIn wsX7_turned (va_wsS RX7 90 yX7_isMark wsX7_isMark) := goodIn_app (goodIn_of _ (by decide +kernel)) ggX7_turned_X7_isMark
set_option maxRecDepth 20000 in
theorem ggX7_placeFor_X6_init : GoodIn wsX7_placeFor wsX6_init := goodIn_r _ [7, 8, 9, 10, 11, 12, 13, 14, 15, 16, 17, 18, 33, 34, 35, 36, 37, 38, 39] (by decide +kernel) (by decide +kernel)
set_option maxRecDepth 20000 in
theorem gX7_placeFor_X6_init_n253 : GoodIn wsX7_placeFor (wsX6_init) := ggX7_placeFor_X6_init
set_option maxRecDepth 20000 in
theorem ggX7_readTold_X7_readPair : GoodIn wsX7_readTold wsX7_readPair := goodIn_r _ [6, 1, 7, 8, 9, 10, 11, 12, 13, 14, 15, 16, 17, 18, 19, 20] (by decide +kernel) (by decide +kernel)
set_option maxRecDepth 20000 in
theorem gX7_readTold_X7_readPair : GoodIn wsX7_readTold (wsV RX7 254 RX7 yX7_readPair wsX7_readPair) := goodIn_app (goodIn_of _ (by decide +kernel)) ggX7_readTold_X7_readPair
end
section
/-! what the contracts are said in: a start (pw), an end (qw), the links of nest mates and the array of trees (nw) -/
abbrev vu : Type := va_W × List (ClassId × FieldType)
abbrev vg : Type := (Nat → ClassId) × (Nat → Nat → Nat)
def nw (U : State) : Prop :=
  va_Nw (.methodLinkNest RX7 11 yX0_init "AskTree") U ∧ va_Nw (.methodLinkNest RX7 253 yX6_init "AskTree") U ∧ va_Nw (.methodLinkNest RX7 43 yX3_init "AskTree") U ∧
  va_Nw (.methodLinkNest RX1 114 yX7_clear "AskTree") U ∧ va_Nw (.methodLinkNest RX1 124 yX7_firstGreatest "AskTree") U ∧ va_Nw (.methodLinkNest RX2 61 yX7_firstGreatest "AskTree") U ∧
  va_Nw (.methodLinkNest RX4 48 yX7_clear "AskTree") U ∧ va_AO "AskTree$Tree" U
theorem nw_same {u U : State} (h : u.vm = U.vm) (q : nw u) : nw U := by
  obtain ⟨h1, h2, h3, h4, h5, h6, h7, h8⟩ := q
  exact ⟨va_Nw.same rfl h h1, va_Nw.same rfl h h2, va_Nw.same rfl h h3, va_Nw.same rfl h h4, va_Nw.same rfl h h5, va_Nw.same rfl h h6, va_Nw.same rfl h h7, va_AO.moved (by rw [h]; exact Vm.Alike.refl U.vm) h8⟩
theorem nw_warm {s U : State} (hW : s.WarmedH U.vm) (q : nw s) : nw U := by
  obtain ⟨h1, h2, h3, h4, h5, h6, h7, h8⟩ := q
  exact ⟨va_Nw.warmM hW h1, va_Nw.warmM hW h2, va_Nw.warmM hW h3, va_Nw.warmM hW h4, va_Nw.warmM hW h5, va_Nw.warmM hW h6, va_Nw.warmM hW h7, va_AO.moved hW.alike h8⟩
abbrev pw (D : vg) (tys : List (ClassId × FieldType)) (ws : va_W) (sz : Nat) (U : State) : Prop := U.heap.size = sz ∧ va_P D vwCl ws U.heap ∧ va_K D vwCl tys U ∧ va_D (fun _ => True) ws ∧ nw U
abbrev qw (D : vg) (tys : List (ClassId × FieldType)) (A : Nat → Prop) (ws : va_W) (t : State) : Prop := va_P D vwCl ws t.heap ∧ va_K D vwCl tys t ∧ va_D A ws
theorem pre_S {s : State} {H : Heap} {D : vg} {tys : List (ClassId × FieldType)} {ws : va_W} {A : Nat → Prop} {av : List Value} (hP : va_P D vwCl ws H) (hK : va_K D vwCl tys s) (hD : va_D A ws) (hN : nw s) : PreS s H (va_Pc av (pw D tys ws H.size)) av :=
  ⟨fun a U g mk q => by obtain ⟨q0, q1, qP, qK, qD, qN⟩ := q; exact ⟨q0, q1, qP, va_K.moved (u := U) (U := U.calling g mk a) (Vm.Alike.refl U.vm) qK, qD, nw_same (u := U) (U := U.calling g mk a) rfl qN⟩, fun U hU hW => ⟨rfl, by rw [hU], by rw [hU]; exact hP, va_K.moved hW.alike hK, hD.weaken (fun _ _ _ _ => trivial), nw_warm hW hN⟩⟩
theorem pre_V {s : State} {H : Heap} {D : vg} {tys : List (ClassId × FieldType)} {ws : va_W} {A : Nat → Prop} {b ci q0 : Nat} {q : vw_C} {fs : List Value} {As : List Value} (hP : va_P D vwCl ws H) (hK : va_K D vwCl tys s) (hD : va_D A ws) (hN : nw s) (hc : vwCl[ci]? = some q) (he : ws[q0]? = some (b, .inr (ci, fs))) : PreV s H q.1 b (va_Pc (.ref b :: As) (pw D tys ws H.size)) As :=
  ⟨(pre_S (av := .ref b :: As) hP hK hD hN).1, va_recv hK hP hc he, (pre_S (av := .ref b :: As) hP hK hD hN).2⟩
theorem tvv {p : Program} {l : Launch} {e : Env} {R : Room} {s : State} {m : MethodId} {args : Array Value} {below : List Frame} {meth : Method} {c : Code} {H : Heap} {locs : List Loc} {cells slots : Nat} {Q : State → Prop} {pc : Nat} {ls : Array Slot} {rest : List Value} {a v : Value} (h : a = v) (k : W p l e R s m args below meth c H locs cells slots Q (F0 m pc ls (v :: rest))) : W p l e R s m args below meth c H locs cells slots Q (F0 m pc ls (a :: rest)) := h ▸ k
theorem vi (i : Int32) (n : Nat) (h : ¬ (i < 0 ∨ n ≤ i.toNatClampNeg)) : vp_in i n := h
theorem ci (f : Nat → Int32) {i : Int32} {k : Nat} {v : Int32} (hi : i.toNatClampNeg = k) (h : f k = v) : Value.int (f i.toNatClampNeg) = .int v := by rw [hi, h]
theorem cq (f : Nat → Option Nat) {i : Int32} {k : Nat} {v : Option Nat} (hi : i.toNatClampNeg = k) (h : f k = v) : va_rf (f i.toNatClampNeg) = va_rf v := by rw [hi, h]
theorem up_s {f : Nat → Int32} {i : Int32} {k : Nat} {x : Int32} (hi : i.toNatClampNeg = k) : upd f i.toNatClampNeg x k = x := by rw [hi]; simp [upd]
theorem up_n {f : Nat → Int32} {i : Int32} {k j : Nat} {x v : Int32} (hi : i.toNatClampNeg = k) (hj : j ≠ k) (h : f j = v) : upd f i.toNatClampNeg x j = v := by rw [hi, ← h]; simp [upd, hj]
theorem uq_s {f : Nat → Option Nat} {i : Int32} {k : Nat} {x : Option Nat} (hi : i.toNatClampNeg = k) : va_up f i.toNatClampNeg x k = x := by rw [hi]; simp [va_up]
theorem nil_P {D : vg} {H : Heap} : va_P D vwCl [] H := fun k q h => by simp at h
theorem nil_D {A : Nat → Prop} : va_D A [] := ⟨fun i j p q h => by simp at h, fun k q h => by simp at h⟩
theorem ln_0 : (0 : Int32).toInt = 0 := by decide
theorem ln_1 : (1 : Int32).toInt = 1 := by decide
theorem ln_2 : (2 : Int32).toInt = 2 := by decide
theorem ln_3 : (3 : Int32).toInt = 3 := by decide
theorem ln_4 : (4 : Int32).toInt = 4 := by decide
theorem ln_6 : (6 : Int32).toInt = 6 := by decide
theorem ln_8 : (8 : Int32).toInt = 8 := by decide
theorem ln_10 : (10 : Int32).toInt = 10 := by decide
theorem ln_50 : (50 : Int32).toInt = 50 := by decide
theorem ln_100 : (100 : Int32).toInt = 100 := by decide
theorem ln_300 : (300 : Int32).toInt = 300 := by decide
theorem ln_1000 : (1000 : Int32).toInt = 1000 := by decide
theorem ln_m1000 : (-1000 : Int32).toInt = -1000 := by decide
theorem ln_m32768 : (-32768 : Int32).toInt = -32768 := by decide
theorem ln_m1 : (-1 : Int32).toInt = -1 := by decide
theorem ln_m2 : (-2 : Int32).toInt = -2 := by decide
theorem ln_m40000 : (-40000 : Int32).toInt = -40000 := by decide
theorem ln_20 : (20 : Int32).toInt = 20 := by decide
theorem fo_zero {x k : Int32} (h : k.toInt ≤ x.toInt + ((0 : Nat) : Int)) : ¬ x < k := by
  simp only [Int32.lt_iff_toInt_lt]; omega
theorem fo_a {k : Int32} (h : ¬ k < 2) : (1 : Int32) ≤ k := by
  simp only [Int32.lt_iff_toInt_lt, Int32.le_iff_toInt_le, ln_1, ln_2] at *; omega
theorem fo_b {k : Int32} (h : ¬ 10 < k) : k.toInt ≤ (1 : Int32).toInt + ((10 : Nat) : Int) := by
  simp only [Int32.lt_iff_toInt_lt, Int32.le_iff_toInt_le, ln_1, ln_10] at *; omega
theorem fo_s {x k : Int32} (h1 : 0 ≤ x) (h2 : x < k) (h3 : ¬ 10 < k) : (x + 1).toInt = x.toInt + 1 := by
  simp only [Int32.lt_iff_toInt_lt, Int32.le_iff_toInt_le, ln_0, ln_10] at *
  rw [Int32.toInt_add, ln_1, Int.bmod_eq_of_le (by omega) (by omega)]
theorem fo_1 {x k : Int32} (h1 : 0 ≤ x) (h2 : x < k) (h3 : ¬ 10 < k) : 0 ≤ x + 1 := by
  have h := fo_s h1 h2 h3
  simp only [Int32.lt_iff_toInt_lt, Int32.le_iff_toInt_le, ln_0, ln_10] at *; omega
theorem fo_2 {x k : Int32} (h1 : 0 ≤ x) (h2 : x < k) (h3 : ¬ 10 < k) : x + 1 ≤ k := by
  have h := fo_s h1 h2 h3
  simp only [Int32.lt_iff_toInt_lt, Int32.le_iff_toInt_le, ln_0, ln_10] at *; omega
theorem fo_3 {x k : Int32} {n : Nat} (h1 : 0 ≤ x) (h2 : x < k) (h3 : ¬ 10 < k) (h4 : k.toInt ≤ x.toInt + ((n + 1 : Nat) : Int)) : k.toInt ≤ (x + 1).toInt + (n : Int) := by
  have h := fo_s h1 h2 h3
  rw [h]; omega
theorem lk_out {x : Int32} (h0 : ¬ x = 0) (h1 : ¬ x = 1) : Op.lookupswitch.offset [(0, 27), (1, 35)] 40 x.toInt = 40 := (lv_osw h0 rfl).trans ((lv_osw h1 rfl).trans rfl)
/-! the eight marks of a call, as they are told -/
def tm (a b c d : Int32) (k : Nat) : Int32 := match k with
  | 0 => a >>> (16 &&& 31)
  | 1 => a.toInt16.toInt32
  | 2 => b >>> (16 &&& 31)
  | 3 => b.toInt16.toInt32
  | 4 => c >>> (16 &&& 31)
  | 5 => c.toInt16.toInt32
  | 6 => d >>> (16 &&& 31)
  | _ => d.toInt16.toInt32
def ok (x : Int32) : Prop := (¬ x < -1000 ∧ ¬ 1000 < x) ∨ x = -32768
def tk (a b c d : Int32) (k : Nat) : Prop := ∀ j, j < k → ok (tm a b c d j)
def tok (a b c d : Int32) : Prop := tk a b c d 8
theorem tk_0 (a b c d : Int32) : tk a b c d 0 := fun j h => absurd h (Nat.not_lt_zero j)
theorem tk_s {a b c d : Int32} {k : Nat} (h : tk a b c d k) (h2 : ok (tm a b c d k)) : tk a b c d (k + 1) := fun j hj => by
  rcases Nat.lt_succ_iff_lt_or_eq.mp hj with q | q
  · exact h j q
  · rw [q]; exact h2
theorem tk_n {a b c d : Int32} {k : Nat} (h : ¬ tk a b c d k) : ¬ tk a b c d (k + 1) := fun g => h (fun j hj => g j (Nat.lt_succ_of_lt hj))
theorem tk_b {a b c d : Int32} {k : Nat} (h : ¬ ok (tm a b c d k)) : ¬ tk a b c d (k + 1) := fun g => h (g k (Nat.lt_succ_self k))
theorem tk_t {a b c d : Int32} {k : Nat} (h : ¬ ok (tm a b c d k)) (hk : k < 8) : ¬ tok a b c d := fun g => h (g k hk)
theorem ok_n {x : Int32} (h1 : ¬ x < -1000) (h2 : ¬ 1000 < x) : ok x := Or.inl ⟨h1, h2⟩
theorem ok_g {x : Int32} (h : x = -32768) : ok x := Or.inr h
theorem no_l {x : Int32} (h : x < -1000) (h2 : ¬ x = -32768) : ¬ ok x := fun g => g.elim (fun q => q.1 h) h2
theorem no_h {x : Int32} (h : 1000 < x) (h2 : ¬ x = -32768) : ¬ ok x := fun g => g.elim (fun q => q.2 h) h2
theorem sx_n (n : Nat) : Int.bmod ((n * 65536 % 4294967296 : Nat) : Int) 4294967296 / 65536 = Int.bmod (n : Int) 65536 := by
  have e1 : n * 65536 % 4294967296 = (n % 65536) * 65536 := Nat.mul_mod_mul_right 65536 n 65536
  have hr : n % 65536 < 65536 := Nat.mod_lt _ (by decide)
  have e2 : Int.bmod (n : Int) 65536 = Int.bmod ((n % 65536 : Nat) : Int) 65536 := by rw [Int.natCast_emod]; exact (Int.emod_bmod (n : Int) 65536).symm
  rw [e1, e2]
  generalize n % 65536 = r at hr
  have a1 : ((r * 65536 : Nat) : Int) % ((4294967296 : Nat) : Int) = (r : Int) * 65536 := by rw [Int.natCast_mul]; exact Int.emod_eq_of_lt (by omega) (by omega)
  have a2 : (r : Int) % ((65536 : Nat) : Int) = (r : Int) := Int.emod_eq_of_lt (by omega) (by omega)
  rw [Int.bmod_def, Int.bmod_def, a1, a2]
  rcases Nat.lt_or_ge r 32768 with h | h
  · rw [if_pos (by omega), if_pos (by omega)]
    exact Int.mul_ediv_cancel _ (by decide)
  · rw [if_neg (by omega), if_neg (by omega)]
    have e3 : (r : Int) * 65536 - ((4294967296 : Nat) : Int) = ((r : Int) - 65536) * 65536 := by omega
    rw [e3]
    exact Int.mul_ediv_cancel _ (by decide)
theorem sx (x : Int32) : (x <<< (16 &&& 31)) >>> (16 &&& 31) = x.toInt16.toInt32 := by
  apply Int32.toInt_inj.mp
  have e16 : (16 &&& 31 : Int32) = 16 := by decide
  rw [e16, pk_shr (x <<< 16) 16 16 (by decide), Int16.toInt_toInt32, Int32.toInt_toInt16]
  have h1 : (x <<< (16 : Int32)).toBitVec.toNat = x.toBitVec.toNat * 2 ^ 16 % 2 ^ 32 := pk_shl x 16 16 (by decide)
  have h2 : (x <<< (16 : Int32)).toInt = (x <<< (16 : Int32)).toBitVec.toInt := rfl
  have h3 : x.toInt = x.toBitVec.toInt := rfl
  have hlt := x.toBitVec.isLt
  have h4 : Int.bmod x.toBitVec.toInt (2 ^ 16) = Int.bmod (x.toBitVec.toNat : Int) 65536 := by
    rw [BitVec.toInt_eq_toNat_bmod]
    exact Int.bmod_bmod_of_dvd (by decide)
  rw [h2, h3, h4, BitVec.toInt_eq_toNat_bmod, h1, Int.shiftRight_eq_div_pow]
  exact sx_n x.toBitVec.toNat
theorem no_H {x : Int32} (h : 1000 < x) : ¬ ok x := no_h h (fun q => by
  rw [q] at h; exact absurd h (by decide))
theorem na_I (n : Nat) : ∀ cA : ClassId, vp_cell cA (n, .inl (fun _ => 0)) = arrV cA n (fun _ => defaultValue .int) := fun _ => rfl
theorem na_Z (n : Nat) : ∀ cA : ClassId, vp_cell cA (n, .inl (fun _ => 0)) = arrV cA n (fun _ => defaultValue .boolean) := fun _ => rfl
end
section
set_option maxHeartbeats 4000000 in
set_option maxRecDepth 100000 in
theorem c_isMark (l : Launch) (dC : Nat → ClassId) (dI : Nat → Nat → Nat) (sz : Nat) (p0 : Int32)   : Met l yX7_isMark wsX7_isMark ({ frames := 1, cells := 0, slots := 0, locals := 60 }) (va_Pc [.int p0] (pw (dC, dI) [] [] sz)) (va_Qi (fun (r : Int32) (u : vu) => (u = ([], []) ∧ p0 < 0 ∧ r = 0) ∨ (u = ([], []) ∧ ¬ p0 < 0 ∧ 8 ≤ p0 ∧ r = 0) ∨ (u = ([], []) ∧ ¬ p0 < 0 ∧ ¬ 8 ≤ p0 ∧ r = 1)) (fun u t => qw (dC, dI) u.2 (va_A [] sz) u.1 t) (va_A [] sz)) 0 0 (va_A [] sz) := by
  refine Met.ofW (cc := cX7_isMark) (maxL := 1) (ret := (some .boolean)) (by decide) rfl ?_
  intro p e s m args below meth c s₁ B hml hv
  obtain ⟨rfl, hsz, hP, hK, hD0, hN⟩ := hv
  have hx := B.exec
  have hb := B.bytes
  have hr := B.returns
  have hts := atoms_spec (ws := wsX7_isMark) B.pre
  have hown : s.vm.findClass RX7 = some m.cls := findClass_of_methodNamed B.named
  have hlocks := B.notSynchronized
  subst hsz
  have hD := hD0.self (sz := s.heap.size)
  generalize hAe : va_A [] s.heap.size = A at hD ⊢
  have hA : ∀ q : Nat, s.heap.size ≤ q → A q := fun q h => by rw [← hAe]; exact Or.inr h
  have hS : va_S A s.heap s.heap [] := va_S.rf
  have hl := lv_entry ([.int p0]) (n := 1) (Nat.le_of_ble_eq_true rfl)
  rw [lg_entry_eq]
  generalize (lg_sl ([.int p0]) ++ List.replicate (1 - (lg_sl ([.int p0])).length) Slot.unset).toArray = ls at hl ⊢
  have hl : lv_has ls 1 [(0, .int p0)] := hl
  have hP : va_P (dC, dI) vwCl [] s.heap := hP
  refine lv_iload_n hx hb dX7_isMark_0 rfl (lv_at hl 0 rfl) ?_
  refine lv_if_lt (tgt := 14) hx hb dX7_isMark_1 (by decide) (fun c_1 => ?_) (fun c_1 => ?_)
  · skip
    refine lv_iconst (v := 0) hx hb dX7_isMark_14 (by decide) ?_
    have hP9 := hP.sub (ws' := []) [] rfl
    have hD9 := hD.sub (ws' := []) [] (by decide) rfl
    have hK9 := hK.sub (tys' := []) [] rfl
    exact W.zret (v := 0) hx hb hr rfl (fun t ht hW => ⟨⟨0, ([], []), rfl, (Or.inl ⟨rfl, c_1, rfl⟩), (by rw [ht]; exact hP9), va_K.moved hW.alike hK9, hD9⟩, hS.F ht⟩) hS.2.2 dX7_isMark_15
  · skip
    refine lv_iload_n hx hb dX7_isMark_4 rfl (lv_at hl 0 rfl) ?_
    refine lv_bipush (v := 8) hx hb dX7_isMark_5 (by decide) ?_
    refine lv_icmp_ge (tgt := 14) hx hb dX7_isMark_7 (by decide) (fun c_2 => ?_) (fun c_2 => ?_)
    · skip
      refine lv_iconst (v := 0) hx hb dX7_isMark_14 (by decide) ?_
      have hP9 := hP.sub (ws' := []) [] rfl
      have hD9 := hD.sub (ws' := []) [] (by decide) rfl
      have hK9 := hK.sub (tys' := []) [] rfl
      exact W.zret (v := 0) hx hb hr rfl (fun t ht hW => ⟨⟨0, ([], []), rfl, (Or.inr (Or.inl ⟨rfl, c_1, c_2, rfl⟩)), (by rw [ht]; exact hP9), va_K.moved hW.alike hK9, hD9⟩, hS.F ht⟩) hS.2.2 dX7_isMark_15
    · skip
      refine lv_iconst (v := 1) hx hb dX7_isMark_10 (by decide) ?_
      refine lv_goto (tgt := 15) hx hb dX7_isMark_11 (by decide) ?_
      have hP9 := hP.sub (ws' := []) [] rfl
      have hD9 := hD.sub (ws' := []) [] (by decide) rfl
      have hK9 := hK.sub (tys' := []) [] rfl
      exact W.zret (v := 1) hx hb hr rfl (fun t ht hW => ⟨⟨1, ([], []), rfl, (Or.inr (Or.inr ⟨rfl, c_1, c_2, rfl⟩)), (by rw [ht]; exact hP9), va_K.moved hW.alike hK9, hD9⟩, hS.F ht⟩) hS.2.2 dX7_isMark_15

set_option maxHeartbeats 4000000 in
set_option maxRecDepth 100000 in
theorem c_isClass (l : Launch) (dC : Nat → ClassId) (dI : Nat → Nat → Nat) (sz : Nat) (p0 : Int32)   : Met l yX7_isClass wsX7_isClass ({ frames := 1, cells := 0, slots := 0, locals := 60 }) (va_Pc [.int p0] (pw (dC, dI) [] [] sz)) (va_Qi (fun (r : Int32) (u : vu) => (u = ([], []) ∧ p0 < 0 ∧ r = 0) ∨ (u = ([], []) ∧ ¬ p0 < 0 ∧ 4 ≤ p0 ∧ r = 0) ∨ (u = ([], []) ∧ ¬ p0 < 0 ∧ ¬ 4 ≤ p0 ∧ r = 1)) (fun u t => qw (dC, dI) u.2 (va_A [] sz) u.1 t) (va_A [] sz)) 0 0 (va_A [] sz) := by
  refine Met.ofW (cc := cX7_isClass) (maxL := 1) (ret := (some .boolean)) (by decide) rfl ?_
  intro p e s m args below meth c s₁ B hml hv
  obtain ⟨rfl, hsz, hP, hK, hD0, hN⟩ := hv
  have hx := B.exec
  have hb := B.bytes
  have hr := B.returns
  have hts := atoms_spec (ws := wsX7_isClass) B.pre
  have hown : s.vm.findClass RX7 = some m.cls := findClass_of_methodNamed B.named
  have hlocks := B.notSynchronized
  subst hsz
  have hD := hD0.self (sz := s.heap.size)
  generalize hAe : va_A [] s.heap.size = A at hD ⊢
  have hA : ∀ q : Nat, s.heap.size ≤ q → A q := fun q h => by rw [← hAe]; exact Or.inr h
  have hS : va_S A s.heap s.heap [] := va_S.rf
  have hl := lv_entry ([.int p0]) (n := 1) (Nat.le_of_ble_eq_true rfl)
  rw [lg_entry_eq]
  generalize (lg_sl ([.int p0]) ++ List.replicate (1 - (lg_sl ([.int p0])).length) Slot.unset).toArray = ls at hl ⊢
  have hl : lv_has ls 1 [(0, .int p0)] := hl
  have hP : va_P (dC, dI) vwCl [] s.heap := hP
  refine lv_iload_n hx hb dX7_isClass_0 rfl (lv_at hl 0 rfl) ?_
  refine lv_if_lt (tgt := 13) hx hb dX7_isClass_1 (by decide) (fun c_1 => ?_) (fun c_1 => ?_)
  · skip
    refine lv_iconst (v := 0) hx hb dX7_isClass_13 (by decide) ?_
    have hP9 := hP.sub (ws' := []) [] rfl
    have hD9 := hD.sub (ws' := []) [] (by decide) rfl
    have hK9 := hK.sub (tys' := []) [] rfl
    exact W.zret (v := 0) hx hb hr rfl (fun t ht hW => ⟨⟨0, ([], []), rfl, (Or.inl ⟨rfl, c_1, rfl⟩), (by rw [ht]; exact hP9), va_K.moved hW.alike hK9, hD9⟩, hS.F ht⟩) hS.2.2 dX7_isClass_14
  · skip
    refine lv_iload_n hx hb dX7_isClass_4 rfl (lv_at hl 0 rfl) ?_
    refine lv_iconst (v := 4) hx hb dX7_isClass_5 (by decide) ?_
    refine lv_icmp_ge (tgt := 13) hx hb dX7_isClass_6 (by decide) (fun c_2 => ?_) (fun c_2 => ?_)
    · skip
      refine lv_iconst (v := 0) hx hb dX7_isClass_13 (by decide) ?_
      have hP9 := hP.sub (ws' := []) [] rfl
      have hD9 := hD.sub (ws' := []) [] (by decide) rfl
      have hK9 := hK.sub (tys' := []) [] rfl
      exact W.zret (v := 0) hx hb hr rfl (fun t ht hW => ⟨⟨0, ([], []), rfl, (Or.inr (Or.inl ⟨rfl, c_1, c_2, rfl⟩)), (by rw [ht]; exact hP9), va_K.moved hW.alike hK9, hD9⟩, hS.F ht⟩) hS.2.2 dX7_isClass_14
    · skip
      refine lv_iconst (v := 1) hx hb dX7_isClass_9 (by decide) ?_
      refine lv_goto (tgt := 14) hx hb dX7_isClass_10 (by decide) ?_
      have hP9 := hP.sub (ws' := []) [] rfl
      have hD9 := hD.sub (ws' := []) [] (by decide) rfl
      have hK9 := hK.sub (tys' := []) [] rfl
      exact W.zret (v := 1) hx hb hr rfl (fun t ht hW => ⟨⟨1, ([], []), rfl, (Or.inr (Or.inr ⟨rfl, c_1, c_2, rfl⟩)), (by rw [ht]; exact hP9), va_K.moved hW.alike hK9, hD9⟩, hS.F ht⟩) hS.2.2 dX7_isClass_14

set_option maxHeartbeats 4000000 in
set_option maxRecDepth 100000 in
theorem c_canGrow (l : Launch) (dC : Nat → ClassId) (dI : Nat → Nat → Nat) (sz : Nat) (p0 : Int32) (p1 : Int32)   : Met l yX7_canGrow wsX7_canGrow ({ frames := 1, cells := 0, slots := 0, locals := 60 }) (va_Pc [.int p0, .int p1] (pw (dC, dI) [] [] sz)) (va_Qi (fun (r : Int32) (u : vu) => (u = ([], []) ∧ p0 < 0 ∧ r = 0) ∨ (u = ([], []) ∧ ¬ p0 < 0 ∧ 8 < p0 ∧ r = 0) ∨ (u = ([], []) ∧ ¬ p0 < 0 ∧ ¬ 8 < p0 ∧ p1 < 1 ∧ r = 0) ∨ (u = ([], []) ∧ ¬ p0 < 0 ∧ ¬ 8 < p0 ∧ ¬ p1 < 1 ∧ 100 < p1 ∧ r = 0) ∨ (u = ([], []) ∧ ¬ p0 < 0 ∧ ¬ 8 < p0 ∧ ¬ p1 < 1 ∧ ¬ 100 < p1 ∧ r = 1)) (fun u t => qw (dC, dI) u.2 (va_A [] sz) u.1 t) (va_A [] sz)) 0 0 (va_A [] sz) := by
  refine Met.ofW (cc := cX7_canGrow) (maxL := 2) (ret := (some .boolean)) (by decide) rfl ?_
  intro p e s m args below meth c s₁ B hml hv
  obtain ⟨rfl, hsz, hP, hK, hD0, hN⟩ := hv
  have hx := B.exec
  have hb := B.bytes
  have hr := B.returns
  have hts := atoms_spec (ws := wsX7_canGrow) B.pre
  have hown : s.vm.findClass RX7 = some m.cls := findClass_of_methodNamed B.named
  have hlocks := B.notSynchronized
  subst hsz
  have hD := hD0.self (sz := s.heap.size)
  generalize hAe : va_A [] s.heap.size = A at hD ⊢
  have hA : ∀ q : Nat, s.heap.size ≤ q → A q := fun q h => by rw [← hAe]; exact Or.inr h
  have hS : va_S A s.heap s.heap [] := va_S.rf
  have hl := lv_entry ([.int p0, .int p1]) (n := 2) (Nat.le_of_ble_eq_true rfl)
  rw [lg_entry_eq]
  generalize (lg_sl ([.int p0, .int p1]) ++ List.replicate (2 - (lg_sl ([.int p0, .int p1])).length) Slot.unset).toArray = ls at hl ⊢
  have hl : lv_has ls 2 [(0, .int p0), (1, .int p1)] := hl
  have hP : va_P (dC, dI) vwCl [] s.heap := hP
  refine lv_iload_n hx hb dX7_canGrow_0 rfl (lv_at hl 0 rfl) ?_
  refine lv_if_lt (tgt := 25) hx hb dX7_canGrow_1 (by decide) (fun c_1 => ?_) (fun c_1 => ?_)
  · skip
    refine lv_iconst (v := 0) hx hb dX7_canGrow_25 (by decide) ?_
    have hP9 := hP.sub (ws' := []) [] rfl
    have hD9 := hD.sub (ws' := []) [] (by decide) rfl
    have hK9 := hK.sub (tys' := []) [] rfl
    exact W.zret (v := 0) hx hb hr rfl (fun t ht hW => ⟨⟨0, ([], []), rfl, (Or.inl ⟨rfl, c_1, rfl⟩), (by rw [ht]; exact hP9), va_K.moved hW.alike hK9, hD9⟩, hS.F ht⟩) hS.2.2 dX7_canGrow_26
  · skip
    refine lv_iload_n hx hb dX7_canGrow_4 rfl (lv_at hl 0 rfl) ?_
    refine lv_bipush (v := 8) hx hb dX7_canGrow_5 (by decide) ?_
    refine lv_icmp_gt (tgt := 25) hx hb dX7_canGrow_7 (by decide) (fun c_2 => ?_) (fun c_2 => ?_)
    · skip
      refine lv_iconst (v := 0) hx hb dX7_canGrow_25 (by decide) ?_
      have hP9 := hP.sub (ws' := []) [] rfl
      have hD9 := hD.sub (ws' := []) [] (by decide) rfl
      have hK9 := hK.sub (tys' := []) [] rfl
      exact W.zret (v := 0) hx hb hr rfl (fun t ht hW => ⟨⟨0, ([], []), rfl, (Or.inr (Or.inl ⟨rfl, c_1, c_2, rfl⟩)), (by rw [ht]; exact hP9), va_K.moved hW.alike hK9, hD9⟩, hS.F ht⟩) hS.2.2 dX7_canGrow_26
    · skip
      refine lv_iload_n hx hb dX7_canGrow_10 rfl (lv_at hl 1 rfl) ?_
      refine lv_iconst (v := 1) hx hb dX7_canGrow_11 (by decide) ?_
      refine lv_icmp_lt (tgt := 25) hx hb dX7_canGrow_12 (by decide) (fun c_3 => ?_) (fun c_3 => ?_)
      · skip
        refine lv_iconst (v := 0) hx hb dX7_canGrow_25 (by decide) ?_
        have hP9 := hP.sub (ws' := []) [] rfl
        have hD9 := hD.sub (ws' := []) [] (by decide) rfl
        have hK9 := hK.sub (tys' := []) [] rfl
        exact W.zret (v := 0) hx hb hr rfl (fun t ht hW => ⟨⟨0, ([], []), rfl, (Or.inr (Or.inr (Or.inl ⟨rfl, c_1, c_2, c_3, rfl⟩))), (by rw [ht]; exact hP9), va_K.moved hW.alike hK9, hD9⟩, hS.F ht⟩) hS.2.2 dX7_canGrow_26
      · skip
        refine lv_iload_n hx hb dX7_canGrow_15 rfl (lv_at hl 1 rfl) ?_
        refine lv_bipush (v := 100) hx hb dX7_canGrow_16 (by decide) ?_
        refine lv_icmp_gt (tgt := 25) hx hb dX7_canGrow_18 (by decide) (fun c_4 => ?_) (fun c_4 => ?_)
        · skip
          refine lv_iconst (v := 0) hx hb dX7_canGrow_25 (by decide) ?_
          have hP9 := hP.sub (ws' := []) [] rfl
          have hD9 := hD.sub (ws' := []) [] (by decide) rfl
          have hK9 := hK.sub (tys' := []) [] rfl
          exact W.zret (v := 0) hx hb hr rfl (fun t ht hW => ⟨⟨0, ([], []), rfl, (Or.inr (Or.inr (Or.inr (Or.inl ⟨rfl, c_1, c_2, c_3, c_4, rfl⟩)))), (by rw [ht]; exact hP9), va_K.moved hW.alike hK9, hD9⟩, hS.F ht⟩) hS.2.2 dX7_canGrow_26
        · skip
          refine lv_iconst (v := 1) hx hb dX7_canGrow_21 (by decide) ?_
          refine lv_goto (tgt := 26) hx hb dX7_canGrow_22 (by decide) ?_
          have hP9 := hP.sub (ws' := []) [] rfl
          have hD9 := hD.sub (ws' := []) [] (by decide) rfl
          have hK9 := hK.sub (tys' := []) [] rfl
          exact W.zret (v := 1) hx hb hr rfl (fun t ht hW => ⟨⟨1, ([], []), rfl, (Or.inr (Or.inr (Or.inr (Or.inr ⟨rfl, c_1, c_2, c_3, c_4, rfl⟩)))), (by rw [ht]; exact hP9), va_K.moved hW.alike hK9, hD9⟩, hS.F ht⟩) hS.2.2 dX7_canGrow_26

theorem lf_isCase_1 (p1 : Int32) (e0 : ¬ p1 < 0) (e1 : ¬ 0 ≤ p1) : False := by
  (try simp only [Int32.lt_iff_toInt_lt, Int32.le_iff_toInt_le, ← Int32.toInt_inj, ln_0, ln_1, ln_2, ln_3, ln_4, ln_6, ln_8, ln_10, ln_50, ln_100, ln_300, ln_1000, ln_m1000, ln_m32768, ln_m1, ln_m2, ln_m40000, ln_20] at *)
  all_goals omega
set_option maxHeartbeats 4000000 in
set_option maxRecDepth 100000 in
theorem c_isCase (l : Launch) (dC : Nat → ClassId) (dI : Nat → Nat → Nat) (sz : Nat) (h0 : Nat) (p1 : Int32) (h0_cases : Nat) (a0_rows : Nat) (a0_grower : Nat) (a0_finder : Nat) (a0_pruner : Nat) (a0_rules : Nat) (a0_trees : Nat) (a0_told : Nat) (a0_turnedMarks : Nat) (a0_ballots : Nat) (a0_cases_kinds : Nat) (a0_cases_classes : Nat) (a0_cases_marks : Nat) (a0_cases_order : Nat)   : Met l yX7_isCase wsX7_isCase ({ frames := 1, cells := 0, slots := 0, locals := 60 }) (va_Pc [.ref h0, .int p1] (pw (dC, dI) [] [(h0, .inr (7, [.ref h0_cases, .ref a0_rows, .ref a0_grower, .ref a0_finder, .ref a0_pruner, .ref a0_rules, .ref a0_trees, .ref a0_told, .ref a0_turnedMarks, .ref a0_ballots, .int 0, .int (-1), .int (-1), .int 0])), (h0_cases, .inr (0, [.ref a0_cases_kinds, .ref a0_cases_classes, .ref a0_cases_marks, .ref a0_cases_order, .int 0]))] sz)) (va_Qi (fun (r : Int32) (u : vu) => (u = ([(h0, .inr (7, [.ref h0_cases, .ref a0_rows, .ref a0_grower, .ref a0_finder, .ref a0_pruner, .ref a0_rules, .ref a0_trees, .ref a0_told, .ref a0_turnedMarks, .ref a0_ballots, .int 0, .int (-1), .int (-1), .int 0])), (h0_cases, .inr (0, [.ref a0_cases_kinds, .ref a0_cases_classes, .ref a0_cases_marks, .ref a0_cases_order, .int 0]))], []) ∧ r = 0)) (fun u t => qw (dC, dI) u.2 (va_A [(h0, .inr (7, [.ref h0_cases, .ref a0_rows, .ref a0_grower, .ref a0_finder, .ref a0_pruner, .ref a0_rules, .ref a0_trees, .ref a0_told, .ref a0_turnedMarks, .ref a0_ballots, .int 0, .int (-1), .int (-1), .int 0])), (h0_cases, .inr (0, [.ref a0_cases_kinds, .ref a0_cases_classes, .ref a0_cases_marks, .ref a0_cases_order, .int 0]))] sz) u.1 t) (va_A [(h0, .inr (7, [.ref h0_cases, .ref a0_rows, .ref a0_grower, .ref a0_finder, .ref a0_pruner, .ref a0_rules, .ref a0_trees, .ref a0_told, .ref a0_turnedMarks, .ref a0_ballots, .int 0, .int (-1), .int (-1), .int 0])), (h0_cases, .inr (0, [.ref a0_cases_kinds, .ref a0_cases_classes, .ref a0_cases_marks, .ref a0_cases_order, .int 0]))] sz)) 0 0 (va_A [(h0, .inr (7, [.ref h0_cases, .ref a0_rows, .ref a0_grower, .ref a0_finder, .ref a0_pruner, .ref a0_rules, .ref a0_trees, .ref a0_told, .ref a0_turnedMarks, .ref a0_ballots, .int 0, .int (-1), .int (-1), .int 0])), (h0_cases, .inr (0, [.ref a0_cases_kinds, .ref a0_cases_classes, .ref a0_cases_marks, .ref a0_cases_order, .int 0]))] sz) := by
  refine Met.ofW (cc := cX7_isCase) (maxL := 2) (ret := (some .boolean)) (by decide) rfl ?_
  intro p e s m args below meth c s₁ B hml hv
  obtain ⟨rfl, hsz, hP, hK, hD0, hN⟩ := hv
  have hx := B.exec
  have hb := B.bytes
  have hr := B.returns
  have hts := atoms_spec (ws := wsX7_isCase) B.pre
  have hown : s.vm.findClass RX7 = some m.cls := findClass_of_methodNamed B.named
  have hlocks := B.notSynchronized
  have hi7 : ∀ w ∈ u_ws RX7 TX7 14, w ∈ wsX7_isCase := fun _ h => List.mem_cons_of_mem _ (List.mem_append_left _ (List.mem_append_right _ h))
  have hi0 : ∀ w ∈ u_ws RX0 TX0 5, w ∈ wsX7_isCase := fun _ h => List.mem_cons_of_mem _ (List.mem_append_right _ h)
  subst hsz
  have hD := hD0.self (sz := s.heap.size)
  generalize hAe : va_A [(h0, .inr (7, [.ref h0_cases, .ref a0_rows, .ref a0_grower, .ref a0_finder, .ref a0_pruner, .ref a0_rules, .ref a0_trees, .ref a0_told, .ref a0_turnedMarks, .ref a0_ballots, .int 0, .int (-1), .int (-1), .int 0])), (h0_cases, .inr (0, [.ref a0_cases_kinds, .ref a0_cases_classes, .ref a0_cases_marks, .ref a0_cases_order, .int 0]))] s.heap.size = A at hD ⊢
  have hA : ∀ q : Nat, s.heap.size ≤ q → A q := fun q h => by rw [← hAe]; exact Or.inr h
  have hS : va_S A s.heap s.heap [] := va_S.rf
  have hl := lv_entry ([.ref h0, .int p1]) (n := 2) (Nat.le_of_ble_eq_true rfl)
  rw [lg_entry_eq]
  generalize (lg_sl ([.ref h0, .int p1]) ++ List.replicate (2 - (lg_sl ([.ref h0, .int p1])).length) Slot.unset).toArray = ls at hl ⊢
  have hl : lv_has ls 2 [(0, .ref h0), (1, .int p1)] := hl
  have hP : va_P (dC, dI) vwCl [(h0, .inr (7, [.ref h0_cases, .ref a0_rows, .ref a0_grower, .ref a0_finder, .ref a0_pruner, .ref a0_rules, .ref a0_trees, .ref a0_told, .ref a0_turnedMarks, .ref a0_ballots, .int 0, .int (-1), .int (-1), .int 0])), (h0_cases, .inr (0, [.ref a0_cases_kinds, .ref a0_cases_classes, .ref a0_cases_marks, .ref a0_cases_order, .int 0]))] s.heap := hP
  refine lv_iload_n hx hb dX7_isCase_0 rfl (lv_at hl 1 rfl) ?_
  refine lv_if_lt (tgt := 19) hx hb dX7_isCase_1 (by decide) (fun c_1 => ?_) (fun c_1 => ?_)
  · skip
    refine lv_iconst (v := 0) hx hb dX7_isCase_19 (by decide) ?_
    have hP9 := hP.sub (ws' := [(h0, .inr (7, [.ref h0_cases, .ref a0_rows, .ref a0_grower, .ref a0_finder, .ref a0_pruner, .ref a0_rules, .ref a0_trees, .ref a0_told, .ref a0_turnedMarks, .ref a0_ballots, .int 0, .int (-1), .int (-1), .int 0])), (h0_cases, .inr (0, [.ref a0_cases_kinds, .ref a0_cases_classes, .ref a0_cases_marks, .ref a0_cases_order, .int 0]))]) [0, 1] rfl
    have hD9 := hD.sub (ws' := [(h0, .inr (7, [.ref h0_cases, .ref a0_rows, .ref a0_grower, .ref a0_finder, .ref a0_pruner, .ref a0_rules, .ref a0_trees, .ref a0_told, .ref a0_turnedMarks, .ref a0_ballots, .int 0, .int (-1), .int (-1), .int 0])), (h0_cases, .inr (0, [.ref a0_cases_kinds, .ref a0_cases_classes, .ref a0_cases_marks, .ref a0_cases_order, .int 0]))]) [0, 1] (by decide) rfl
    have hK9 := hK.sub (tys' := []) [] rfl
    exact W.zret (v := 0) hx hb hr rfl (fun t ht hW => ⟨⟨0, ([(h0, .inr (7, [.ref h0_cases, .ref a0_rows, .ref a0_grower, .ref a0_finder, .ref a0_pruner, .ref a0_rules, .ref a0_trees, .ref a0_told, .ref a0_turnedMarks, .ref a0_ballots, .int 0, .int (-1), .int (-1), .int 0])), (h0_cases, .inr (0, [.ref a0_cases_kinds, .ref a0_cases_classes, .ref a0_cases_marks, .ref a0_cases_order, .int 0]))], []), rfl, ⟨rfl, rfl⟩, (by rw [ht]; exact hP9), va_K.moved hW.alike hK9, hD9⟩, hS.F ht⟩) hS.2.2 dX7_isCase_20
  · skip
    refine lv_iload_n hx hb dX7_isCase_4 rfl (lv_at hl 1 rfl) ?_
    refine lv_aload_n hx hb dX7_isCase_5 rfl (lv_at hl 0 rfl) ?_
    refine va_get (D := (dC, dI)) (ci := 7) (v := .ref h0_cases) (C := RX7) (T := TX7) (N := 14) hx hb hts hi7 hown hK hP 0 rfl rfl 0 (by decide) (hts (.fieldLink RX7 12 "AskTree" "cases" "LAskTree$Cases;") (by decide +kernel)) (fun _ h9 => h9) rfl dX7_isCase_6 ?_
    refine va_get (D := (dC, dI)) (ci := 0) (v := .int 0) (C := RX0) (T := TX0) (N := 5) hx hb hts hi0 hown hK hP 1 rfl rfl 4 (by decide) (hts (.fieldLink RX7 94 "AskTree$Cases" "size" "I") (by decide +kernel)) (fun _ h9 => h9) rfl dX7_isCase_9 ?_
    refine lv_icmp_ge (tgt := 19) hx hb dX7_isCase_12 (by decide) (fun c_2 => ?_) (fun c_2 => ?_)
    rotate_left
    · exact False.elim (lf_isCase_1 p1 c_1 c_2)
    refine lv_iconst (v := 0) hx hb dX7_isCase_19 (by decide) ?_
    have hP9 := hP.sub (ws' := [(h0, .inr (7, [.ref h0_cases, .ref a0_rows, .ref a0_grower, .ref a0_finder, .ref a0_pruner, .ref a0_rules, .ref a0_trees, .ref a0_told, .ref a0_turnedMarks, .ref a0_ballots, .int 0, .int (-1), .int (-1), .int 0])), (h0_cases, .inr (0, [.ref a0_cases_kinds, .ref a0_cases_classes, .ref a0_cases_marks, .ref a0_cases_order, .int 0]))]) [0, 1] rfl
    have hD9 := hD.sub (ws' := [(h0, .inr (7, [.ref h0_cases, .ref a0_rows, .ref a0_grower, .ref a0_finder, .ref a0_pruner, .ref a0_rules, .ref a0_trees, .ref a0_told, .ref a0_turnedMarks, .ref a0_ballots, .int 0, .int (-1), .int (-1), .int 0])), (h0_cases, .inr (0, [.ref a0_cases_kinds, .ref a0_cases_classes, .ref a0_cases_marks, .ref a0_cases_order, .int 0]))]) [0, 1] (by decide) rfl
    have hK9 := hK.sub (tys' := []) [] rfl
    exact W.zret (v := 0) hx hb hr rfl (fun t ht hW => ⟨⟨0, ([(h0, .inr (7, [.ref h0_cases, .ref a0_rows, .ref a0_grower, .ref a0_finder, .ref a0_pruner, .ref a0_rules, .ref a0_trees, .ref a0_told, .ref a0_turnedMarks, .ref a0_ballots, .int 0, .int (-1), .int (-1), .int 0])), (h0_cases, .inr (0, [.ref a0_cases_kinds, .ref a0_cases_classes, .ref a0_cases_marks, .ref a0_cases_order, .int 0]))], []), rfl, ⟨rfl, rfl⟩, (by rw [ht]; exact hP9), va_K.moved hW.alike hK9, hD9⟩, hS.F ht⟩) hS.2.2 dX7_isCase_20

theorem lf_treeAt_1 (p1 : Int32) (e0 : ¬ p1 < 0) (e1 : ¬ 0 ≤ p1) : False := by
  (try simp only [Int32.lt_iff_toInt_lt, Int32.le_iff_toInt_le, ← Int32.toInt_inj, ln_0, ln_1, ln_2, ln_3, ln_4, ln_6, ln_8, ln_10, ln_50, ln_100, ln_300, ln_1000, ln_m1000, ln_m32768, ln_m1, ln_m2, ln_m40000, ln_20] at *)
  all_goals omega
set_option maxHeartbeats 4000000 in
set_option maxRecDepth 100000 in
theorem c_treeAt (l : Launch) (dC : Nat → ClassId) (dI : Nat → Nat → Nat) (sz : Nat) (h0 : Nat) (p1 : Int32) (a0_cases : Nat) (a0_rows : Nat) (a0_grower : Nat) (a0_finder : Nat) (a0_pruner : Nat) (a0_rules : Nat) (a0_trees : Nat) (a0_told : Nat) (a0_turnedMarks : Nat) (a0_ballots : Nat)   : Met l yX7_treeAt wsX7_treeAt ({ frames := 1, cells := 0, slots := 0, locals := 60 }) (va_Pc [.ref h0, .int p1] (pw (dC, dI) [] [(h0, .inr (7, [.ref a0_cases, .ref a0_rows, .ref a0_grower, .ref a0_finder, .ref a0_pruner, .ref a0_rules, .ref a0_trees, .ref a0_told, .ref a0_turnedMarks, .ref a0_ballots, .int 0, .int (-1), .int (-1), .int 0]))] sz)) (va_Qq (fun (r : Option Nat) (u : vu) => (u = ([(h0, .inr (7, [.ref a0_cases, .ref a0_rows, .ref a0_grower, .ref a0_finder, .ref a0_pruner, .ref a0_rules, .ref a0_trees, .ref a0_told, .ref a0_turnedMarks, .ref a0_ballots, .int 0, .int (-1), .int (-1), .int 0]))], []) ∧ r = none)) (fun u t => qw (dC, dI) u.2 (va_A [(h0, .inr (7, [.ref a0_cases, .ref a0_rows, .ref a0_grower, .ref a0_finder, .ref a0_pruner, .ref a0_rules, .ref a0_trees, .ref a0_told, .ref a0_turnedMarks, .ref a0_ballots, .int 0, .int (-1), .int (-1), .int 0]))] sz) u.1 t) (va_A [(h0, .inr (7, [.ref a0_cases, .ref a0_rows, .ref a0_grower, .ref a0_finder, .ref a0_pruner, .ref a0_rules, .ref a0_trees, .ref a0_told, .ref a0_turnedMarks, .ref a0_ballots, .int 0, .int (-1), .int (-1), .int 0]))] sz)) 0 0 (va_A [(h0, .inr (7, [.ref a0_cases, .ref a0_rows, .ref a0_grower, .ref a0_finder, .ref a0_pruner, .ref a0_rules, .ref a0_trees, .ref a0_told, .ref a0_turnedMarks, .ref a0_ballots, .int 0, .int (-1), .int (-1), .int 0]))] sz) := by
  refine Met.ofW (cc := cX7_treeAt) (maxL := 2) (ret := (some (.object "AskTree$Tree"))) (by decide) rfl ?_
  intro p e s m args below meth c s₁ B hml hv
  obtain ⟨rfl, hsz, hP, hK, hD0, hN⟩ := hv
  have hx := B.exec
  have hb := B.bytes
  have hr := B.returns
  have hts := atoms_spec (ws := wsX7_treeAt) B.pre
  have hown : s.vm.findClass RX7 = some m.cls := findClass_of_methodNamed B.named
  have hlocks := B.notSynchronized
  have hi7 : ∀ w ∈ u_ws RX7 TX7 14, w ∈ wsX7_treeAt := fun _ h => List.mem_cons_of_mem _ (List.mem_append_right _ h)
  subst hsz
  have hD := hD0.self (sz := s.heap.size)
  generalize hAe : va_A [(h0, .inr (7, [.ref a0_cases, .ref a0_rows, .ref a0_grower, .ref a0_finder, .ref a0_pruner, .ref a0_rules, .ref a0_trees, .ref a0_told, .ref a0_turnedMarks, .ref a0_ballots, .int 0, .int (-1), .int (-1), .int 0]))] s.heap.size = A at hD ⊢
  have hA : ∀ q : Nat, s.heap.size ≤ q → A q := fun q h => by rw [← hAe]; exact Or.inr h
  have hS : va_S A s.heap s.heap [] := va_S.rf
  have hl := lv_entry ([.ref h0, .int p1]) (n := 2) (Nat.le_of_ble_eq_true rfl)
  rw [lg_entry_eq]
  generalize (lg_sl ([.ref h0, .int p1]) ++ List.replicate (2 - (lg_sl ([.ref h0, .int p1])).length) Slot.unset).toArray = ls at hl ⊢
  have hl : lv_has ls 2 [(0, .ref h0), (1, .int p1)] := hl
  have hP : va_P (dC, dI) vwCl [(h0, .inr (7, [.ref a0_cases, .ref a0_rows, .ref a0_grower, .ref a0_finder, .ref a0_pruner, .ref a0_rules, .ref a0_trees, .ref a0_told, .ref a0_turnedMarks, .ref a0_ballots, .int 0, .int (-1), .int (-1), .int 0]))] s.heap := hP
  refine lv_iload_n hx hb dX7_treeAt_0 rfl (lv_at hl 1 rfl) ?_
  refine lv_if_lt (tgt := 21) hx hb dX7_treeAt_1 (by decide) (fun c_1 => ?_) (fun c_1 => ?_)
  · skip
    refine lv_null hx hb dX7_treeAt_21 ?_
    have hP9 := hP.sub (ws' := [(h0, .inr (7, [.ref a0_cases, .ref a0_rows, .ref a0_grower, .ref a0_finder, .ref a0_pruner, .ref a0_rules, .ref a0_trees, .ref a0_told, .ref a0_turnedMarks, .ref a0_ballots, .int 0, .int (-1), .int (-1), .int 0]))]) [0] rfl
    have hD9 := hD.sub (ws' := [(h0, .inr (7, [.ref a0_cases, .ref a0_rows, .ref a0_grower, .ref a0_finder, .ref a0_pruner, .ref a0_rules, .ref a0_trees, .ref a0_told, .ref a0_turnedMarks, .ref a0_ballots, .int 0, .int (-1), .int (-1), .int 0]))]) [0] (by decide) rfl
    have hK9 := hK.sub (tys' := []) [] rfl
    exact W.aret hx hb hr (Or.inl ⟨_, rfl⟩) (Or.inl rfl) (fun t ht hW => ⟨⟨none, ([(h0, .inr (7, [.ref a0_cases, .ref a0_rows, .ref a0_grower, .ref a0_finder, .ref a0_pruner, .ref a0_rules, .ref a0_trees, .ref a0_told, .ref a0_turnedMarks, .ref a0_ballots, .int 0, .int (-1), .int (-1), .int 0]))], []), rfl, ⟨rfl, rfl⟩, (by rw [ht]; exact hP9), va_K.moved hW.alike hK9, hD9⟩, hS.F ht⟩) hS.2.2 dX7_treeAt_22
  · skip
    refine lv_iload_n hx hb dX7_treeAt_4 rfl (lv_at hl 1 rfl) ?_
    refine lv_aload_n hx hb dX7_treeAt_5 rfl (lv_at hl 0 rfl) ?_
    refine va_get (D := (dC, dI)) (ci := 7) (v := .int 0) (C := RX7) (T := TX7) (N := 14) hx hb hts hi7 hown hK hP 0 rfl rfl 10 (by decide) (hts (.fieldLink RX7 76 "AskTree" "treeCount" "I") (by decide +kernel)) (fun _ h9 => h9) rfl dX7_treeAt_6 ?_
    refine lv_icmp_ge (tgt := 21) hx hb dX7_treeAt_9 (by decide) (fun c_2 => ?_) (fun c_2 => ?_)
    rotate_left
    · exact False.elim (lf_treeAt_1 p1 c_1 c_2)
    refine lv_null hx hb dX7_treeAt_21 ?_
    have hP9 := hP.sub (ws' := [(h0, .inr (7, [.ref a0_cases, .ref a0_rows, .ref a0_grower, .ref a0_finder, .ref a0_pruner, .ref a0_rules, .ref a0_trees, .ref a0_told, .ref a0_turnedMarks, .ref a0_ballots, .int 0, .int (-1), .int (-1), .int 0]))]) [0] rfl
    have hD9 := hD.sub (ws' := [(h0, .inr (7, [.ref a0_cases, .ref a0_rows, .ref a0_grower, .ref a0_finder, .ref a0_pruner, .ref a0_rules, .ref a0_trees, .ref a0_told, .ref a0_turnedMarks, .ref a0_ballots, .int 0, .int (-1), .int (-1), .int 0]))]) [0] (by decide) rfl
    have hK9 := hK.sub (tys' := []) [] rfl
    exact W.aret hx hb hr (Or.inl ⟨_, rfl⟩) (Or.inl rfl) (fun t ht hW => ⟨⟨none, ([(h0, .inr (7, [.ref a0_cases, .ref a0_rows, .ref a0_grower, .ref a0_finder, .ref a0_pruner, .ref a0_rules, .ref a0_trees, .ref a0_told, .ref a0_turnedMarks, .ref a0_ballots, .int 0, .int (-1), .int (-1), .int 0]))], []), rfl, ⟨rfl, rfl⟩, (by rw [ht]; exact hP9), va_K.moved hW.alike hK9, hD9⟩, hS.F ht⟩) hS.2.2 dX7_treeAt_22

set_option maxHeartbeats 4000000 in
set_option maxRecDepth 100000 in
theorem c_clear (l : Launch) (dC : Nat → ClassId) (dI : Nat → Nat → Nat) (sz : Nat) (h0 : Nat) (k0 : ClassId) (f0 : Nat → Int32)   : Met l yX7_clear wsX7_clear ({ frames := 1, cells := 0, slots := 0, locals := 60 }) (va_Pc [.ref h0] (pw (dC, dI) [(k0, .int)] [(h0, .inl (k0, 4, .inl f0))] sz)) (va_Qv (fun (u : vu) => (∃ (f_17 : Nat → Int32), u = ([(h0, .inl (k0, 4, .inl f_17))], []) ∧ f_17 0 = 0 ∧ f_17 1 = 0 ∧ f_17 2 = 0 ∧ f_17 3 = 0)) (fun u t => qw (dC, dI) u.2 (va_A [(h0, .inl (k0, 4, .inl f0))] sz) u.1 t) (va_A [(h0, .inl (k0, 4, .inl f0))] sz)) 0 0 (va_A [(h0, .inl (k0, 4, .inl f0))] sz) := by
  refine Met.ofW (cc := cX7_clear) (maxL := 2) (ret := none) (by decide) rfl ?_
  intro p e s m args below meth c s₁ B hml hv
  obtain ⟨rfl, hsz, hP, hK, hD0, hN⟩ := hv
  have hx := B.exec
  have hb := B.bytes
  have hr := B.returns
  have hts := atoms_spec (ws := wsX7_clear) B.pre
  have hown : s.vm.findClass RX7 = some m.cls := findClass_of_methodNamed B.named
  have hlocks := B.notSynchronized
  subst hsz
  have hD := hD0.self (sz := s.heap.size)
  generalize hAe : va_A [(h0, .inl (k0, 4, .inl f0))] s.heap.size = A at hD ⊢
  have hA : ∀ q : Nat, s.heap.size ≤ q → A q := fun q h => by rw [← hAe]; exact Or.inr h
  have hS : va_S A s.heap s.heap [] := va_S.rf
  have hl := lv_entry ([.ref h0]) (n := 2) (Nat.le_of_ble_eq_true rfl)
  rw [lg_entry_eq]
  generalize (lg_sl ([.ref h0]) ++ List.replicate (2 - (lg_sl ([.ref h0])).length) Slot.unset).toArray = ls at hl ⊢
  have hl : lv_has ls 2 [(0, .ref h0)] := hl
  have hP : va_P (dC, dI) vwCl [(h0, .inl (k0, 4, .inl f0))] s.heap := hP
  refine lv_iconst (v := 0) hx hb dX7_clear_0 (by decide) ?_
  refine lv_istore_n (lv' := [(1, .int 0), (0, .ref h0)]) hx hb dX7_clear_1 rfl hl (by decide) rfl (fun ls hl => ?_)
  refine lv_iload_n hx hb dX7_clear_2 rfl (lv_at hl 0 rfl) ?_
  refine lv_iconst (v := 4) hx hb dX7_clear_3 (by decide) ?_
  refine lv_icmp_ge (tgt := 17) hx hb dX7_clear_4 (by decide) (fun c_1 => ?_) (fun c_1 => ?_)
  · exact absurd c_1 (by decide)
  refine lv_aload_n hx hb dX7_clear_7 rfl (lv_at hl 1 rfl) ?_
  refine lv_iload_n hx hb dX7_clear_8 rfl (lv_at hl 0 rfl) ?_
  refine lv_iconst (v := 0) hx hb dX7_clear_9 (by decide) ?_
  refine va_iast hx hb hK hP hD hS 0 0 rfl rfl (vi _ _ (by decide)) dX7_clear_10 (fun H locs hP hD hS => ?_)
  have hP : va_P (dC, dI) vwCl [(h0, .inl (k0, 4, .inl (upd f0 (Int32.toNatClampNeg 0) 0)))] H := hP
  have hD : va_D A [(h0, .inl (k0, 4, .inl (upd f0 (Int32.toNatClampNeg 0) 0)))] := hD
  generalize hf_3 : upd f0 (Int32.toNatClampNeg 0) 0 = f_2 at hP hD
  have hk_4 : f_2 0 = 0 := by rw [← hf_3]; exact up_s (by decide)
  clear hf_3
  refine lv_iinc (v := 1) (lv' := [(1, .int 1), (0, .ref h0)]) hx hb dX7_clear_11 hl (k := 0) rfl (by decide) (by decide) rfl (fun ls hl => ?_)
  refine lv_goto (tgt := 2) hx hb dX7_clear_14 (by decide) ?_
  refine lv_iload_n hx hb dX7_clear_2 rfl (lv_at hl 0 rfl) ?_
  refine lv_iconst (v := 4) hx hb dX7_clear_3 (by decide) ?_
  refine lv_icmp_ge (tgt := 17) hx hb dX7_clear_4 (by decide) (fun c_5 => ?_) (fun c_5 => ?_)
  · exact absurd c_5 (by decide)
  refine lv_aload_n hx hb dX7_clear_7 rfl (lv_at hl 1 rfl) ?_
  refine lv_iload_n hx hb dX7_clear_8 rfl (lv_at hl 0 rfl) ?_
  refine lv_iconst (v := 0) hx hb dX7_clear_9 (by decide) ?_
  refine va_iast hx hb hK hP hD hS 0 0 rfl rfl (vi _ _ (by decide)) dX7_clear_10 (fun H locs hP hD hS => ?_)
  have hP : va_P (dC, dI) vwCl [(h0, .inl (k0, 4, .inl (upd f_2 (Int32.toNatClampNeg 1) 0)))] H := hP
  have hD : va_D A [(h0, .inl (k0, 4, .inl (upd f_2 (Int32.toNatClampNeg 1) 0)))] := hD
  generalize hf_7 : upd f_2 (Int32.toNatClampNeg 1) 0 = f_6 at hP hD
  have hk_8 : f_6 1 = 0 := by rw [← hf_7]; exact up_s (by decide)
  have hk_9 : f_6 0 = 0 := by rw [← hf_7]; exact up_n (k := 1) (by decide) (by decide) hk_4
  clear hf_7
  refine lv_iinc (v := 2) (lv' := [(1, .int 2), (0, .ref h0)]) hx hb dX7_clear_11 hl (k := 0) rfl (by decide) (by decide) rfl (fun ls hl => ?_)
  refine lv_goto (tgt := 2) hx hb dX7_clear_14 (by decide) ?_
  refine lv_iload_n hx hb dX7_clear_2 rfl (lv_at hl 0 rfl) ?_
  refine lv_iconst (v := 4) hx hb dX7_clear_3 (by decide) ?_
  refine lv_icmp_ge (tgt := 17) hx hb dX7_clear_4 (by decide) (fun c_10 => ?_) (fun c_10 => ?_)
  · exact absurd c_10 (by decide)
  refine lv_aload_n hx hb dX7_clear_7 rfl (lv_at hl 1 rfl) ?_
  refine lv_iload_n hx hb dX7_clear_8 rfl (lv_at hl 0 rfl) ?_
  refine lv_iconst (v := 0) hx hb dX7_clear_9 (by decide) ?_
  refine va_iast hx hb hK hP hD hS 0 0 rfl rfl (vi _ _ (by decide)) dX7_clear_10 (fun H locs hP hD hS => ?_)
  have hP : va_P (dC, dI) vwCl [(h0, .inl (k0, 4, .inl (upd f_6 (Int32.toNatClampNeg 2) 0)))] H := hP
  have hD : va_D A [(h0, .inl (k0, 4, .inl (upd f_6 (Int32.toNatClampNeg 2) 0)))] := hD
  generalize hf_12 : upd f_6 (Int32.toNatClampNeg 2) 0 = f_11 at hP hD
  have hk_13 : f_11 2 = 0 := by rw [← hf_12]; exact up_s (by decide)
  have hk_14 : f_11 1 = 0 := by rw [← hf_12]; exact up_n (k := 2) (by decide) (by decide) hk_8
  have hk_15 : f_11 0 = 0 := by rw [← hf_12]; exact up_n (k := 2) (by decide) (by decide) hk_9
  clear hf_12
  refine lv_iinc (v := 3) (lv' := [(1, .int 3), (0, .ref h0)]) hx hb dX7_clear_11 hl (k := 0) rfl (by decide) (by decide) rfl (fun ls hl => ?_)
  refine lv_goto (tgt := 2) hx hb dX7_clear_14 (by decide) ?_
  refine lv_iload_n hx hb dX7_clear_2 rfl (lv_at hl 0 rfl) ?_
  refine lv_iconst (v := 4) hx hb dX7_clear_3 (by decide) ?_
  refine lv_icmp_ge (tgt := 17) hx hb dX7_clear_4 (by decide) (fun c_16 => ?_) (fun c_16 => ?_)
  · exact absurd c_16 (by decide)
  refine lv_aload_n hx hb dX7_clear_7 rfl (lv_at hl 1 rfl) ?_
  refine lv_iload_n hx hb dX7_clear_8 rfl (lv_at hl 0 rfl) ?_
  refine lv_iconst (v := 0) hx hb dX7_clear_9 (by decide) ?_
  refine va_iast hx hb hK hP hD hS 0 0 rfl rfl (vi _ _ (by decide)) dX7_clear_10 (fun H locs hP hD hS => ?_)
  have hP : va_P (dC, dI) vwCl [(h0, .inl (k0, 4, .inl (upd f_11 (Int32.toNatClampNeg 3) 0)))] H := hP
  have hD : va_D A [(h0, .inl (k0, 4, .inl (upd f_11 (Int32.toNatClampNeg 3) 0)))] := hD
  generalize hf_18 : upd f_11 (Int32.toNatClampNeg 3) 0 = f_17 at hP hD
  have hk_19 : f_17 3 = 0 := by rw [← hf_18]; exact up_s (by decide)
  have hk_20 : f_17 2 = 0 := by rw [← hf_18]; exact up_n (k := 3) (by decide) (by decide) hk_13
  have hk_21 : f_17 1 = 0 := by rw [← hf_18]; exact up_n (k := 3) (by decide) (by decide) hk_14
  have hk_22 : f_17 0 = 0 := by rw [← hf_18]; exact up_n (k := 3) (by decide) (by decide) hk_15
  clear hf_18
  refine lv_iinc (v := 4) (lv' := [(1, .int 4), (0, .ref h0)]) hx hb dX7_clear_11 hl (k := 0) rfl (by decide) (by decide) rfl (fun ls hl => ?_)
  refine lv_goto (tgt := 2) hx hb dX7_clear_14 (by decide) ?_
  refine lv_iload_n hx hb dX7_clear_2 rfl (lv_at hl 0 rfl) ?_
  refine lv_iconst (v := 4) hx hb dX7_clear_3 (by decide) ?_
  refine lv_icmp_ge (tgt := 17) hx hb dX7_clear_4 (by decide) (fun c_23 => ?_) (fun c_23 => ?_)
  rotate_left
  · exact absurd c_23 (by decide)
  have hP9 := hP.sub (ws' := [(h0, .inl (k0, 4, .inl f_17))]) [0] rfl
  have hD9 := hD.sub (ws' := [(h0, .inl (k0, 4, .inl f_17))]) [0] (by decide) rfl
  have hK9 := hK.sub (tys' := []) [] rfl
  exact W.vret hx hb hr (fun t ht hW => ⟨⟨([(h0, .inl (k0, 4, .inl f_17))], []), rfl, ⟨f_17, rfl, hk_22, hk_21, hk_20, hk_19⟩, (by rw [ht]; exact hP9), va_K.moved hW.alike hK9, hD9⟩, hS.F ht⟩) hS.2.2 dX7_clear_17

set_option maxHeartbeats 4000000 in
set_option maxRecDepth 100000 in
theorem c_firstGreatest (l : Launch) (dC : Nat → ClassId) (dI : Nat → Nat → Nat) (sz : Nat) (h0 : Nat) (k0 : ClassId) (f0 : Nat → Int32) (hy0_0 : f0 0 = 0) (hy0_1 : f0 1 = 0) (hy0_2 : f0 2 = 0) (hy0_3 : f0 3 = 0)  : Met l yX7_firstGreatest wsX7_firstGreatest ({ frames := 1, cells := 0, slots := 0, locals := 60 }) (va_Pc [.ref h0, .int 0] (pw (dC, dI) [(k0, .int)] [(h0, .inl (k0, 4, .inl f0))] sz)) (va_Qi (fun (r : Int32) (u : vu) => (u = ([(h0, .inl (k0, 4, .inl f0))], []) ∧ r = 0)) (fun u t => qw (dC, dI) u.2 (va_A [(h0, .inl (k0, 4, .inl f0))] sz) u.1 t) (va_A [(h0, .inl (k0, 4, .inl f0))] sz)) 0 0 (va_A [(h0, .inl (k0, 4, .inl f0))] sz) := by
  refine Met.ofW (cc := cX7_firstGreatest) (maxL := 4) (ret := (some .int)) (by decide) rfl ?_
  intro p e s m args below meth c s₁ B hml hv
  obtain ⟨rfl, hsz, hP, hK, hD0, hN⟩ := hv
  have hx := B.exec
  have hb := B.bytes
  have hr := B.returns
  have hts := atoms_spec (ws := wsX7_firstGreatest) B.pre
  have hown : s.vm.findClass RX7 = some m.cls := findClass_of_methodNamed B.named
  have hlocks := B.notSynchronized
  subst hsz
  have hD := hD0.self (sz := s.heap.size)
  generalize hAe : va_A [(h0, .inl (k0, 4, .inl f0))] s.heap.size = A at hD ⊢
  have hA : ∀ q : Nat, s.heap.size ≤ q → A q := fun q h => by rw [← hAe]; exact Or.inr h
  have hS : va_S A s.heap s.heap [] := va_S.rf
  have hl := lv_entry ([.ref h0, .int 0]) (n := 4) (Nat.le_of_ble_eq_true rfl)
  rw [lg_entry_eq]
  generalize (lg_sl ([.ref h0, .int 0]) ++ List.replicate (4 - (lg_sl ([.ref h0, .int 0])).length) Slot.unset).toArray = ls at hl ⊢
  have hl : lv_has ls 4 [(0, .ref h0), (1, .int 0)] := hl
  have hP : va_P (dC, dI) vwCl [(h0, .inl (k0, 4, .inl f0))] s.heap := hP
  refine lv_iconst (v := 0) hx hb dX7_firstGreatest_0 (by decide) ?_
  refine lv_istore_n (lv' := [(2, .int 0), (0, .ref h0), (1, .int 0)]) hx hb dX7_firstGreatest_1 rfl hl (by decide) rfl (fun ls hl => ?_)
  refine lv_iconst (v := 1) hx hb dX7_firstGreatest_2 (by decide) ?_
  refine lv_istore_n (lv' := [(3, .int 1), (2, .int 0), (0, .ref h0), (1, .int 0)]) hx hb dX7_firstGreatest_3 rfl hl (by decide) rfl (fun ls hl => ?_)
  refine lv_iload_n hx hb dX7_firstGreatest_4 rfl (lv_at hl 0 rfl) ?_
  refine lv_iconst (v := 4) hx hb dX7_firstGreatest_5 (by decide) ?_
  refine lv_icmp_ge (tgt := 30) hx hb dX7_firstGreatest_6 (by decide) (fun c_1 => ?_) (fun c_1 => ?_)
  · exact absurd c_1 (by decide)
  refine lv_aload_n hx hb dX7_firstGreatest_9 rfl (lv_at hl 2 rfl) ?_
  refine lv_iload_n hx hb dX7_firstGreatest_10 rfl (lv_at hl 3 rfl) ?_
  refine lv_iload_n hx hb dX7_firstGreatest_11 rfl (lv_at hl 0 rfl) ?_
  refine lv_iadd hx hb dX7_firstGreatest_12 ?_
  refine tvv (v := .int 1) (congrArg Value.int (by decide)) ?_
  refine va_iald hx hb hK hP 0 0 rfl rfl (vi _ _ (by decide)) dX7_firstGreatest_13 ?_
  refine tvv (v := .int 0) (ci f0 (k := 1) (by decide) hy0_1) ?_
  refine lv_aload_n hx hb dX7_firstGreatest_14 rfl (lv_at hl 2 rfl) ?_
  refine lv_iload_n hx hb dX7_firstGreatest_15 rfl (lv_at hl 3 rfl) ?_
  refine lv_iload_n hx hb dX7_firstGreatest_16 rfl (lv_at hl 1 rfl) ?_
  refine lv_iadd hx hb dX7_firstGreatest_17 ?_
  refine tvv (v := .int 0) (congrArg Value.int (by decide)) ?_
  refine va_iald hx hb hK hP 0 0 rfl rfl (vi _ _ (by decide)) dX7_firstGreatest_18 ?_
  refine tvv (v := .int 0) (ci f0 (k := 0) (by decide) hy0_0) ?_
  refine lv_icmp_le (tgt := 24) hx hb dX7_firstGreatest_19 (by decide) (fun c_2 => ?_) (fun c_2 => ?_)
  rotate_left
  · exact absurd c_2 (by decide)
  refine lv_iinc (v := 2) (lv' := [(3, .int 2), (2, .int 0), (0, .ref h0), (1, .int 0)]) hx hb dX7_firstGreatest_24 hl (k := 0) rfl (by decide) (by decide) rfl (fun ls hl => ?_)
  refine lv_goto (tgt := 4) hx hb dX7_firstGreatest_27 (by decide) ?_
  refine lv_iload_n hx hb dX7_firstGreatest_4 rfl (lv_at hl 0 rfl) ?_
  refine lv_iconst (v := 4) hx hb dX7_firstGreatest_5 (by decide) ?_
  refine lv_icmp_ge (tgt := 30) hx hb dX7_firstGreatest_6 (by decide) (fun c_3 => ?_) (fun c_3 => ?_)
  · exact absurd c_3 (by decide)
  refine lv_aload_n hx hb dX7_firstGreatest_9 rfl (lv_at hl 2 rfl) ?_
  refine lv_iload_n hx hb dX7_firstGreatest_10 rfl (lv_at hl 3 rfl) ?_
  refine lv_iload_n hx hb dX7_firstGreatest_11 rfl (lv_at hl 0 rfl) ?_
  refine lv_iadd hx hb dX7_firstGreatest_12 ?_
  refine tvv (v := .int 2) (congrArg Value.int (by decide)) ?_
  refine va_iald hx hb hK hP 0 0 rfl rfl (vi _ _ (by decide)) dX7_firstGreatest_13 ?_
  refine tvv (v := .int 0) (ci f0 (k := 2) (by decide) hy0_2) ?_
  refine lv_aload_n hx hb dX7_firstGreatest_14 rfl (lv_at hl 2 rfl) ?_
  refine lv_iload_n hx hb dX7_firstGreatest_15 rfl (lv_at hl 3 rfl) ?_
  refine lv_iload_n hx hb dX7_firstGreatest_16 rfl (lv_at hl 1 rfl) ?_
  refine lv_iadd hx hb dX7_firstGreatest_17 ?_
  refine tvv (v := .int 0) (congrArg Value.int (by decide)) ?_
  refine va_iald hx hb hK hP 0 0 rfl rfl (vi _ _ (by decide)) dX7_firstGreatest_18 ?_
  refine tvv (v := .int 0) (ci f0 (k := 0) (by decide) hy0_0) ?_
  refine lv_icmp_le (tgt := 24) hx hb dX7_firstGreatest_19 (by decide) (fun c_4 => ?_) (fun c_4 => ?_)
  rotate_left
  · exact absurd c_4 (by decide)
  refine lv_iinc (v := 3) (lv' := [(3, .int 3), (2, .int 0), (0, .ref h0), (1, .int 0)]) hx hb dX7_firstGreatest_24 hl (k := 0) rfl (by decide) (by decide) rfl (fun ls hl => ?_)
  refine lv_goto (tgt := 4) hx hb dX7_firstGreatest_27 (by decide) ?_
  refine lv_iload_n hx hb dX7_firstGreatest_4 rfl (lv_at hl 0 rfl) ?_
  refine lv_iconst (v := 4) hx hb dX7_firstGreatest_5 (by decide) ?_
  refine lv_icmp_ge (tgt := 30) hx hb dX7_firstGreatest_6 (by decide) (fun c_5 => ?_) (fun c_5 => ?_)
  · exact absurd c_5 (by decide)
  refine lv_aload_n hx hb dX7_firstGreatest_9 rfl (lv_at hl 2 rfl) ?_
  refine lv_iload_n hx hb dX7_firstGreatest_10 rfl (lv_at hl 3 rfl) ?_
  refine lv_iload_n hx hb dX7_firstGreatest_11 rfl (lv_at hl 0 rfl) ?_
  refine lv_iadd hx hb dX7_firstGreatest_12 ?_
  refine tvv (v := .int 3) (congrArg Value.int (by decide)) ?_
  refine va_iald hx hb hK hP 0 0 rfl rfl (vi _ _ (by decide)) dX7_firstGreatest_13 ?_
  refine tvv (v := .int 0) (ci f0 (k := 3) (by decide) hy0_3) ?_
  refine lv_aload_n hx hb dX7_firstGreatest_14 rfl (lv_at hl 2 rfl) ?_
  refine lv_iload_n hx hb dX7_firstGreatest_15 rfl (lv_at hl 3 rfl) ?_
  refine lv_iload_n hx hb dX7_firstGreatest_16 rfl (lv_at hl 1 rfl) ?_
  refine lv_iadd hx hb dX7_firstGreatest_17 ?_
  refine tvv (v := .int 0) (congrArg Value.int (by decide)) ?_
  refine va_iald hx hb hK hP 0 0 rfl rfl (vi _ _ (by decide)) dX7_firstGreatest_18 ?_
  refine tvv (v := .int 0) (ci f0 (k := 0) (by decide) hy0_0) ?_
  refine lv_icmp_le (tgt := 24) hx hb dX7_firstGreatest_19 (by decide) (fun c_6 => ?_) (fun c_6 => ?_)
  rotate_left
  · exact absurd c_6 (by decide)
  refine lv_iinc (v := 4) (lv' := [(3, .int 4), (2, .int 0), (0, .ref h0), (1, .int 0)]) hx hb dX7_firstGreatest_24 hl (k := 0) rfl (by decide) (by decide) rfl (fun ls hl => ?_)
  refine lv_goto (tgt := 4) hx hb dX7_firstGreatest_27 (by decide) ?_
  refine lv_iload_n hx hb dX7_firstGreatest_4 rfl (lv_at hl 0 rfl) ?_
  refine lv_iconst (v := 4) hx hb dX7_firstGreatest_5 (by decide) ?_
  refine lv_icmp_ge (tgt := 30) hx hb dX7_firstGreatest_6 (by decide) (fun c_7 => ?_) (fun c_7 => ?_)
  rotate_left
  · exact absurd c_7 (by decide)
  refine lv_iload_n hx hb dX7_firstGreatest_30 rfl (lv_at hl 1 rfl) ?_
  have hP9 := hP.sub (ws' := [(h0, .inl (k0, 4, .inl f0))]) [0] rfl
  have hD9 := hD.sub (ws' := [(h0, .inl (k0, 4, .inl f0))]) [0] (by decide) rfl
  have hK9 := hK.sub (tys' := []) [] rfl
  exact W.iret (v := 0) hx hb hr (fun t ht hW => ⟨⟨0, ([(h0, .inl (k0, 4, .inl f0))], []), rfl, ⟨rfl, rfl⟩, (by rw [ht]; exact hP9), va_K.moved hW.alike hK9, hD9⟩, hS.F ht⟩) hS.2.2 dX7_firstGreatest_31
end
section
set_option maxHeartbeats 4000000 in
set_option maxRecDepth 100000 in
theorem c_cases_init (l : Launch) (dC : Nat → ClassId) (dI : Nat → Nat → Nat) (sz : Nat) (h0 : Nat)   : Met l yX0_init wsX0_init ({ frames := 1, cells := 4, slots := 5108, locals := 60 }) (va_Pc [.ref h0] (pw (dC, dI) [] [(h0, .inr (0, [.null, .null, .null, .null, .int 0]))] sz)) (va_Qv (fun (u : vu) => (∃ (q_1 : Nat) (q_3 : Nat) (q_5 : Nat) (q_7 : Nat) (c_2 : ClassId) (c_4 : ClassId) (c_6 : ClassId) (c_8 : ClassId), u = ([(h0, .inr (0, [.ref q_1, .ref q_3, .ref q_5, .ref q_7, .int 0])), (q_1, .inl (c_2, 8, .inl (fun _ => 0))), (q_3, .inl (c_4, 300, .inl (fun _ => 0))), (q_5, .inl (c_6, 2400, .inl (fun _ => 0))), (q_7, .inl (c_8, 2400, .inl (fun _ => 0)))], [(c_2, .int), (c_4, .int), (c_6, .int), (c_8, .int)]))) (fun u t => qw (dC, dI) u.2 (va_A [(h0, .inr (0, [.null, .null, .null, .null, .int 0]))] sz) u.1 t) (va_A [(h0, .inr (0, [.null, .null, .null, .null, .int 0]))] sz)) 4 5108 (va_A [(h0, .inr (0, [.null, .null, .null, .null, .int 0]))] sz) := by
  refine Met.ofW (cc := cX0_init) (maxL := 1) (ret := none) (by decide) rfl ?_
  intro p e s m args below meth c s₁ B hml hv
  obtain ⟨rfl, hsz, hP, hK, hD0, hN⟩ := hv
  have hx := B.exec
  have hb := B.bytes
  have hr := B.returns
  have hts := atoms_spec (ws := wsX0_init) B.pre
  have hown : s.vm.findClass RX0 = some m.cls := findClass_of_methodNamed B.named
  have hlocks := B.notSynchronized
  have hin : meth.name = "<init>" := (name_of_methodNamed B.named B.method).1
  have hi0 : ∀ w ∈ u_ws RX0 TX0 5, w ∈ wsX0_init := fun _ h => List.mem_cons_of_mem _ (List.mem_append_right _ h)
  subst hsz
  have hD := hD0.self (sz := s.heap.size)
  generalize hAe : va_A [(h0, .inr (0, [.null, .null, .null, .null, .int 0]))] s.heap.size = A at hD ⊢
  have hA : ∀ q : Nat, s.heap.size ≤ q → A q := fun q h => by rw [← hAe]; exact Or.inr h
  have hS : va_S A s.heap s.heap [] := va_S.rf
  have hl := lv_entry ([.ref h0]) (n := 1) (Nat.le_of_ble_eq_true rfl)
  rw [lg_entry_eq]
  generalize (lg_sl ([.ref h0]) ++ List.replicate (1 - (lg_sl ([.ref h0])).length) Slot.unset).toArray = ls at hl ⊢
  have hl : lv_has ls 1 [(0, .ref h0)] := hl
  have hP : va_P (dC, dI) vwCl [(h0, .inr (0, [.null, .null, .null, .null, .int 0]))] s.heap := hP
  refine lv_aload_n hx hb dX0_init_0 rfl (lv_at hl 0 rfl) ?_
  refine W.objInit hx hb hown (hts (.methodLink RX0 3 objectInit) (by decide +kernel)) (hts (.instanceMethod objectInit) (by decide +kernel)) (hts _ (List.mem_of_getElem? (i := 3) rfl)) rfl (by rw [hml]; exact hl.1) rfl dX0_init_1 (Nat.le_of_ble_eq_true rfl) (Nat.le_of_ble_eq_true rfl) ?_
  refine W.eq (g2 := F0 m 4 ls []) rfl ?_
  refine lv_aload_n hx hb dX0_init_4 rfl (lv_at hl 0 rfl) ?_
  refine lv_bipush (v := 8) hx hb dX0_init_5 (by decide) ?_
  refine va_newa (atype := .int) (ty := .int) (N' := 8) (a0 := (8, .inl (fun _ => 0))) hx hb (hts (.arrayClass .int) (by decide +kernel)) rfl hK hP hD hS hA (na_I 8) (by decide +kernel) (by decide +kernel) (by decide +kernel) (Nat.le_of_ble_eq_true rfl) (Nat.le_of_ble_eq_true rfl) dX0_init_7 (fun q_1 c_2 H hK hP hD hS => ?_)
  have hP : va_P (dC, dI) vwCl [(h0, .inr (0, [.null, .null, .null, .null, .int 0])), (q_1, .inl (c_2, 8, .inl (fun _ => 0)))] H := hP
  have hD : va_D A [(h0, .inr (0, [.null, .null, .null, .null, .int 0])), (q_1, .inl (c_2, 8, .inl (fun _ => 0)))] := hD
  have hK : va_K (dC, dI) vwCl [(c_2, .int)] s := hK
  refine W.widen (k := 1) (n := 8) (Nat.le_of_ble_eq_true rfl) (Nat.le_of_ble_eq_true rfl) ?_
  refine va_putF (D := (dC, dI)) (ci := 0) (v := .ref q_1) (ty := .array .int) (C := RX0) (T := TX0) (N := 5) hx hb hts hi0 tyX0 tyX0_ok nmX0 hown hK hP hD hS 0 rfl rfl 0 (by decide) (hts (.fieldLink RX0 9 "AskTree$Cases" "kinds" "[I") (by decide +kernel)) (fun _ h9 => h9) rfl hin rfl (by decide +kernel) rfl rfl (Nat.le_of_ble_eq_true rfl) dX0_init_9 (fun H locs hP hD hS => ?_)
  have hP : va_P (dC, dI) vwCl [(h0, .inr (0, [.ref q_1, .null, .null, .null, .int 0])), (q_1, .inl (c_2, 8, .inl (fun _ => 0)))] H := hP
  have hD : va_D A [(h0, .inr (0, [.ref q_1, .null, .null, .null, .int 0])), (q_1, .inl (c_2, 8, .inl (fun _ => 0)))] := hD
  refine lv_aload_n hx hb dX0_init_12 rfl (lv_at hl 0 rfl) ?_
  refine lv_sipush (v := 300) hx hb dX0_init_13 (by decide) ?_
  refine va_newa (atype := .int) (ty := .int) (N' := 300) (a0 := (300, .inl (fun _ => 0))) hx hb (hts (.arrayClass .int) (by decide +kernel)) rfl hK hP hD hS hA (na_I 300) (by decide +kernel) (by decide +kernel) (by decide +kernel) (Nat.le_of_ble_eq_true rfl) (Nat.le_of_ble_eq_true rfl) dX0_init_16 (fun q_3 c_4 H hK hP hD hS => ?_)
  have hP : va_P (dC, dI) vwCl [(h0, .inr (0, [.ref q_1, .null, .null, .null, .int 0])), (q_1, .inl (c_2, 8, .inl (fun _ => 0))), (q_3, .inl (c_4, 300, .inl (fun _ => 0)))] H := hP
  have hD : va_D A [(h0, .inr (0, [.ref q_1, .null, .null, .null, .int 0])), (q_1, .inl (c_2, 8, .inl (fun _ => 0))), (q_3, .inl (c_4, 300, .inl (fun _ => 0)))] := hD
  have hK : va_K (dC, dI) vwCl [(c_2, .int), (c_4, .int)] s := hK
  refine W.widen (k := 2) (n := 308) (Nat.le_of_ble_eq_true rfl) (Nat.le_of_ble_eq_true rfl) ?_
  refine va_putF (D := (dC, dI)) (ci := 0) (v := .ref q_3) (ty := .array .int) (C := RX0) (T := TX0) (N := 5) hx hb hts hi0 tyX0 tyX0_ok nmX0 hown hK hP hD hS 0 rfl rfl 1 (by decide) (hts (.fieldLink RX0 15 "AskTree$Cases" "classes" "[I") (by decide +kernel)) (fun _ h9 => h9) rfl hin rfl (by decide +kernel) rfl rfl (Nat.le_of_ble_eq_true rfl) dX0_init_18 (fun H locs hP hD hS => ?_)
  have hP : va_P (dC, dI) vwCl [(h0, .inr (0, [.ref q_1, .ref q_3, .null, .null, .int 0])), (q_1, .inl (c_2, 8, .inl (fun _ => 0))), (q_3, .inl (c_4, 300, .inl (fun _ => 0)))] H := hP
  have hD : va_D A [(h0, .inr (0, [.ref q_1, .ref q_3, .null, .null, .int 0])), (q_1, .inl (c_2, 8, .inl (fun _ => 0))), (q_3, .inl (c_4, 300, .inl (fun _ => 0)))] := hD
  refine lv_aload_n hx hb dX0_init_21 rfl (lv_at hl 0 rfl) ?_
  refine lv_sipush (v := 2400) hx hb dX0_init_22 (by decide) ?_
  refine va_newa (atype := .int) (ty := .int) (N' := 2400) (a0 := (2400, .inl (fun _ => 0))) hx hb (hts (.arrayClass .int) (by decide +kernel)) rfl hK hP hD hS hA (na_I 2400) (by decide +kernel) (by decide +kernel) (by decide +kernel) (Nat.le_of_ble_eq_true rfl) (Nat.le_of_ble_eq_true rfl) dX0_init_25 (fun q_5 c_6 H hK hP hD hS => ?_)
  have hP : va_P (dC, dI) vwCl [(h0, .inr (0, [.ref q_1, .ref q_3, .null, .null, .int 0])), (q_1, .inl (c_2, 8, .inl (fun _ => 0))), (q_3, .inl (c_4, 300, .inl (fun _ => 0))), (q_5, .inl (c_6, 2400, .inl (fun _ => 0)))] H := hP
  have hD : va_D A [(h0, .inr (0, [.ref q_1, .ref q_3, .null, .null, .int 0])), (q_1, .inl (c_2, 8, .inl (fun _ => 0))), (q_3, .inl (c_4, 300, .inl (fun _ => 0))), (q_5, .inl (c_6, 2400, .inl (fun _ => 0)))] := hD
  have hK : va_K (dC, dI) vwCl [(c_2, .int), (c_4, .int), (c_6, .int)] s := hK
  refine W.widen (k := 3) (n := 2708) (Nat.le_of_ble_eq_true rfl) (Nat.le_of_ble_eq_true rfl) ?_
  refine va_putF (D := (dC, dI)) (ci := 0) (v := .ref q_5) (ty := .array .int) (C := RX0) (T := TX0) (N := 5) hx hb hts hi0 tyX0 tyX0_ok nmX0 hown hK hP hD hS 0 rfl rfl 2 (by decide) (hts (.fieldLink RX0 18 "AskTree$Cases" "marks" "[I") (by decide +kernel)) (fun _ h9 => h9) rfl hin rfl (by decide +kernel) rfl rfl (Nat.le_of_ble_eq_true rfl) dX0_init_27 (fun H locs hP hD hS => ?_)
  have hP : va_P (dC, dI) vwCl [(h0, .inr (0, [.ref q_1, .ref q_3, .ref q_5, .null, .int 0])), (q_1, .inl (c_2, 8, .inl (fun _ => 0))), (q_3, .inl (c_4, 300, .inl (fun _ => 0))), (q_5, .inl (c_6, 2400, .inl (fun _ => 0)))] H := hP
  have hD : va_D A [(h0, .inr (0, [.ref q_1, .ref q_3, .ref q_5, .null, .int 0])), (q_1, .inl (c_2, 8, .inl (fun _ => 0))), (q_3, .inl (c_4, 300, .inl (fun _ => 0))), (q_5, .inl (c_6, 2400, .inl (fun _ => 0)))] := hD
  refine lv_aload_n hx hb dX0_init_30 rfl (lv_at hl 0 rfl) ?_
  refine lv_sipush (v := 2400) hx hb dX0_init_31 (by decide) ?_
  refine va_newa (atype := .int) (ty := .int) (N' := 2400) (a0 := (2400, .inl (fun _ => 0))) hx hb (hts (.arrayClass .int) (by decide +kernel)) rfl hK hP hD hS hA (na_I 2400) (by decide +kernel) (by decide +kernel) (by decide +kernel) (Nat.le_of_ble_eq_true rfl) (Nat.le_of_ble_eq_true rfl) dX0_init_34 (fun q_7 c_8 H hK hP hD hS => ?_)
  have hP : va_P (dC, dI) vwCl [(h0, .inr (0, [.ref q_1, .ref q_3, .ref q_5, .null, .int 0])), (q_1, .inl (c_2, 8, .inl (fun _ => 0))), (q_3, .inl (c_4, 300, .inl (fun _ => 0))), (q_5, .inl (c_6, 2400, .inl (fun _ => 0))), (q_7, .inl (c_8, 2400, .inl (fun _ => 0)))] H := hP
  have hD : va_D A [(h0, .inr (0, [.ref q_1, .ref q_3, .ref q_5, .null, .int 0])), (q_1, .inl (c_2, 8, .inl (fun _ => 0))), (q_3, .inl (c_4, 300, .inl (fun _ => 0))), (q_5, .inl (c_6, 2400, .inl (fun _ => 0))), (q_7, .inl (c_8, 2400, .inl (fun _ => 0)))] := hD
  have hK : va_K (dC, dI) vwCl [(c_2, .int), (c_4, .int), (c_6, .int), (c_8, .int)] s := hK
  refine W.widen (k := 4) (n := 5108) (Nat.le_of_ble_eq_true rfl) (Nat.le_of_ble_eq_true rfl) ?_
  refine va_putF (D := (dC, dI)) (ci := 0) (v := .ref q_7) (ty := .array .int) (C := RX0) (T := TX0) (N := 5) hx hb hts hi0 tyX0 tyX0_ok nmX0 hown hK hP hD hS 0 rfl rfl 3 (by decide) (hts (.fieldLink RX0 21 "AskTree$Cases" "order" "[I") (by decide +kernel)) (fun _ h9 => h9) rfl hin rfl (by decide +kernel) rfl rfl (Nat.le_of_ble_eq_true rfl) dX0_init_36 (fun H locs hP hD hS => ?_)
  have hP : va_P (dC, dI) vwCl [(h0, .inr (0, [.ref q_1, .ref q_3, .ref q_5, .ref q_7, .int 0])), (q_1, .inl (c_2, 8, .inl (fun _ => 0))), (q_3, .inl (c_4, 300, .inl (fun _ => 0))), (q_5, .inl (c_6, 2400, .inl (fun _ => 0))), (q_7, .inl (c_8, 2400, .inl (fun _ => 0)))] H := hP
  have hD : va_D A [(h0, .inr (0, [.ref q_1, .ref q_3, .ref q_5, .ref q_7, .int 0])), (q_1, .inl (c_2, 8, .inl (fun _ => 0))), (q_3, .inl (c_4, 300, .inl (fun _ => 0))), (q_5, .inl (c_6, 2400, .inl (fun _ => 0))), (q_7, .inl (c_8, 2400, .inl (fun _ => 0)))] := hD
  refine lv_aload_n hx hb dX0_init_39 rfl (lv_at hl 0 rfl) ?_
  refine lv_iconst (v := 0) hx hb dX0_init_40 (by decide) ?_
  refine va_put (D := (dC, dI)) (ci := 0) (v := .int 0) (ty := .int) (C := RX0) (T := TX0) (N := 5) hx hb hts hi0 tyX0 tyX0_ok nmX0 hown hK hP hD hS 0 rfl rfl 4 (by decide) (hts (.fieldLink RX0 24 "AskTree$Cases" "size" "I") (by decide +kernel)) (fun _ h9 => h9) rfl (by decide +kernel) rfl rfl (Nat.le_of_ble_eq_true rfl) dX0_init_41 (fun H locs hP hD hS => ?_)
  have hP : va_P (dC, dI) vwCl [(h0, .inr (0, [.ref q_1, .ref q_3, .ref q_5, .ref q_7, .int 0])), (q_1, .inl (c_2, 8, .inl (fun _ => 0))), (q_3, .inl (c_4, 300, .inl (fun _ => 0))), (q_5, .inl (c_6, 2400, .inl (fun _ => 0))), (q_7, .inl (c_8, 2400, .inl (fun _ => 0)))] H := hP
  have hD : va_D A [(h0, .inr (0, [.ref q_1, .ref q_3, .ref q_5, .ref q_7, .int 0])), (q_1, .inl (c_2, 8, .inl (fun _ => 0))), (q_3, .inl (c_4, 300, .inl (fun _ => 0))), (q_5, .inl (c_6, 2400, .inl (fun _ => 0))), (q_7, .inl (c_8, 2400, .inl (fun _ => 0)))] := hD
  have hP9 := hP.sub (ws' := [(h0, .inr (0, [.ref q_1, .ref q_3, .ref q_5, .ref q_7, .int 0])), (q_1, .inl (c_2, 8, .inl (fun _ => 0))), (q_3, .inl (c_4, 300, .inl (fun _ => 0))), (q_5, .inl (c_6, 2400, .inl (fun _ => 0))), (q_7, .inl (c_8, 2400, .inl (fun _ => 0)))]) [0, 1, 2, 3, 4] rfl
  have hD9 := hD.sub (ws' := [(h0, .inr (0, [.ref q_1, .ref q_3, .ref q_5, .ref q_7, .int 0])), (q_1, .inl (c_2, 8, .inl (fun _ => 0))), (q_3, .inl (c_4, 300, .inl (fun _ => 0))), (q_5, .inl (c_6, 2400, .inl (fun _ => 0))), (q_7, .inl (c_8, 2400, .inl (fun _ => 0)))]) [0, 1, 2, 3, 4] (by decide) rfl
  have hK9 := hK.sub (tys' := [(c_2, .int), (c_4, .int), (c_6, .int), (c_8, .int)]) [0, 1, 2, 3] rfl
  refine W.widen (k := 4) (n := 5108) (Nat.le_of_ble_eq_true rfl) (Nat.le_of_ble_eq_true rfl) ?_
  exact W.vret hx hb hr (fun t ht hW => ⟨⟨([(h0, .inr (0, [.ref q_1, .ref q_3, .ref q_5, .ref q_7, .int 0])), (q_1, .inl (c_2, 8, .inl (fun _ => 0))), (q_3, .inl (c_4, 300, .inl (fun _ => 0))), (q_5, .inl (c_6, 2400, .inl (fun _ => 0))), (q_7, .inl (c_8, 2400, .inl (fun _ => 0)))], [(c_2, .int), (c_4, .int), (c_6, .int), (c_8, .int)]), rfl, ⟨q_1, q_3, q_5, q_7, c_2, c_4, c_6, c_8, rfl⟩, (by rw [ht]; exact hP9), va_K.moved hW.alike hK9, hD9⟩, hS.F ht⟩) hS.2.2 dX0_init_44

set_option maxHeartbeats 4000000 in
set_option maxRecDepth 100000 in
theorem c_rows_init (l : Launch) (dC : Nat → ClassId) (dI : Nat → Nat → Nat) (sz : Nat) (h0 : Nat) (h1 : Nat)   : Met l yX4_init wsX4_init ({ frames := 1, cells := 3, slots := 3000, locals := 60 }) (va_Pc [.ref h0, .ref h1] (pw (dC, dI) [] [(h0, .inr (4, [.null, .null, .null, .null, .int 0]))] sz)) (va_Qv (fun (u : vu) => (∃ (q_1 : Nat) (q_3 : Nat) (q_5 : Nat) (c_2 : ClassId) (c_4 : ClassId) (c_6 : ClassId), u = ([(h0, .inr (4, [.ref q_1, .ref q_3, .ref q_5, .ref h1, .int 0])), (q_1, .inl (c_2, 2400, .inl (fun _ => 0))), (q_3, .inl (c_4, 300, .inl (fun _ => 0))), (q_5, .inl (c_6, 300, .inl (fun _ => 0)))], [(c_2, .int), (c_4, .int), (c_6, .int)]))) (fun u t => qw (dC, dI) u.2 (va_A [(h0, .inr (4, [.null, .null, .null, .null, .int 0]))] sz) u.1 t) (va_A [(h0, .inr (4, [.null, .null, .null, .null, .int 0]))] sz)) 3 3000 (va_A [(h0, .inr (4, [.null, .null, .null, .null, .int 0]))] sz) := by
  refine Met.ofW (cc := cX4_init) (maxL := 2) (ret := none) (by decide) rfl ?_
  intro p e s m args below meth c s₁ B hml hv
  obtain ⟨rfl, hsz, hP, hK, hD0, hN⟩ := hv
  have hx := B.exec
  have hb := B.bytes
  have hr := B.returns
  have hts := atoms_spec (ws := wsX4_init) B.pre
  have hown : s.vm.findClass RX4 = some m.cls := findClass_of_methodNamed B.named
  have hlocks := B.notSynchronized
  have hin : meth.name = "<init>" := (name_of_methodNamed B.named B.method).1
  have hi4 : ∀ w ∈ u_ws RX4 TX4 5, w ∈ wsX4_init := fun _ h => List.mem_cons_of_mem _ (List.mem_append_right _ h)
  subst hsz
  have hD := hD0.self (sz := s.heap.size)
  generalize hAe : va_A [(h0, .inr (4, [.null, .null, .null, .null, .int 0]))] s.heap.size = A at hD ⊢
  have hA : ∀ q : Nat, s.heap.size ≤ q → A q := fun q h => by rw [← hAe]; exact Or.inr h
  have hS : va_S A s.heap s.heap [] := va_S.rf
  have hl := lv_entry ([.ref h0, .ref h1]) (n := 2) (Nat.le_of_ble_eq_true rfl)
  rw [lg_entry_eq]
  generalize (lg_sl ([.ref h0, .ref h1]) ++ List.replicate (2 - (lg_sl ([.ref h0, .ref h1])).length) Slot.unset).toArray = ls at hl ⊢
  have hl : lv_has ls 2 [(0, .ref h0), (1, .ref h1)] := hl
  have hP : va_P (dC, dI) vwCl [(h0, .inr (4, [.null, .null, .null, .null, .int 0]))] s.heap := hP
  refine lv_aload_n hx hb dX4_init_0 rfl (lv_at hl 0 rfl) ?_
  refine W.objInit hx hb hown (hts (.methodLink RX4 3 objectInit) (by decide +kernel)) (hts (.instanceMethod objectInit) (by decide +kernel)) (hts _ (List.mem_of_getElem? (i := 3) rfl)) rfl (by rw [hml]; exact hl.1) rfl dX4_init_1 (Nat.le_of_ble_eq_true rfl) (Nat.le_of_ble_eq_true rfl) ?_
  refine W.eq (g2 := F0 m 4 ls []) rfl ?_
  refine lv_aload_n hx hb dX4_init_4 rfl (lv_at hl 0 rfl) ?_
  refine lv_sipush (v := 2400) hx hb dX4_init_5 (by decide) ?_
  refine va_newa (atype := .int) (ty := .int) (N' := 2400) (a0 := (2400, .inl (fun _ => 0))) hx hb (hts (.arrayClass .int) (by decide +kernel)) rfl hK hP hD hS hA (na_I 2400) (by decide +kernel) (by decide +kernel) (by decide +kernel) (Nat.le_of_ble_eq_true rfl) (Nat.le_of_ble_eq_true rfl) dX4_init_8 (fun q_1 c_2 H hK hP hD hS => ?_)
  have hP : va_P (dC, dI) vwCl [(h0, .inr (4, [.null, .null, .null, .null, .int 0])), (q_1, .inl (c_2, 2400, .inl (fun _ => 0)))] H := hP
  have hD : va_D A [(h0, .inr (4, [.null, .null, .null, .null, .int 0])), (q_1, .inl (c_2, 2400, .inl (fun _ => 0)))] := hD
  have hK : va_K (dC, dI) vwCl [(c_2, .int)] s := hK
  refine W.widen (k := 1) (n := 2400) (Nat.le_of_ble_eq_true rfl) (Nat.le_of_ble_eq_true rfl) ?_
  refine va_putF (D := (dC, dI)) (ci := 4) (v := .ref q_1) (ty := .array .int) (C := RX4) (T := TX4) (N := 5) hx hb hts hi4 tyX4 tyX4_ok nmX4 hown hK hP hD hS 0 rfl rfl 0 (by decide) (hts (.fieldLink RX4 9 "AskTree$Rows" "row" "[I") (by decide +kernel)) (fun _ h9 => h9) rfl hin rfl (by decide +kernel) rfl rfl (Nat.le_of_ble_eq_true rfl) dX4_init_10 (fun H locs hP hD hS => ?_)
  have hP : va_P (dC, dI) vwCl [(h0, .inr (4, [.ref q_1, .null, .null, .null, .int 0])), (q_1, .inl (c_2, 2400, .inl (fun _ => 0)))] H := hP
  have hD : va_D A [(h0, .inr (4, [.ref q_1, .null, .null, .null, .int 0])), (q_1, .inl (c_2, 2400, .inl (fun _ => 0)))] := hD
  refine lv_aload_n hx hb dX4_init_13 rfl (lv_at hl 0 rfl) ?_
  refine lv_sipush (v := 300) hx hb dX4_init_14 (by decide) ?_
  refine va_newa (atype := .int) (ty := .int) (N' := 300) (a0 := (300, .inl (fun _ => 0))) hx hb (hts (.arrayClass .int) (by decide +kernel)) rfl hK hP hD hS hA (na_I 300) (by decide +kernel) (by decide +kernel) (by decide +kernel) (Nat.le_of_ble_eq_true rfl) (Nat.le_of_ble_eq_true rfl) dX4_init_17 (fun q_3 c_4 H hK hP hD hS => ?_)
  have hP : va_P (dC, dI) vwCl [(h0, .inr (4, [.ref q_1, .null, .null, .null, .int 0])), (q_1, .inl (c_2, 2400, .inl (fun _ => 0))), (q_3, .inl (c_4, 300, .inl (fun _ => 0)))] H := hP
  have hD : va_D A [(h0, .inr (4, [.ref q_1, .null, .null, .null, .int 0])), (q_1, .inl (c_2, 2400, .inl (fun _ => 0))), (q_3, .inl (c_4, 300, .inl (fun _ => 0)))] := hD
  have hK : va_K (dC, dI) vwCl [(c_2, .int), (c_4, .int)] s := hK
  refine W.widen (k := 2) (n := 2700) (Nat.le_of_ble_eq_true rfl) (Nat.le_of_ble_eq_true rfl) ?_
  refine va_putF (D := (dC, dI)) (ci := 4) (v := .ref q_3) (ty := .array .int) (C := RX4) (T := TX4) (N := 5) hx hb hts hi4 tyX4 tyX4_ok nmX4 hown hK hP hD hS 0 rfl rfl 1 (by decide) (hts (.fieldLink RX4 15 "AskTree$Rows" "sides" "[I") (by decide +kernel)) (fun _ h9 => h9) rfl hin rfl (by decide +kernel) rfl rfl (Nat.le_of_ble_eq_true rfl) dX4_init_19 (fun H locs hP hD hS => ?_)
  have hP : va_P (dC, dI) vwCl [(h0, .inr (4, [.ref q_1, .ref q_3, .null, .null, .int 0])), (q_1, .inl (c_2, 2400, .inl (fun _ => 0))), (q_3, .inl (c_4, 300, .inl (fun _ => 0)))] H := hP
  have hD : va_D A [(h0, .inr (4, [.ref q_1, .ref q_3, .null, .null, .int 0])), (q_1, .inl (c_2, 2400, .inl (fun _ => 0))), (q_3, .inl (c_4, 300, .inl (fun _ => 0)))] := hD
  refine lv_aload_n hx hb dX4_init_22 rfl (lv_at hl 0 rfl) ?_
  refine lv_sipush (v := 300) hx hb dX4_init_23 (by decide) ?_
  refine va_newa (atype := .int) (ty := .int) (N' := 300) (a0 := (300, .inl (fun _ => 0))) hx hb (hts (.arrayClass .int) (by decide +kernel)) rfl hK hP hD hS hA (na_I 300) (by decide +kernel) (by decide +kernel) (by decide +kernel) (Nat.le_of_ble_eq_true rfl) (Nat.le_of_ble_eq_true rfl) dX4_init_26 (fun q_5 c_6 H hK hP hD hS => ?_)
  have hP : va_P (dC, dI) vwCl [(h0, .inr (4, [.ref q_1, .ref q_3, .null, .null, .int 0])), (q_1, .inl (c_2, 2400, .inl (fun _ => 0))), (q_3, .inl (c_4, 300, .inl (fun _ => 0))), (q_5, .inl (c_6, 300, .inl (fun _ => 0)))] H := hP
  have hD : va_D A [(h0, .inr (4, [.ref q_1, .ref q_3, .null, .null, .int 0])), (q_1, .inl (c_2, 2400, .inl (fun _ => 0))), (q_3, .inl (c_4, 300, .inl (fun _ => 0))), (q_5, .inl (c_6, 300, .inl (fun _ => 0)))] := hD
  have hK : va_K (dC, dI) vwCl [(c_2, .int), (c_4, .int), (c_6, .int)] s := hK
  refine W.widen (k := 3) (n := 3000) (Nat.le_of_ble_eq_true rfl) (Nat.le_of_ble_eq_true rfl) ?_
  refine va_putF (D := (dC, dI)) (ci := 4) (v := .ref q_5) (ty := .array .int) (C := RX4) (T := TX4) (N := 5) hx hb hts hi4 tyX4 tyX4_ok nmX4 hown hK hP hD hS 0 rfl rfl 2 (by decide) (hts (.fieldLink RX4 18 "AskTree$Rows" "kept" "[I") (by decide +kernel)) (fun _ h9 => h9) rfl hin rfl (by decide +kernel) rfl rfl (Nat.le_of_ble_eq_true rfl) dX4_init_28 (fun H locs hP hD hS => ?_)
  have hP : va_P (dC, dI) vwCl [(h0, .inr (4, [.ref q_1, .ref q_3, .ref q_5, .null, .int 0])), (q_1, .inl (c_2, 2400, .inl (fun _ => 0))), (q_3, .inl (c_4, 300, .inl (fun _ => 0))), (q_5, .inl (c_6, 300, .inl (fun _ => 0)))] H := hP
  have hD : va_D A [(h0, .inr (4, [.ref q_1, .ref q_3, .ref q_5, .null, .int 0])), (q_1, .inl (c_2, 2400, .inl (fun _ => 0))), (q_3, .inl (c_4, 300, .inl (fun _ => 0))), (q_5, .inl (c_6, 300, .inl (fun _ => 0)))] := hD
  refine lv_aload_n hx hb dX4_init_31 rfl (lv_at hl 0 rfl) ?_
  refine lv_iconst (v := 0) hx hb dX4_init_32 (by decide) ?_
  refine va_put (D := (dC, dI)) (ci := 4) (v := .int 0) (ty := .int) (C := RX4) (T := TX4) (N := 5) hx hb hts hi4 tyX4 tyX4_ok nmX4 hown hK hP hD hS 0 rfl rfl 4 (by decide) (hts (.fieldLink RX4 21 "AskTree$Rows" "size" "I") (by decide +kernel)) (fun _ h9 => h9) rfl (by decide +kernel) rfl rfl (Nat.le_of_ble_eq_true rfl) dX4_init_33 (fun H locs hP hD hS => ?_)
  have hP : va_P (dC, dI) vwCl [(h0, .inr (4, [.ref q_1, .ref q_3, .ref q_5, .null, .int 0])), (q_1, .inl (c_2, 2400, .inl (fun _ => 0))), (q_3, .inl (c_4, 300, .inl (fun _ => 0))), (q_5, .inl (c_6, 300, .inl (fun _ => 0)))] H := hP
  have hD : va_D A [(h0, .inr (4, [.ref q_1, .ref q_3, .ref q_5, .null, .int 0])), (q_1, .inl (c_2, 2400, .inl (fun _ => 0))), (q_3, .inl (c_4, 300, .inl (fun _ => 0))), (q_5, .inl (c_6, 300, .inl (fun _ => 0)))] := hD
  refine lv_aload_n hx hb dX4_init_36 rfl (lv_at hl 0 rfl) ?_
  refine lv_aload_n hx hb dX4_init_37 rfl (lv_at hl 1 rfl) ?_
  refine va_putF (D := (dC, dI)) (ci := 4) (v := .ref h1) (ty := .object "AskTree$Cases") (C := RX4) (T := TX4) (N := 5) hx hb hts hi4 tyX4 tyX4_ok nmX4 hown hK hP hD hS 0 rfl rfl 3 (by decide) (hts (.fieldLink RX4 25 "AskTree$Rows" "cases" "LAskTree$Cases;") (by decide +kernel)) (fun _ h9 => h9) rfl hin rfl (by decide +kernel) rfl rfl (Nat.le_of_ble_eq_true rfl) dX4_init_38 (fun H locs hP hD hS => ?_)
  have hP : va_P (dC, dI) vwCl [(h0, .inr (4, [.ref q_1, .ref q_3, .ref q_5, .ref h1, .int 0])), (q_1, .inl (c_2, 2400, .inl (fun _ => 0))), (q_3, .inl (c_4, 300, .inl (fun _ => 0))), (q_5, .inl (c_6, 300, .inl (fun _ => 0)))] H := hP
  have hD : va_D A [(h0, .inr (4, [.ref q_1, .ref q_3, .ref q_5, .ref h1, .int 0])), (q_1, .inl (c_2, 2400, .inl (fun _ => 0))), (q_3, .inl (c_4, 300, .inl (fun _ => 0))), (q_5, .inl (c_6, 300, .inl (fun _ => 0)))] := hD
  have hP9 := hP.sub (ws' := [(h0, .inr (4, [.ref q_1, .ref q_3, .ref q_5, .ref h1, .int 0])), (q_1, .inl (c_2, 2400, .inl (fun _ => 0))), (q_3, .inl (c_4, 300, .inl (fun _ => 0))), (q_5, .inl (c_6, 300, .inl (fun _ => 0)))]) [0, 1, 2, 3] rfl
  have hD9 := hD.sub (ws' := [(h0, .inr (4, [.ref q_1, .ref q_3, .ref q_5, .ref h1, .int 0])), (q_1, .inl (c_2, 2400, .inl (fun _ => 0))), (q_3, .inl (c_4, 300, .inl (fun _ => 0))), (q_5, .inl (c_6, 300, .inl (fun _ => 0)))]) [0, 1, 2, 3] (by decide) rfl
  have hK9 := hK.sub (tys' := [(c_2, .int), (c_4, .int), (c_6, .int)]) [0, 1, 2] rfl
  refine W.widen (k := 3) (n := 3000) (Nat.le_of_ble_eq_true rfl) (Nat.le_of_ble_eq_true rfl) ?_
  exact W.vret hx hb hr (fun t ht hW => ⟨⟨([(h0, .inr (4, [.ref q_1, .ref q_3, .ref q_5, .ref h1, .int 0])), (q_1, .inl (c_2, 2400, .inl (fun _ => 0))), (q_3, .inl (c_4, 300, .inl (fun _ => 0))), (q_5, .inl (c_6, 300, .inl (fun _ => 0)))], [(c_2, .int), (c_4, .int), (c_6, .int)]), rfl, ⟨q_1, q_3, q_5, c_2, c_4, c_6, rfl⟩, (by rw [ht]; exact hP9), va_K.moved hW.alike hK9, hD9⟩, hS.F ht⟩) hS.2.2 dX4_init_41

set_option maxHeartbeats 4000000 in
set_option maxRecDepth 100000 in
theorem c_grower_init (l : Launch) (dC : Nat → ClassId) (dI : Nat → Nat → Nat) (sz : Nat) (h0 : Nat) (h1 : Nat) (h2 : Nat)   : Met l yX2_init wsX2_init ({ frames := 1, cells := 3, slots := 12, locals := 60 }) (va_Pc [.ref h0, .ref h1, .ref h2] (pw (dC, dI) [] [(h0, .inr (2, [.null, .null, .null, .null, .null, .int 0, .int 0, .int 0, .int 0, .int 0, .long 0, .long 0]))] sz)) (va_Qv (fun (u : vu) => (∃ (q_1 : Nat) (q_3 : Nat) (q_5 : Nat) (c_2 : ClassId) (c_4 : ClassId) (c_6 : ClassId), u = ([(h0, .inr (2, [.ref h1, .ref h2, .ref q_1, .ref q_3, .ref q_5, .int 0, .int 0, .int 0, .int 0, .int 0, .long 0, .long 0])), (q_1, .inl (c_2, 4, .inl (fun _ => 0))), (q_3, .inl (c_4, 4, .inl (fun _ => 0))), (q_5, .inl (c_6, 4, .inl (fun _ => 0)))], [(c_2, .int), (c_4, .int), (c_6, .int)]))) (fun u t => qw (dC, dI) u.2 (va_A [(h0, .inr (2, [.null, .null, .null, .null, .null, .int 0, .int 0, .int 0, .int 0, .int 0, .long 0, .long 0]))] sz) u.1 t) (va_A [(h0, .inr (2, [.null, .null, .null, .null, .null, .int 0, .int 0, .int 0, .int 0, .int 0, .long 0, .long 0]))] sz)) 3 12 (va_A [(h0, .inr (2, [.null, .null, .null, .null, .null, .int 0, .int 0, .int 0, .int 0, .int 0, .long 0, .long 0]))] sz) := by
  refine Met.ofW (cc := cX2_init) (maxL := 3) (ret := none) (by decide) rfl ?_
  intro p e s m args below meth c s₁ B hml hv
  obtain ⟨rfl, hsz, hP, hK, hD0, hN⟩ := hv
  have hx := B.exec
  have hb := B.bytes
  have hr := B.returns
  have hts := atoms_spec (ws := wsX2_init) B.pre
  have hown : s.vm.findClass RX2 = some m.cls := findClass_of_methodNamed B.named
  have hlocks := B.notSynchronized
  have hin : meth.name = "<init>" := (name_of_methodNamed B.named B.method).1
  have hi2 : ∀ w ∈ u_ws RX2 TX2 12, w ∈ wsX2_init := fun _ h => List.mem_cons_of_mem _ (List.mem_append_right _ h)
  subst hsz
  have hD := hD0.self (sz := s.heap.size)
  generalize hAe : va_A [(h0, .inr (2, [.null, .null, .null, .null, .null, .int 0, .int 0, .int 0, .int 0, .int 0, .long 0, .long 0]))] s.heap.size = A at hD ⊢
  have hA : ∀ q : Nat, s.heap.size ≤ q → A q := fun q h => by rw [← hAe]; exact Or.inr h
  have hS : va_S A s.heap s.heap [] := va_S.rf
  have hl := lv_entry ([.ref h0, .ref h1, .ref h2]) (n := 3) (Nat.le_of_ble_eq_true rfl)
  rw [lg_entry_eq]
  generalize (lg_sl ([.ref h0, .ref h1, .ref h2]) ++ List.replicate (3 - (lg_sl ([.ref h0, .ref h1, .ref h2])).length) Slot.unset).toArray = ls at hl ⊢
  have hl : lv_has ls 3 [(0, .ref h0), (1, .ref h1), (2, .ref h2)] := hl
  have hP : va_P (dC, dI) vwCl [(h0, .inr (2, [.null, .null, .null, .null, .null, .int 0, .int 0, .int 0, .int 0, .int 0, .long 0, .long 0]))] s.heap := hP
  refine lv_aload_n hx hb dX2_init_0 rfl (lv_at hl 0 rfl) ?_
  refine W.objInit hx hb hown (hts (.methodLink RX2 3 objectInit) (by decide +kernel)) (hts (.instanceMethod objectInit) (by decide +kernel)) (hts _ (List.mem_of_getElem? (i := 3) rfl)) rfl (by rw [hml]; exact hl.1) rfl dX2_init_1 (Nat.le_of_ble_eq_true rfl) (Nat.le_of_ble_eq_true rfl) ?_
  refine W.eq (g2 := F0 m 4 ls []) rfl ?_
  refine lv_aload_n hx hb dX2_init_4 rfl (lv_at hl 0 rfl) ?_
  refine lv_iconst (v := 4) hx hb dX2_init_5 (by decide) ?_
  refine va_newa (atype := .int) (ty := .int) (N' := 4) (a0 := (4, .inl (fun _ => 0))) hx hb (hts (.arrayClass .int) (by decide +kernel)) rfl hK hP hD hS hA (na_I 4) (by decide +kernel) (by decide +kernel) (by decide +kernel) (Nat.le_of_ble_eq_true rfl) (Nat.le_of_ble_eq_true rfl) dX2_init_6 (fun q_1 c_2 H hK hP hD hS => ?_)
  have hP : va_P (dC, dI) vwCl [(h0, .inr (2, [.null, .null, .null, .null, .null, .int 0, .int 0, .int 0, .int 0, .int 0, .long 0, .long 0])), (q_1, .inl (c_2, 4, .inl (fun _ => 0)))] H := hP
  have hD : va_D A [(h0, .inr (2, [.null, .null, .null, .null, .null, .int 0, .int 0, .int 0, .int 0, .int 0, .long 0, .long 0])), (q_1, .inl (c_2, 4, .inl (fun _ => 0)))] := hD
  have hK : va_K (dC, dI) vwCl [(c_2, .int)] s := hK
  refine W.widen (k := 1) (n := 4) (Nat.le_of_ble_eq_true rfl) (Nat.le_of_ble_eq_true rfl) ?_
  refine va_putF (D := (dC, dI)) (ci := 2) (v := .ref q_1) (ty := .array .int) (C := RX2) (T := TX2) (N := 12) hx hb hts hi2 tyX2 tyX2_ok nmX2 hown hK hP hD hS 0 rfl rfl 2 (by decide) (hts (.fieldLink RX2 9 "AskTree$Grower" "all" "[I") (by decide +kernel)) (fun _ h9 => h9) rfl hin rfl (by decide +kernel) rfl rfl (Nat.le_of_ble_eq_true rfl) dX2_init_8 (fun H locs hP hD hS => ?_)
  have hP : va_P (dC, dI) vwCl [(h0, .inr (2, [.null, .null, .ref q_1, .null, .null, .int 0, .int 0, .int 0, .int 0, .int 0, .long 0, .long 0])), (q_1, .inl (c_2, 4, .inl (fun _ => 0)))] H := hP
  have hD : va_D A [(h0, .inr (2, [.null, .null, .ref q_1, .null, .null, .int 0, .int 0, .int 0, .int 0, .int 0, .long 0, .long 0])), (q_1, .inl (c_2, 4, .inl (fun _ => 0)))] := hD
  refine lv_aload_n hx hb dX2_init_11 rfl (lv_at hl 0 rfl) ?_
  refine lv_iconst (v := 4) hx hb dX2_init_12 (by decide) ?_
  refine va_newa (atype := .int) (ty := .int) (N' := 4) (a0 := (4, .inl (fun _ => 0))) hx hb (hts (.arrayClass .int) (by decide +kernel)) rfl hK hP hD hS hA (na_I 4) (by decide +kernel) (by decide +kernel) (by decide +kernel) (Nat.le_of_ble_eq_true rfl) (Nat.le_of_ble_eq_true rfl) dX2_init_13 (fun q_3 c_4 H hK hP hD hS => ?_)
  have hP : va_P (dC, dI) vwCl [(h0, .inr (2, [.null, .null, .ref q_1, .null, .null, .int 0, .int 0, .int 0, .int 0, .int 0, .long 0, .long 0])), (q_1, .inl (c_2, 4, .inl (fun _ => 0))), (q_3, .inl (c_4, 4, .inl (fun _ => 0)))] H := hP
  have hD : va_D A [(h0, .inr (2, [.null, .null, .ref q_1, .null, .null, .int 0, .int 0, .int 0, .int 0, .int 0, .long 0, .long 0])), (q_1, .inl (c_2, 4, .inl (fun _ => 0))), (q_3, .inl (c_4, 4, .inl (fun _ => 0)))] := hD
  have hK : va_K (dC, dI) vwCl [(c_2, .int), (c_4, .int)] s := hK
  refine W.widen (k := 2) (n := 8) (Nat.le_of_ble_eq_true rfl) (Nat.le_of_ble_eq_true rfl) ?_
  refine va_putF (D := (dC, dI)) (ci := 2) (v := .ref q_3) (ty := .array .int) (C := RX2) (T := TX2) (N := 12) hx hb hts hi2 tyX2 tyX2_ok nmX2 hown hK hP hD hS 0 rfl rfl 3 (by decide) (hts (.fieldLink RX2 15 "AskTree$Grower" "gaps" "[I") (by decide +kernel)) (fun _ h9 => h9) rfl hin rfl (by decide +kernel) rfl rfl (Nat.le_of_ble_eq_true rfl) dX2_init_15 (fun H locs hP hD hS => ?_)
  have hP : va_P (dC, dI) vwCl [(h0, .inr (2, [.null, .null, .ref q_1, .ref q_3, .null, .int 0, .int 0, .int 0, .int 0, .int 0, .long 0, .long 0])), (q_1, .inl (c_2, 4, .inl (fun _ => 0))), (q_3, .inl (c_4, 4, .inl (fun _ => 0)))] H := hP
  have hD : va_D A [(h0, .inr (2, [.null, .null, .ref q_1, .ref q_3, .null, .int 0, .int 0, .int 0, .int 0, .int 0, .long 0, .long 0])), (q_1, .inl (c_2, 4, .inl (fun _ => 0))), (q_3, .inl (c_4, 4, .inl (fun _ => 0)))] := hD
  refine lv_aload_n hx hb dX2_init_18 rfl (lv_at hl 0 rfl) ?_
  refine lv_iconst (v := 4) hx hb dX2_init_19 (by decide) ?_
  refine va_newa (atype := .int) (ty := .int) (N' := 4) (a0 := (4, .inl (fun _ => 0))) hx hb (hts (.arrayClass .int) (by decide +kernel)) rfl hK hP hD hS hA (na_I 4) (by decide +kernel) (by decide +kernel) (by decide +kernel) (Nat.le_of_ble_eq_true rfl) (Nat.le_of_ble_eq_true rfl) dX2_init_20 (fun q_5 c_6 H hK hP hD hS => ?_)
  have hP : va_P (dC, dI) vwCl [(h0, .inr (2, [.null, .null, .ref q_1, .ref q_3, .null, .int 0, .int 0, .int 0, .int 0, .int 0, .long 0, .long 0])), (q_1, .inl (c_2, 4, .inl (fun _ => 0))), (q_3, .inl (c_4, 4, .inl (fun _ => 0))), (q_5, .inl (c_6, 4, .inl (fun _ => 0)))] H := hP
  have hD : va_D A [(h0, .inr (2, [.null, .null, .ref q_1, .ref q_3, .null, .int 0, .int 0, .int 0, .int 0, .int 0, .long 0, .long 0])), (q_1, .inl (c_2, 4, .inl (fun _ => 0))), (q_3, .inl (c_4, 4, .inl (fun _ => 0))), (q_5, .inl (c_6, 4, .inl (fun _ => 0)))] := hD
  have hK : va_K (dC, dI) vwCl [(c_2, .int), (c_4, .int), (c_6, .int)] s := hK
  refine W.widen (k := 3) (n := 12) (Nat.le_of_ble_eq_true rfl) (Nat.le_of_ble_eq_true rfl) ?_
  refine va_putF (D := (dC, dI)) (ci := 2) (v := .ref q_5) (ty := .array .int) (C := RX2) (T := TX2) (N := 12) hx hb hts hi2 tyX2 tyX2_ok nmX2 hown hK hP hD hS 0 rfl rfl 4 (by decide) (hts (.fieldLink RX2 18 "AskTree$Grower" "yes" "[I") (by decide +kernel)) (fun _ h9 => h9) rfl hin rfl (by decide +kernel) rfl rfl (Nat.le_of_ble_eq_true rfl) dX2_init_22 (fun H locs hP hD hS => ?_)
  have hP : va_P (dC, dI) vwCl [(h0, .inr (2, [.null, .null, .ref q_1, .ref q_3, .ref q_5, .int 0, .int 0, .int 0, .int 0, .int 0, .long 0, .long 0])), (q_1, .inl (c_2, 4, .inl (fun _ => 0))), (q_3, .inl (c_4, 4, .inl (fun _ => 0))), (q_5, .inl (c_6, 4, .inl (fun _ => 0)))] H := hP
  have hD : va_D A [(h0, .inr (2, [.null, .null, .ref q_1, .ref q_3, .ref q_5, .int 0, .int 0, .int 0, .int 0, .int 0, .long 0, .long 0])), (q_1, .inl (c_2, 4, .inl (fun _ => 0))), (q_3, .inl (c_4, 4, .inl (fun _ => 0))), (q_5, .inl (c_6, 4, .inl (fun _ => 0)))] := hD
  refine lv_aload_n hx hb dX2_init_25 rfl (lv_at hl 0 rfl) ?_
  refine lv_aload_n hx hb dX2_init_26 rfl (lv_at hl 1 rfl) ?_
  refine va_putF (D := (dC, dI)) (ci := 2) (v := .ref h1) (ty := .object "AskTree$Cases") (C := RX2) (T := TX2) (N := 12) hx hb hts hi2 tyX2 tyX2_ok nmX2 hown hK hP hD hS 0 rfl rfl 0 (by decide) (hts (.fieldLink RX2 21 "AskTree$Grower" "cases" "LAskTree$Cases;") (by decide +kernel)) (fun _ h9 => h9) rfl hin rfl (by decide +kernel) rfl rfl (Nat.le_of_ble_eq_true rfl) dX2_init_27 (fun H locs hP hD hS => ?_)
  have hP : va_P (dC, dI) vwCl [(h0, .inr (2, [.ref h1, .null, .ref q_1, .ref q_3, .ref q_5, .int 0, .int 0, .int 0, .int 0, .int 0, .long 0, .long 0])), (q_1, .inl (c_2, 4, .inl (fun _ => 0))), (q_3, .inl (c_4, 4, .inl (fun _ => 0))), (q_5, .inl (c_6, 4, .inl (fun _ => 0)))] H := hP
  have hD : va_D A [(h0, .inr (2, [.ref h1, .null, .ref q_1, .ref q_3, .ref q_5, .int 0, .int 0, .int 0, .int 0, .int 0, .long 0, .long 0])), (q_1, .inl (c_2, 4, .inl (fun _ => 0))), (q_3, .inl (c_4, 4, .inl (fun _ => 0))), (q_5, .inl (c_6, 4, .inl (fun _ => 0)))] := hD
  refine lv_aload_n hx hb dX2_init_30 rfl (lv_at hl 0 rfl) ?_
  refine lv_aload_n hx hb dX2_init_31 rfl (lv_at hl 2 rfl) ?_
  refine va_putF (D := (dC, dI)) (ci := 2) (v := .ref h2) (ty := .object "AskTree$Rows") (C := RX2) (T := TX2) (N := 12) hx hb hts hi2 tyX2 tyX2_ok nmX2 hown hK hP hD hS 0 rfl rfl 1 (by decide) (hts (.fieldLink RX2 25 "AskTree$Grower" "rows" "LAskTree$Rows;") (by decide +kernel)) (fun _ h9 => h9) rfl hin rfl (by decide +kernel) rfl rfl (Nat.le_of_ble_eq_true rfl) dX2_init_32 (fun H locs hP hD hS => ?_)
  have hP : va_P (dC, dI) vwCl [(h0, .inr (2, [.ref h1, .ref h2, .ref q_1, .ref q_3, .ref q_5, .int 0, .int 0, .int 0, .int 0, .int 0, .long 0, .long 0])), (q_1, .inl (c_2, 4, .inl (fun _ => 0))), (q_3, .inl (c_4, 4, .inl (fun _ => 0))), (q_5, .inl (c_6, 4, .inl (fun _ => 0)))] H := hP
  have hD : va_D A [(h0, .inr (2, [.ref h1, .ref h2, .ref q_1, .ref q_3, .ref q_5, .int 0, .int 0, .int 0, .int 0, .int 0, .long 0, .long 0])), (q_1, .inl (c_2, 4, .inl (fun _ => 0))), (q_3, .inl (c_4, 4, .inl (fun _ => 0))), (q_5, .inl (c_6, 4, .inl (fun _ => 0)))] := hD
  have hP9 := hP.sub (ws' := [(h0, .inr (2, [.ref h1, .ref h2, .ref q_1, .ref q_3, .ref q_5, .int 0, .int 0, .int 0, .int 0, .int 0, .long 0, .long 0])), (q_1, .inl (c_2, 4, .inl (fun _ => 0))), (q_3, .inl (c_4, 4, .inl (fun _ => 0))), (q_5, .inl (c_6, 4, .inl (fun _ => 0)))]) [0, 1, 2, 3] rfl
  have hD9 := hD.sub (ws' := [(h0, .inr (2, [.ref h1, .ref h2, .ref q_1, .ref q_3, .ref q_5, .int 0, .int 0, .int 0, .int 0, .int 0, .long 0, .long 0])), (q_1, .inl (c_2, 4, .inl (fun _ => 0))), (q_3, .inl (c_4, 4, .inl (fun _ => 0))), (q_5, .inl (c_6, 4, .inl (fun _ => 0)))]) [0, 1, 2, 3] (by decide) rfl
  have hK9 := hK.sub (tys' := [(c_2, .int), (c_4, .int), (c_6, .int)]) [0, 1, 2] rfl
  refine W.widen (k := 3) (n := 12) (Nat.le_of_ble_eq_true rfl) (Nat.le_of_ble_eq_true rfl) ?_
  exact W.vret hx hb hr (fun t ht hW => ⟨⟨([(h0, .inr (2, [.ref h1, .ref h2, .ref q_1, .ref q_3, .ref q_5, .int 0, .int 0, .int 0, .int 0, .int 0, .long 0, .long 0])), (q_1, .inl (c_2, 4, .inl (fun _ => 0))), (q_3, .inl (c_4, 4, .inl (fun _ => 0))), (q_5, .inl (c_6, 4, .inl (fun _ => 0)))], [(c_2, .int), (c_4, .int), (c_6, .int)]), rfl, ⟨q_1, q_3, q_5, c_2, c_4, c_6, rfl⟩, (by rw [ht]; exact hP9), va_K.moved hW.alike hK9, hD9⟩, hS.F ht⟩) hS.2.2 dX2_init_35

set_option maxHeartbeats 4000000 in
set_option maxRecDepth 100000 in
theorem c_finder_init (l : Launch) (dC : Nat → ClassId) (dI : Nat → Nat → Nat) (sz : Nat) (h0 : Nat) (h1 : Nat) (h2 : Nat)   : Met l yX1_init wsX1_init ({ frames := 1, cells := 2, slots := 8, locals := 60 }) (va_Pc [.ref h0, .ref h1, .ref h2] (pw (dC, dI) [] [(h0, .inr (1, [.null, .null, .null, .null, .int 0, .int 0, .int 0, .int 0, .int 0, .int 0, .int 0, .int 0]))] sz)) (va_Qv (fun (u : vu) => (∃ (q_1 : Nat) (q_3 : Nat) (c_2 : ClassId) (c_4 : ClassId), u = ([(h0, .inr (1, [.ref h1, .ref h2, .ref q_1, .ref q_3, .int 0, .int 0, .int 0, .int 0, .int 0, .int 0, .int 0, .int 0])), (q_1, .inl (c_2, 4, .inl (fun _ => 0))), (q_3, .inl (c_4, 4, .inl (fun _ => 0)))], [(c_2, .int), (c_4, .int)]))) (fun u t => qw (dC, dI) u.2 (va_A [(h0, .inr (1, [.null, .null, .null, .null, .int 0, .int 0, .int 0, .int 0, .int 0, .int 0, .int 0, .int 0]))] sz) u.1 t) (va_A [(h0, .inr (1, [.null, .null, .null, .null, .int 0, .int 0, .int 0, .int 0, .int 0, .int 0, .int 0, .int 0]))] sz)) 2 8 (va_A [(h0, .inr (1, [.null, .null, .null, .null, .int 0, .int 0, .int 0, .int 0, .int 0, .int 0, .int 0, .int 0]))] sz) := by
  refine Met.ofW (cc := cX1_init) (maxL := 3) (ret := none) (by decide) rfl ?_
  intro p e s m args below meth c s₁ B hml hv
  obtain ⟨rfl, hsz, hP, hK, hD0, hN⟩ := hv
  have hx := B.exec
  have hb := B.bytes
  have hr := B.returns
  have hts := atoms_spec (ws := wsX1_init) B.pre
  have hown : s.vm.findClass RX1 = some m.cls := findClass_of_methodNamed B.named
  have hlocks := B.notSynchronized
  have hin : meth.name = "<init>" := (name_of_methodNamed B.named B.method).1
  have hi1 : ∀ w ∈ u_ws RX1 TX1 12, w ∈ wsX1_init := fun _ h => List.mem_cons_of_mem _ (List.mem_append_right _ h)
  subst hsz
  have hD := hD0.self (sz := s.heap.size)
  generalize hAe : va_A [(h0, .inr (1, [.null, .null, .null, .null, .int 0, .int 0, .int 0, .int 0, .int 0, .int 0, .int 0, .int 0]))] s.heap.size = A at hD ⊢
  have hA : ∀ q : Nat, s.heap.size ≤ q → A q := fun q h => by rw [← hAe]; exact Or.inr h
  have hS : va_S A s.heap s.heap [] := va_S.rf
  have hl := lv_entry ([.ref h0, .ref h1, .ref h2]) (n := 3) (Nat.le_of_ble_eq_true rfl)
  rw [lg_entry_eq]
  generalize (lg_sl ([.ref h0, .ref h1, .ref h2]) ++ List.replicate (3 - (lg_sl ([.ref h0, .ref h1, .ref h2])).length) Slot.unset).toArray = ls at hl ⊢
  have hl : lv_has ls 3 [(0, .ref h0), (1, .ref h1), (2, .ref h2)] := hl
  have hP : va_P (dC, dI) vwCl [(h0, .inr (1, [.null, .null, .null, .null, .int 0, .int 0, .int 0, .int 0, .int 0, .int 0, .int 0, .int 0]))] s.heap := hP
  refine lv_aload_n hx hb dX1_init_0 rfl (lv_at hl 0 rfl) ?_
  refine W.objInit hx hb hown (hts (.methodLink RX1 3 objectInit) (by decide +kernel)) (hts (.instanceMethod objectInit) (by decide +kernel)) (hts _ (List.mem_of_getElem? (i := 3) rfl)) rfl (by rw [hml]; exact hl.1) rfl dX1_init_1 (Nat.le_of_ble_eq_true rfl) (Nat.le_of_ble_eq_true rfl) ?_
  refine W.eq (g2 := F0 m 4 ls []) rfl ?_
  refine lv_aload_n hx hb dX1_init_4 rfl (lv_at hl 0 rfl) ?_
  refine lv_iconst (v := 4) hx hb dX1_init_5 (by decide) ?_
  refine va_newa (atype := .int) (ty := .int) (N' := 4) (a0 := (4, .inl (fun _ => 0))) hx hb (hts (.arrayClass .int) (by decide +kernel)) rfl hK hP hD hS hA (na_I 4) (by decide +kernel) (by decide +kernel) (by decide +kernel) (Nat.le_of_ble_eq_true rfl) (Nat.le_of_ble_eq_true rfl) dX1_init_6 (fun q_1 c_2 H hK hP hD hS => ?_)
  have hP : va_P (dC, dI) vwCl [(h0, .inr (1, [.null, .null, .null, .null, .int 0, .int 0, .int 0, .int 0, .int 0, .int 0, .int 0, .int 0])), (q_1, .inl (c_2, 4, .inl (fun _ => 0)))] H := hP
  have hD : va_D A [(h0, .inr (1, [.null, .null, .null, .null, .int 0, .int 0, .int 0, .int 0, .int 0, .int 0, .int 0, .int 0])), (q_1, .inl (c_2, 4, .inl (fun _ => 0)))] := hD
  have hK : va_K (dC, dI) vwCl [(c_2, .int)] s := hK
  refine W.widen (k := 1) (n := 4) (Nat.le_of_ble_eq_true rfl) (Nat.le_of_ble_eq_true rfl) ?_
  refine va_putF (D := (dC, dI)) (ci := 1) (v := .ref q_1) (ty := .array .int) (C := RX1) (T := TX1) (N := 12) hx hb hts hi1 tyX1 tyX1_ok nmX1 hown hK hP hD hS 0 rfl rfl 2 (by decide) (hts (.fieldLink RX1 9 "AskTree$Finder" "all" "[I") (by decide +kernel)) (fun _ h9 => h9) rfl hin rfl (by decide +kernel) rfl rfl (Nat.le_of_ble_eq_true rfl) dX1_init_8 (fun H locs hP hD hS => ?_)
  have hP : va_P (dC, dI) vwCl [(h0, .inr (1, [.null, .null, .ref q_1, .null, .int 0, .int 0, .int 0, .int 0, .int 0, .int 0, .int 0, .int 0])), (q_1, .inl (c_2, 4, .inl (fun _ => 0)))] H := hP
  have hD : va_D A [(h0, .inr (1, [.null, .null, .ref q_1, .null, .int 0, .int 0, .int 0, .int 0, .int 0, .int 0, .int 0, .int 0])), (q_1, .inl (c_2, 4, .inl (fun _ => 0)))] := hD
  refine lv_aload_n hx hb dX1_init_11 rfl (lv_at hl 0 rfl) ?_
  refine lv_iconst (v := 4) hx hb dX1_init_12 (by decide) ?_
  refine va_newa (atype := .int) (ty := .int) (N' := 4) (a0 := (4, .inl (fun _ => 0))) hx hb (hts (.arrayClass .int) (by decide +kernel)) rfl hK hP hD hS hA (na_I 4) (by decide +kernel) (by decide +kernel) (by decide +kernel) (Nat.le_of_ble_eq_true rfl) (Nat.le_of_ble_eq_true rfl) dX1_init_13 (fun q_3 c_4 H hK hP hD hS => ?_)
  have hP : va_P (dC, dI) vwCl [(h0, .inr (1, [.null, .null, .ref q_1, .null, .int 0, .int 0, .int 0, .int 0, .int 0, .int 0, .int 0, .int 0])), (q_1, .inl (c_2, 4, .inl (fun _ => 0))), (q_3, .inl (c_4, 4, .inl (fun _ => 0)))] H := hP
  have hD : va_D A [(h0, .inr (1, [.null, .null, .ref q_1, .null, .int 0, .int 0, .int 0, .int 0, .int 0, .int 0, .int 0, .int 0])), (q_1, .inl (c_2, 4, .inl (fun _ => 0))), (q_3, .inl (c_4, 4, .inl (fun _ => 0)))] := hD
  have hK : va_K (dC, dI) vwCl [(c_2, .int), (c_4, .int)] s := hK
  refine W.widen (k := 2) (n := 8) (Nat.le_of_ble_eq_true rfl) (Nat.le_of_ble_eq_true rfl) ?_
  refine va_putF (D := (dC, dI)) (ci := 1) (v := .ref q_3) (ty := .array .int) (C := RX1) (T := TX1) (N := 12) hx hb hts hi1 tyX1 tyX1_ok nmX1 hown hK hP hD hS 0 rfl rfl 3 (by decide) (hts (.fieldLink RX1 15 "AskTree$Finder" "yes" "[I") (by decide +kernel)) (fun _ h9 => h9) rfl hin rfl (by decide +kernel) rfl rfl (Nat.le_of_ble_eq_true rfl) dX1_init_15 (fun H locs hP hD hS => ?_)
  have hP : va_P (dC, dI) vwCl [(h0, .inr (1, [.null, .null, .ref q_1, .ref q_3, .int 0, .int 0, .int 0, .int 0, .int 0, .int 0, .int 0, .int 0])), (q_1, .inl (c_2, 4, .inl (fun _ => 0))), (q_3, .inl (c_4, 4, .inl (fun _ => 0)))] H := hP
  have hD : va_D A [(h0, .inr (1, [.null, .null, .ref q_1, .ref q_3, .int 0, .int 0, .int 0, .int 0, .int 0, .int 0, .int 0, .int 0])), (q_1, .inl (c_2, 4, .inl (fun _ => 0))), (q_3, .inl (c_4, 4, .inl (fun _ => 0)))] := hD
  refine lv_aload_n hx hb dX1_init_18 rfl (lv_at hl 0 rfl) ?_
  refine lv_aload_n hx hb dX1_init_19 rfl (lv_at hl 1 rfl) ?_
  refine va_putF (D := (dC, dI)) (ci := 1) (v := .ref h1) (ty := .object "AskTree$Cases") (C := RX1) (T := TX1) (N := 12) hx hb hts hi1 tyX1 tyX1_ok nmX1 hown hK hP hD hS 0 rfl rfl 0 (by decide) (hts (.fieldLink RX1 18 "AskTree$Finder" "cases" "LAskTree$Cases;") (by decide +kernel)) (fun _ h9 => h9) rfl hin rfl (by decide +kernel) rfl rfl (Nat.le_of_ble_eq_true rfl) dX1_init_20 (fun H locs hP hD hS => ?_)
  have hP : va_P (dC, dI) vwCl [(h0, .inr (1, [.ref h1, .null, .ref q_1, .ref q_3, .int 0, .int 0, .int 0, .int 0, .int 0, .int 0, .int 0, .int 0])), (q_1, .inl (c_2, 4, .inl (fun _ => 0))), (q_3, .inl (c_4, 4, .inl (fun _ => 0)))] H := hP
  have hD : va_D A [(h0, .inr (1, [.ref h1, .null, .ref q_1, .ref q_3, .int 0, .int 0, .int 0, .int 0, .int 0, .int 0, .int 0, .int 0])), (q_1, .inl (c_2, 4, .inl (fun _ => 0))), (q_3, .inl (c_4, 4, .inl (fun _ => 0)))] := hD
  refine lv_aload_n hx hb dX1_init_23 rfl (lv_at hl 0 rfl) ?_
  refine lv_aload_n hx hb dX1_init_24 rfl (lv_at hl 2 rfl) ?_
  refine va_putF (D := (dC, dI)) (ci := 1) (v := .ref h2) (ty := .object "AskTree$Rows") (C := RX1) (T := TX1) (N := 12) hx hb hts hi1 tyX1 tyX1_ok nmX1 hown hK hP hD hS 0 rfl rfl 1 (by decide) (hts (.fieldLink RX1 22 "AskTree$Finder" "rows" "LAskTree$Rows;") (by decide +kernel)) (fun _ h9 => h9) rfl hin rfl (by decide +kernel) rfl rfl (Nat.le_of_ble_eq_true rfl) dX1_init_25 (fun H locs hP hD hS => ?_)
  have hP : va_P (dC, dI) vwCl [(h0, .inr (1, [.ref h1, .ref h2, .ref q_1, .ref q_3, .int 0, .int 0, .int 0, .int 0, .int 0, .int 0, .int 0, .int 0])), (q_1, .inl (c_2, 4, .inl (fun _ => 0))), (q_3, .inl (c_4, 4, .inl (fun _ => 0)))] H := hP
  have hD : va_D A [(h0, .inr (1, [.ref h1, .ref h2, .ref q_1, .ref q_3, .int 0, .int 0, .int 0, .int 0, .int 0, .int 0, .int 0, .int 0])), (q_1, .inl (c_2, 4, .inl (fun _ => 0))), (q_3, .inl (c_4, 4, .inl (fun _ => 0)))] := hD
  have hP9 := hP.sub (ws' := [(h0, .inr (1, [.ref h1, .ref h2, .ref q_1, .ref q_3, .int 0, .int 0, .int 0, .int 0, .int 0, .int 0, .int 0, .int 0])), (q_1, .inl (c_2, 4, .inl (fun _ => 0))), (q_3, .inl (c_4, 4, .inl (fun _ => 0)))]) [0, 1, 2] rfl
  have hD9 := hD.sub (ws' := [(h0, .inr (1, [.ref h1, .ref h2, .ref q_1, .ref q_3, .int 0, .int 0, .int 0, .int 0, .int 0, .int 0, .int 0, .int 0])), (q_1, .inl (c_2, 4, .inl (fun _ => 0))), (q_3, .inl (c_4, 4, .inl (fun _ => 0)))]) [0, 1, 2] (by decide) rfl
  have hK9 := hK.sub (tys' := [(c_2, .int), (c_4, .int)]) [0, 1] rfl
  refine W.widen (k := 2) (n := 8) (Nat.le_of_ble_eq_true rfl) (Nat.le_of_ble_eq_true rfl) ?_
  exact W.vret hx hb hr (fun t ht hW => ⟨⟨([(h0, .inr (1, [.ref h1, .ref h2, .ref q_1, .ref q_3, .int 0, .int 0, .int 0, .int 0, .int 0, .int 0, .int 0, .int 0])), (q_1, .inl (c_2, 4, .inl (fun _ => 0))), (q_3, .inl (c_4, 4, .inl (fun _ => 0)))], [(c_2, .int), (c_4, .int)]), rfl, ⟨q_1, q_3, c_2, c_4, rfl⟩, (by rw [ht]; exact hP9), va_K.moved hW.alike hK9, hD9⟩, hS.F ht⟩) hS.2.2 dX1_init_28

set_option maxHeartbeats 4000000 in
set_option maxRecDepth 100000 in
theorem c_pruner_init (l : Launch) (dC : Nat → ClassId) (dI : Nat → Nat → Nat) (sz : Nat) (h0 : Nat)   : Met l yX3_init wsX3_init ({ frames := 1, cells := 1, slots := 511, locals := 60 }) (va_Pc [.ref h0] (pw (dC, dI) [] [(h0, .inr (3, [.null, .int 0, .int 0, .int 0, .int 0]))] sz)) (va_Qv (fun (u : vu) => (∃ (q_1 : Nat) (c_2 : ClassId), u = ([(h0, .inr (3, [.ref q_1, .int 0, .int 0, .int 0, .int 1])), (q_1, .inl (c_2, 511, .inl (fun _ => 0)))], [(c_2, .int)]))) (fun u t => qw (dC, dI) u.2 (va_A [(h0, .inr (3, [.null, .int 0, .int 0, .int 0, .int 0]))] sz) u.1 t) (va_A [(h0, .inr (3, [.null, .int 0, .int 0, .int 0, .int 0]))] sz)) 1 511 (va_A [(h0, .inr (3, [.null, .int 0, .int 0, .int 0, .int 0]))] sz) := by
  refine Met.ofW (cc := cX3_init) (maxL := 1) (ret := none) (by decide) rfl ?_
  intro p e s m args below meth c s₁ B hml hv
  obtain ⟨rfl, hsz, hP, hK, hD0, hN⟩ := hv
  have hx := B.exec
  have hb := B.bytes
  have hr := B.returns
  have hts := atoms_spec (ws := wsX3_init) B.pre
  have hown : s.vm.findClass RX3 = some m.cls := findClass_of_methodNamed B.named
  have hlocks := B.notSynchronized
  have hin : meth.name = "<init>" := (name_of_methodNamed B.named B.method).1
  have hi3 : ∀ w ∈ u_ws RX3 TX3 5, w ∈ wsX3_init := fun _ h => List.mem_cons_of_mem _ (List.mem_append_right _ h)
  subst hsz
  have hD := hD0.self (sz := s.heap.size)
  generalize hAe : va_A [(h0, .inr (3, [.null, .int 0, .int 0, .int 0, .int 0]))] s.heap.size = A at hD ⊢
  have hA : ∀ q : Nat, s.heap.size ≤ q → A q := fun q h => by rw [← hAe]; exact Or.inr h
  have hS : va_S A s.heap s.heap [] := va_S.rf
  have hl := lv_entry ([.ref h0]) (n := 1) (Nat.le_of_ble_eq_true rfl)
  rw [lg_entry_eq]
  generalize (lg_sl ([.ref h0]) ++ List.replicate (1 - (lg_sl ([.ref h0])).length) Slot.unset).toArray = ls at hl ⊢
  have hl : lv_has ls 1 [(0, .ref h0)] := hl
  have hP : va_P (dC, dI) vwCl [(h0, .inr (3, [.null, .int 0, .int 0, .int 0, .int 0]))] s.heap := hP
  refine lv_aload_n hx hb dX3_init_0 rfl (lv_at hl 0 rfl) ?_
  refine W.objInit hx hb hown (hts (.methodLink RX3 3 objectInit) (by decide +kernel)) (hts (.instanceMethod objectInit) (by decide +kernel)) (hts _ (List.mem_of_getElem? (i := 3) rfl)) rfl (by rw [hml]; exact hl.1) rfl dX3_init_1 (Nat.le_of_ble_eq_true rfl) (Nat.le_of_ble_eq_true rfl) ?_
  refine W.eq (g2 := F0 m 4 ls []) rfl ?_
  refine lv_aload_n hx hb dX3_init_4 rfl (lv_at hl 0 rfl) ?_
  refine lv_sipush (v := 511) hx hb dX3_init_5 (by decide) ?_
  refine va_newa (atype := .int) (ty := .int) (N' := 511) (a0 := (511, .inl (fun _ => 0))) hx hb (hts (.arrayClass .int) (by decide +kernel)) rfl hK hP hD hS hA (na_I 511) (by decide +kernel) (by decide +kernel) (by decide +kernel) (Nat.le_of_ble_eq_true rfl) (Nat.le_of_ble_eq_true rfl) dX3_init_8 (fun q_1 c_2 H hK hP hD hS => ?_)
  have hP : va_P (dC, dI) vwCl [(h0, .inr (3, [.null, .int 0, .int 0, .int 0, .int 0])), (q_1, .inl (c_2, 511, .inl (fun _ => 0)))] H := hP
  have hD : va_D A [(h0, .inr (3, [.null, .int 0, .int 0, .int 0, .int 0])), (q_1, .inl (c_2, 511, .inl (fun _ => 0)))] := hD
  have hK : va_K (dC, dI) vwCl [(c_2, .int)] s := hK
  refine W.widen (k := 1) (n := 511) (Nat.le_of_ble_eq_true rfl) (Nat.le_of_ble_eq_true rfl) ?_
  refine va_putF (D := (dC, dI)) (ci := 3) (v := .ref q_1) (ty := .array .int) (C := RX3) (T := TX3) (N := 5) hx hb hts hi3 tyX3 tyX3_ok nmX3 hown hK hP hD hS 0 rfl rfl 0 (by decide) (hts (.fieldLink RX3 9 "AskTree$Pruner" "costs" "[I") (by decide +kernel)) (fun _ h9 => h9) rfl hin rfl (by decide +kernel) rfl rfl (Nat.le_of_ble_eq_true rfl) dX3_init_10 (fun H locs hP hD hS => ?_)
  have hP : va_P (dC, dI) vwCl [(h0, .inr (3, [.ref q_1, .int 0, .int 0, .int 0, .int 0])), (q_1, .inl (c_2, 511, .inl (fun _ => 0)))] H := hP
  have hD : va_D A [(h0, .inr (3, [.ref q_1, .int 0, .int 0, .int 0, .int 0])), (q_1, .inl (c_2, 511, .inl (fun _ => 0)))] := hD
  refine lv_aload_n hx hb dX3_init_13 rfl (lv_at hl 0 rfl) ?_
  refine lv_iconst (v := 0) hx hb dX3_init_14 (by decide) ?_
  refine va_put (D := (dC, dI)) (ci := 3) (v := .int 0) (ty := .int) (C := RX3) (T := TX3) (N := 5) hx hb hts hi3 tyX3 tyX3_ok nmX3 hown hK hP hD hS 0 rfl rfl 3 (by decide) (hts (.fieldLink RX3 15 "AskTree$Pruner" "upper" "I") (by decide +kernel)) (fun _ h9 => h9) rfl (by decide +kernel) rfl rfl (Nat.le_of_ble_eq_true rfl) dX3_init_15 (fun H locs hP hD hS => ?_)
  have hP : va_P (dC, dI) vwCl [(h0, .inr (3, [.ref q_1, .int 0, .int 0, .int 0, .int 0])), (q_1, .inl (c_2, 511, .inl (fun _ => 0)))] H := hP
  have hD : va_D A [(h0, .inr (3, [.ref q_1, .int 0, .int 0, .int 0, .int 0])), (q_1, .inl (c_2, 511, .inl (fun _ => 0)))] := hD
  refine lv_aload_n hx hb dX3_init_18 rfl (lv_at hl 0 rfl) ?_
  refine lv_iconst (v := 1) hx hb dX3_init_19 (by decide) ?_
  refine va_put (D := (dC, dI)) (ci := 3) (v := .int 1) (ty := .int) (C := RX3) (T := TX3) (N := 5) hx hb hts hi3 tyX3 tyX3_ok nmX3 hown hK hP hD hS 0 rfl rfl 4 (by decide) (hts (.fieldLink RX3 19 "AskTree$Pruner" "lower" "I") (by decide +kernel)) (fun _ h9 => h9) rfl (by decide +kernel) rfl rfl (Nat.le_of_ble_eq_true rfl) dX3_init_20 (fun H locs hP hD hS => ?_)
  have hP : va_P (dC, dI) vwCl [(h0, .inr (3, [.ref q_1, .int 0, .int 0, .int 0, .int 1])), (q_1, .inl (c_2, 511, .inl (fun _ => 0)))] H := hP
  have hD : va_D A [(h0, .inr (3, [.ref q_1, .int 0, .int 0, .int 0, .int 1])), (q_1, .inl (c_2, 511, .inl (fun _ => 0)))] := hD
  have hP9 := hP.sub (ws' := [(h0, .inr (3, [.ref q_1, .int 0, .int 0, .int 0, .int 1])), (q_1, .inl (c_2, 511, .inl (fun _ => 0)))]) [0, 1] rfl
  have hD9 := hD.sub (ws' := [(h0, .inr (3, [.ref q_1, .int 0, .int 0, .int 0, .int 1])), (q_1, .inl (c_2, 511, .inl (fun _ => 0)))]) [0, 1] (by decide) rfl
  have hK9 := hK.sub (tys' := [(c_2, .int)]) [0] rfl
  refine W.widen (k := 1) (n := 511) (Nat.le_of_ble_eq_true rfl) (Nat.le_of_ble_eq_true rfl) ?_
  exact W.vret hx hb hr (fun t ht hW => ⟨⟨([(h0, .inr (3, [.ref q_1, .int 0, .int 0, .int 0, .int 1])), (q_1, .inl (c_2, 511, .inl (fun _ => 0)))], [(c_2, .int)]), rfl, ⟨q_1, c_2, rfl⟩, (by rw [ht]; exact hP9), va_K.moved hW.alike hK9, hD9⟩, hS.F ht⟩) hS.2.2 dX3_init_23

set_option maxHeartbeats 4000000 in
set_option maxRecDepth 100000 in
theorem c_rules_init (l : Launch) (dC : Nat → ClassId) (dI : Nat → Nat → Nat) (sz : Nat) (h0 : Nat) (h1 : Nat)   : Met l yX5_init wsX5_init ({ frames := 1, cells := 6, slots := 104, locals := 60 }) (va_Pc [.ref h0, .ref h1] (pw (dC, dI) [] [(h0, .inr (5, [.null, .null, .null, .null, .null, .null, .null]))] sz)) (va_Qv (fun (u : vu) => (∃ (q_1 : Nat) (q_3 : Nat) (q_5 : Nat) (q_7 : Nat) (q_9 : Nat) (q_11 : Nat) (c_2 : ClassId) (c_4 : ClassId) (c_6 : ClassId) (c_8 : ClassId) (c_10 : ClassId) (c_12 : ClassId), u = ([(h0, .inr (5, [.ref h1, .ref q_1, .ref q_3, .ref q_5, .ref q_7, .ref q_9, .ref q_11])), (q_1, .inl (c_2, 8, .inl (fun _ => 0))), (q_3, .inl (c_4, 8, .inl (fun _ => 0))), (q_5, .inl (c_6, 8, .inl (fun _ => 0))), (q_7, .inl (c_8, 8, .inl (fun _ => 0))), (q_9, .inl (c_10, 64, .inl (fun _ => 0))), (q_11, .inl (c_12, 8, .inl (fun _ => 0)))], [(c_2, .int), (c_4, .int), (c_6, .int), (c_8, .int), (c_10, .int), (c_12, .boolean)]))) (fun u t => qw (dC, dI) u.2 (va_A [(h0, .inr (5, [.null, .null, .null, .null, .null, .null, .null]))] sz) u.1 t) (va_A [(h0, .inr (5, [.null, .null, .null, .null, .null, .null, .null]))] sz)) 6 104 (va_A [(h0, .inr (5, [.null, .null, .null, .null, .null, .null, .null]))] sz) := by
  refine Met.ofW (cc := cX5_init) (maxL := 2) (ret := none) (by decide) rfl ?_
  intro p e s m args below meth c s₁ B hml hv
  obtain ⟨rfl, hsz, hP, hK, hD0, hN⟩ := hv
  have hx := B.exec
  have hb := B.bytes
  have hr := B.returns
  have hts := atoms_spec (ws := wsX5_init) B.pre
  have hown : s.vm.findClass RX5 = some m.cls := findClass_of_methodNamed B.named
  have hlocks := B.notSynchronized
  have hin : meth.name = "<init>" := (name_of_methodNamed B.named B.method).1
  have hi5 : ∀ w ∈ u_ws RX5 TX5 7, w ∈ wsX5_init := fun _ h => List.mem_cons_of_mem _ (List.mem_append_right _ h)
  subst hsz
  have hD := hD0.self (sz := s.heap.size)
  generalize hAe : va_A [(h0, .inr (5, [.null, .null, .null, .null, .null, .null, .null]))] s.heap.size = A at hD ⊢
  have hA : ∀ q : Nat, s.heap.size ≤ q → A q := fun q h => by rw [← hAe]; exact Or.inr h
  have hS : va_S A s.heap s.heap [] := va_S.rf
  have hl := lv_entry ([.ref h0, .ref h1]) (n := 2) (Nat.le_of_ble_eq_true rfl)
  rw [lg_entry_eq]
  generalize (lg_sl ([.ref h0, .ref h1]) ++ List.replicate (2 - (lg_sl ([.ref h0, .ref h1])).length) Slot.unset).toArray = ls at hl ⊢
  have hl : lv_has ls 2 [(0, .ref h0), (1, .ref h1)] := hl
  have hP : va_P (dC, dI) vwCl [(h0, .inr (5, [.null, .null, .null, .null, .null, .null, .null]))] s.heap := hP
  refine lv_aload_n hx hb dX5_init_0 rfl (lv_at hl 0 rfl) ?_
  refine W.objInit hx hb hown (hts (.methodLink RX5 3 objectInit) (by decide +kernel)) (hts (.instanceMethod objectInit) (by decide +kernel)) (hts _ (List.mem_of_getElem? (i := 3) rfl)) rfl (by rw [hml]; exact hl.1) rfl dX5_init_1 (Nat.le_of_ble_eq_true rfl) (Nat.le_of_ble_eq_true rfl) ?_
  refine W.eq (g2 := F0 m 4 ls []) rfl ?_
  refine lv_aload_n hx hb dX5_init_4 rfl (lv_at hl 0 rfl) ?_
  refine lv_bipush (v := 8) hx hb dX5_init_5 (by decide) ?_
  refine va_newa (atype := .int) (ty := .int) (N' := 8) (a0 := (8, .inl (fun _ => 0))) hx hb (hts (.arrayClass .int) (by decide +kernel)) rfl hK hP hD hS hA (na_I 8) (by decide +kernel) (by decide +kernel) (by decide +kernel) (Nat.le_of_ble_eq_true rfl) (Nat.le_of_ble_eq_true rfl) dX5_init_7 (fun q_1 c_2 H hK hP hD hS => ?_)
  have hP : va_P (dC, dI) vwCl [(h0, .inr (5, [.null, .null, .null, .null, .null, .null, .null])), (q_1, .inl (c_2, 8, .inl (fun _ => 0)))] H := hP
  have hD : va_D A [(h0, .inr (5, [.null, .null, .null, .null, .null, .null, .null])), (q_1, .inl (c_2, 8, .inl (fun _ => 0)))] := hD
  have hK : va_K (dC, dI) vwCl [(c_2, .int)] s := hK
  refine W.widen (k := 1) (n := 8) (Nat.le_of_ble_eq_true rfl) (Nat.le_of_ble_eq_true rfl) ?_
  refine va_putF (D := (dC, dI)) (ci := 5) (v := .ref q_1) (ty := .array .int) (C := RX5) (T := TX5) (N := 7) hx hb hts hi5 tyX5 tyX5_ok nmX5 hown hK hP hD hS 0 rfl rfl 1 (by decide) (hts (.fieldLink RX5 9 "AskTree$Rules" "least" "[I") (by decide +kernel)) (fun _ h9 => h9) rfl hin rfl (by decide +kernel) rfl rfl (Nat.le_of_ble_eq_true rfl) dX5_init_9 (fun H locs hP hD hS => ?_)
  have hP : va_P (dC, dI) vwCl [(h0, .inr (5, [.null, .ref q_1, .null, .null, .null, .null, .null])), (q_1, .inl (c_2, 8, .inl (fun _ => 0)))] H := hP
  have hD : va_D A [(h0, .inr (5, [.null, .ref q_1, .null, .null, .null, .null, .null])), (q_1, .inl (c_2, 8, .inl (fun _ => 0)))] := hD
  refine lv_aload_n hx hb dX5_init_12 rfl (lv_at hl 0 rfl) ?_
  refine lv_bipush (v := 8) hx hb dX5_init_13 (by decide) ?_
  refine va_newa (atype := .int) (ty := .int) (N' := 8) (a0 := (8, .inl (fun _ => 0))) hx hb (hts (.arrayClass .int) (by decide +kernel)) rfl hK hP hD hS hA (na_I 8) (by decide +kernel) (by decide +kernel) (by decide +kernel) (Nat.le_of_ble_eq_true rfl) (Nat.le_of_ble_eq_true rfl) dX5_init_15 (fun q_3 c_4 H hK hP hD hS => ?_)
  have hP : va_P (dC, dI) vwCl [(h0, .inr (5, [.null, .ref q_1, .null, .null, .null, .null, .null])), (q_1, .inl (c_2, 8, .inl (fun _ => 0))), (q_3, .inl (c_4, 8, .inl (fun _ => 0)))] H := hP
  have hD : va_D A [(h0, .inr (5, [.null, .ref q_1, .null, .null, .null, .null, .null])), (q_1, .inl (c_2, 8, .inl (fun _ => 0))), (q_3, .inl (c_4, 8, .inl (fun _ => 0)))] := hD
  have hK : va_K (dC, dI) vwCl [(c_2, .int), (c_4, .int)] s := hK
  refine W.widen (k := 2) (n := 16) (Nat.le_of_ble_eq_true rfl) (Nat.le_of_ble_eq_true rfl) ?_
  refine va_putF (D := (dC, dI)) (ci := 5) (v := .ref q_3) (ty := .array .int) (C := RX5) (T := TX5) (N := 7) hx hb hts hi5 tyX5 tyX5_ok nmX5 hown hK hP hD hS 0 rfl rfl 2 (by decide) (hts (.fieldLink RX5 15 "AskTree$Rules" "greatest" "[I") (by decide +kernel)) (fun _ h9 => h9) rfl hin rfl (by decide +kernel) rfl rfl (Nat.le_of_ble_eq_true rfl) dX5_init_17 (fun H locs hP hD hS => ?_)
  have hP : va_P (dC, dI) vwCl [(h0, .inr (5, [.null, .ref q_1, .ref q_3, .null, .null, .null, .null])), (q_1, .inl (c_2, 8, .inl (fun _ => 0))), (q_3, .inl (c_4, 8, .inl (fun _ => 0)))] H := hP
  have hD : va_D A [(h0, .inr (5, [.null, .ref q_1, .ref q_3, .null, .null, .null, .null])), (q_1, .inl (c_2, 8, .inl (fun _ => 0))), (q_3, .inl (c_4, 8, .inl (fun _ => 0)))] := hD
  refine lv_aload_n hx hb dX5_init_20 rfl (lv_at hl 0 rfl) ?_
  refine lv_bipush (v := 8) hx hb dX5_init_21 (by decide) ?_
  refine va_newa (atype := .int) (ty := .int) (N' := 8) (a0 := (8, .inl (fun _ => 0))) hx hb (hts (.arrayClass .int) (by decide +kernel)) rfl hK hP hD hS hA (na_I 8) (by decide +kernel) (by decide +kernel) (by decide +kernel) (Nat.le_of_ble_eq_true rfl) (Nat.le_of_ble_eq_true rfl) dX5_init_23 (fun q_5 c_6 H hK hP hD hS => ?_)
  have hP : va_P (dC, dI) vwCl [(h0, .inr (5, [.null, .ref q_1, .ref q_3, .null, .null, .null, .null])), (q_1, .inl (c_2, 8, .inl (fun _ => 0))), (q_3, .inl (c_4, 8, .inl (fun _ => 0))), (q_5, .inl (c_6, 8, .inl (fun _ => 0)))] H := hP
  have hD : va_D A [(h0, .inr (5, [.null, .ref q_1, .ref q_3, .null, .null, .null, .null])), (q_1, .inl (c_2, 8, .inl (fun _ => 0))), (q_3, .inl (c_4, 8, .inl (fun _ => 0))), (q_5, .inl (c_6, 8, .inl (fun _ => 0)))] := hD
  have hK : va_K (dC, dI) vwCl [(c_2, .int), (c_4, .int), (c_6, .int)] s := hK
  refine W.widen (k := 3) (n := 24) (Nat.le_of_ble_eq_true rfl) (Nat.le_of_ble_eq_true rfl) ?_
  refine va_putF (D := (dC, dI)) (ci := 5) (v := .ref q_5) (ty := .array .int) (C := RX5) (T := TX5) (N := 7) hx hb hts hi5 tyX5 tyX5_ok nmX5 hown hK hP hD hS 0 rfl rfl 3 (by decide) (hts (.fieldLink RX5 18 "AskTree$Rules" "must" "[I") (by decide +kernel)) (fun _ h9 => h9) rfl hin rfl (by decide +kernel) rfl rfl (Nat.le_of_ble_eq_true rfl) dX5_init_25 (fun H locs hP hD hS => ?_)
  have hP : va_P (dC, dI) vwCl [(h0, .inr (5, [.null, .ref q_1, .ref q_3, .ref q_5, .null, .null, .null])), (q_1, .inl (c_2, 8, .inl (fun _ => 0))), (q_3, .inl (c_4, 8, .inl (fun _ => 0))), (q_5, .inl (c_6, 8, .inl (fun _ => 0)))] H := hP
  have hD : va_D A [(h0, .inr (5, [.null, .ref q_1, .ref q_3, .ref q_5, .null, .null, .null])), (q_1, .inl (c_2, 8, .inl (fun _ => 0))), (q_3, .inl (c_4, 8, .inl (fun _ => 0))), (q_5, .inl (c_6, 8, .inl (fun _ => 0)))] := hD
  refine lv_aload_n hx hb dX5_init_28 rfl (lv_at hl 0 rfl) ?_
  refine lv_bipush (v := 8) hx hb dX5_init_29 (by decide) ?_
  refine va_newa (atype := .int) (ty := .int) (N' := 8) (a0 := (8, .inl (fun _ => 0))) hx hb (hts (.arrayClass .int) (by decide +kernel)) rfl hK hP hD hS hA (na_I 8) (by decide +kernel) (by decide +kernel) (by decide +kernel) (Nat.le_of_ble_eq_true rfl) (Nat.le_of_ble_eq_true rfl) dX5_init_31 (fun q_7 c_8 H hK hP hD hS => ?_)
  have hP : va_P (dC, dI) vwCl [(h0, .inr (5, [.null, .ref q_1, .ref q_3, .ref q_5, .null, .null, .null])), (q_1, .inl (c_2, 8, .inl (fun _ => 0))), (q_3, .inl (c_4, 8, .inl (fun _ => 0))), (q_5, .inl (c_6, 8, .inl (fun _ => 0))), (q_7, .inl (c_8, 8, .inl (fun _ => 0)))] H := hP
  have hD : va_D A [(h0, .inr (5, [.null, .ref q_1, .ref q_3, .ref q_5, .null, .null, .null])), (q_1, .inl (c_2, 8, .inl (fun _ => 0))), (q_3, .inl (c_4, 8, .inl (fun _ => 0))), (q_5, .inl (c_6, 8, .inl (fun _ => 0))), (q_7, .inl (c_8, 8, .inl (fun _ => 0)))] := hD
  have hK : va_K (dC, dI) vwCl [(c_2, .int), (c_4, .int), (c_6, .int), (c_8, .int)] s := hK
  refine W.widen (k := 4) (n := 32) (Nat.le_of_ble_eq_true rfl) (Nat.le_of_ble_eq_true rfl) ?_
  refine va_putF (D := (dC, dI)) (ci := 5) (v := .ref q_7) (ty := .array .int) (C := RX5) (T := TX5) (N := 7) hx hb hts hi5 tyX5 tyX5_ok nmX5 hown hK hP hD hS 0 rfl rfl 4 (by decide) (hts (.fieldLink RX5 21 "AskTree$Rules" "barredCount" "[I") (by decide +kernel)) (fun _ h9 => h9) rfl hin rfl (by decide +kernel) rfl rfl (Nat.le_of_ble_eq_true rfl) dX5_init_33 (fun H locs hP hD hS => ?_)
  have hP : va_P (dC, dI) vwCl [(h0, .inr (5, [.null, .ref q_1, .ref q_3, .ref q_5, .ref q_7, .null, .null])), (q_1, .inl (c_2, 8, .inl (fun _ => 0))), (q_3, .inl (c_4, 8, .inl (fun _ => 0))), (q_5, .inl (c_6, 8, .inl (fun _ => 0))), (q_7, .inl (c_8, 8, .inl (fun _ => 0)))] H := hP
  have hD : va_D A [(h0, .inr (5, [.null, .ref q_1, .ref q_3, .ref q_5, .ref q_7, .null, .null])), (q_1, .inl (c_2, 8, .inl (fun _ => 0))), (q_3, .inl (c_4, 8, .inl (fun _ => 0))), (q_5, .inl (c_6, 8, .inl (fun _ => 0))), (q_7, .inl (c_8, 8, .inl (fun _ => 0)))] := hD
  refine lv_aload_n hx hb dX5_init_36 rfl (lv_at hl 0 rfl) ?_
  refine lv_bipush (v := 64) hx hb dX5_init_37 (by decide) ?_
  refine va_newa (atype := .int) (ty := .int) (N' := 64) (a0 := (64, .inl (fun _ => 0))) hx hb (hts (.arrayClass .int) (by decide +kernel)) rfl hK hP hD hS hA (na_I 64) (by decide +kernel) (by decide +kernel) (by decide +kernel) (Nat.le_of_ble_eq_true rfl) (Nat.le_of_ble_eq_true rfl) dX5_init_39 (fun q_9 c_10 H hK hP hD hS => ?_)
  have hP : va_P (dC, dI) vwCl [(h0, .inr (5, [.null, .ref q_1, .ref q_3, .ref q_5, .ref q_7, .null, .null])), (q_1, .inl (c_2, 8, .inl (fun _ => 0))), (q_3, .inl (c_4, 8, .inl (fun _ => 0))), (q_5, .inl (c_6, 8, .inl (fun _ => 0))), (q_7, .inl (c_8, 8, .inl (fun _ => 0))), (q_9, .inl (c_10, 64, .inl (fun _ => 0)))] H := hP
  have hD : va_D A [(h0, .inr (5, [.null, .ref q_1, .ref q_3, .ref q_5, .ref q_7, .null, .null])), (q_1, .inl (c_2, 8, .inl (fun _ => 0))), (q_3, .inl (c_4, 8, .inl (fun _ => 0))), (q_5, .inl (c_6, 8, .inl (fun _ => 0))), (q_7, .inl (c_8, 8, .inl (fun _ => 0))), (q_9, .inl (c_10, 64, .inl (fun _ => 0)))] := hD
  have hK : va_K (dC, dI) vwCl [(c_2, .int), (c_4, .int), (c_6, .int), (c_8, .int), (c_10, .int)] s := hK
  refine W.widen (k := 5) (n := 96) (Nat.le_of_ble_eq_true rfl) (Nat.le_of_ble_eq_true rfl) ?_
  refine va_putF (D := (dC, dI)) (ci := 5) (v := .ref q_9) (ty := .array .int) (C := RX5) (T := TX5) (N := 7) hx hb hts hi5 tyX5 tyX5_ok nmX5 hown hK hP hD hS 0 rfl rfl 5 (by decide) (hts (.fieldLink RX5 24 "AskTree$Rules" "barred" "[I") (by decide +kernel)) (fun _ h9 => h9) rfl hin rfl (by decide +kernel) rfl rfl (Nat.le_of_ble_eq_true rfl) dX5_init_41 (fun H locs hP hD hS => ?_)
  have hP : va_P (dC, dI) vwCl [(h0, .inr (5, [.null, .ref q_1, .ref q_3, .ref q_5, .ref q_7, .ref q_9, .null])), (q_1, .inl (c_2, 8, .inl (fun _ => 0))), (q_3, .inl (c_4, 8, .inl (fun _ => 0))), (q_5, .inl (c_6, 8, .inl (fun _ => 0))), (q_7, .inl (c_8, 8, .inl (fun _ => 0))), (q_9, .inl (c_10, 64, .inl (fun _ => 0)))] H := hP
  have hD : va_D A [(h0, .inr (5, [.null, .ref q_1, .ref q_3, .ref q_5, .ref q_7, .ref q_9, .null])), (q_1, .inl (c_2, 8, .inl (fun _ => 0))), (q_3, .inl (c_4, 8, .inl (fun _ => 0))), (q_5, .inl (c_6, 8, .inl (fun _ => 0))), (q_7, .inl (c_8, 8, .inl (fun _ => 0))), (q_9, .inl (c_10, 64, .inl (fun _ => 0)))] := hD
  refine lv_aload_n hx hb dX5_init_44 rfl (lv_at hl 0 rfl) ?_
  refine lv_bipush (v := 8) hx hb dX5_init_45 (by decide) ?_
  refine va_newa (atype := .boolean) (ty := .boolean) (N' := 8) (a0 := (8, .inl (fun _ => 0))) hx hb (hts (.arrayClass .boolean) (by decide +kernel)) rfl hK hP hD hS hA (na_Z 8) (by decide +kernel) (by decide +kernel) (by decide +kernel) (Nat.le_of_ble_eq_true rfl) (Nat.le_of_ble_eq_true rfl) dX5_init_47 (fun q_11 c_12 H hK hP hD hS => ?_)
  have hP : va_P (dC, dI) vwCl [(h0, .inr (5, [.null, .ref q_1, .ref q_3, .ref q_5, .ref q_7, .ref q_9, .null])), (q_1, .inl (c_2, 8, .inl (fun _ => 0))), (q_3, .inl (c_4, 8, .inl (fun _ => 0))), (q_5, .inl (c_6, 8, .inl (fun _ => 0))), (q_7, .inl (c_8, 8, .inl (fun _ => 0))), (q_9, .inl (c_10, 64, .inl (fun _ => 0))), (q_11, .inl (c_12, 8, .inl (fun _ => 0)))] H := hP
  have hD : va_D A [(h0, .inr (5, [.null, .ref q_1, .ref q_3, .ref q_5, .ref q_7, .ref q_9, .null])), (q_1, .inl (c_2, 8, .inl (fun _ => 0))), (q_3, .inl (c_4, 8, .inl (fun _ => 0))), (q_5, .inl (c_6, 8, .inl (fun _ => 0))), (q_7, .inl (c_8, 8, .inl (fun _ => 0))), (q_9, .inl (c_10, 64, .inl (fun _ => 0))), (q_11, .inl (c_12, 8, .inl (fun _ => 0)))] := hD
  have hK : va_K (dC, dI) vwCl [(c_2, .int), (c_4, .int), (c_6, .int), (c_8, .int), (c_10, .int), (c_12, .boolean)] s := hK
  refine W.widen (k := 6) (n := 104) (Nat.le_of_ble_eq_true rfl) (Nat.le_of_ble_eq_true rfl) ?_
  refine va_putF (D := (dC, dI)) (ci := 5) (v := .ref q_11) (ty := .array .boolean) (C := RX5) (T := TX5) (N := 7) hx hb hts hi5 tyX5 tyX5_ok nmX5 hown hK hP hD hS 0 rfl rfl 6 (by decide) (hts (.fieldLink RX5 27 "AskTree$Rules" "clashes" "[Z") (by decide +kernel)) (fun _ h9 => h9) rfl hin rfl (by decide +kernel) rfl rfl (Nat.le_of_ble_eq_true rfl) dX5_init_49 (fun H locs hP hD hS => ?_)
  have hP : va_P (dC, dI) vwCl [(h0, .inr (5, [.null, .ref q_1, .ref q_3, .ref q_5, .ref q_7, .ref q_9, .ref q_11])), (q_1, .inl (c_2, 8, .inl (fun _ => 0))), (q_3, .inl (c_4, 8, .inl (fun _ => 0))), (q_5, .inl (c_6, 8, .inl (fun _ => 0))), (q_7, .inl (c_8, 8, .inl (fun _ => 0))), (q_9, .inl (c_10, 64, .inl (fun _ => 0))), (q_11, .inl (c_12, 8, .inl (fun _ => 0)))] H := hP
  have hD : va_D A [(h0, .inr (5, [.null, .ref q_1, .ref q_3, .ref q_5, .ref q_7, .ref q_9, .ref q_11])), (q_1, .inl (c_2, 8, .inl (fun _ => 0))), (q_3, .inl (c_4, 8, .inl (fun _ => 0))), (q_5, .inl (c_6, 8, .inl (fun _ => 0))), (q_7, .inl (c_8, 8, .inl (fun _ => 0))), (q_9, .inl (c_10, 64, .inl (fun _ => 0))), (q_11, .inl (c_12, 8, .inl (fun _ => 0)))] := hD
  refine lv_aload_n hx hb dX5_init_52 rfl (lv_at hl 0 rfl) ?_
  refine lv_aload_n hx hb dX5_init_53 rfl (lv_at hl 1 rfl) ?_
  refine va_putF (D := (dC, dI)) (ci := 5) (v := .ref h1) (ty := .array .int) (C := RX5) (T := TX5) (N := 7) hx hb hts hi5 tyX5 tyX5_ok nmX5 hown hK hP hD hS 0 rfl rfl 0 (by decide) (hts (.fieldLink RX5 31 "AskTree$Rules" "kinds" "[I") (by decide +kernel)) (fun _ h9 => h9) rfl hin rfl (by decide +kernel) rfl rfl (Nat.le_of_ble_eq_true rfl) dX5_init_54 (fun H locs hP hD hS => ?_)
  have hP : va_P (dC, dI) vwCl [(h0, .inr (5, [.ref h1, .ref q_1, .ref q_3, .ref q_5, .ref q_7, .ref q_9, .ref q_11])), (q_1, .inl (c_2, 8, .inl (fun _ => 0))), (q_3, .inl (c_4, 8, .inl (fun _ => 0))), (q_5, .inl (c_6, 8, .inl (fun _ => 0))), (q_7, .inl (c_8, 8, .inl (fun _ => 0))), (q_9, .inl (c_10, 64, .inl (fun _ => 0))), (q_11, .inl (c_12, 8, .inl (fun _ => 0)))] H := hP
  have hD : va_D A [(h0, .inr (5, [.ref h1, .ref q_1, .ref q_3, .ref q_5, .ref q_7, .ref q_9, .ref q_11])), (q_1, .inl (c_2, 8, .inl (fun _ => 0))), (q_3, .inl (c_4, 8, .inl (fun _ => 0))), (q_5, .inl (c_6, 8, .inl (fun _ => 0))), (q_7, .inl (c_8, 8, .inl (fun _ => 0))), (q_9, .inl (c_10, 64, .inl (fun _ => 0))), (q_11, .inl (c_12, 8, .inl (fun _ => 0)))] := hD
  have hP9 := hP.sub (ws' := [(h0, .inr (5, [.ref h1, .ref q_1, .ref q_3, .ref q_5, .ref q_7, .ref q_9, .ref q_11])), (q_1, .inl (c_2, 8, .inl (fun _ => 0))), (q_3, .inl (c_4, 8, .inl (fun _ => 0))), (q_5, .inl (c_6, 8, .inl (fun _ => 0))), (q_7, .inl (c_8, 8, .inl (fun _ => 0))), (q_9, .inl (c_10, 64, .inl (fun _ => 0))), (q_11, .inl (c_12, 8, .inl (fun _ => 0)))]) [0, 1, 2, 3, 4, 5, 6] rfl
  have hD9 := hD.sub (ws' := [(h0, .inr (5, [.ref h1, .ref q_1, .ref q_3, .ref q_5, .ref q_7, .ref q_9, .ref q_11])), (q_1, .inl (c_2, 8, .inl (fun _ => 0))), (q_3, .inl (c_4, 8, .inl (fun _ => 0))), (q_5, .inl (c_6, 8, .inl (fun _ => 0))), (q_7, .inl (c_8, 8, .inl (fun _ => 0))), (q_9, .inl (c_10, 64, .inl (fun _ => 0))), (q_11, .inl (c_12, 8, .inl (fun _ => 0)))]) [0, 1, 2, 3, 4, 5, 6] (by decide) rfl
  have hK9 := hK.sub (tys' := [(c_2, .int), (c_4, .int), (c_6, .int), (c_8, .int), (c_10, .int), (c_12, .boolean)]) [0, 1, 2, 3, 4, 5] rfl
  refine W.widen (k := 6) (n := 104) (Nat.le_of_ble_eq_true rfl) (Nat.le_of_ble_eq_true rfl) ?_
  exact W.vret hx hb hr (fun t ht hW => ⟨⟨([(h0, .inr (5, [.ref h1, .ref q_1, .ref q_3, .ref q_5, .ref q_7, .ref q_9, .ref q_11])), (q_1, .inl (c_2, 8, .inl (fun _ => 0))), (q_3, .inl (c_4, 8, .inl (fun _ => 0))), (q_5, .inl (c_6, 8, .inl (fun _ => 0))), (q_7, .inl (c_8, 8, .inl (fun _ => 0))), (q_9, .inl (c_10, 64, .inl (fun _ => 0))), (q_11, .inl (c_12, 8, .inl (fun _ => 0)))], [(c_2, .int), (c_4, .int), (c_6, .int), (c_8, .int), (c_10, .int), (c_12, .boolean)]), rfl, ⟨q_1, q_3, q_5, q_7, q_9, q_11, c_2, c_4, c_6, c_8, c_10, c_12, rfl⟩, (by rw [ht]; exact hP9), va_K.moved hW.alike hK9, hD9⟩, hS.F ht⟩) hS.2.2 dX5_init_57

set_option maxHeartbeats 4000000 in
set_option maxRecDepth 100000 in
theorem c_tree_init (l : Launch) (dC : Nat → ClassId) (dI : Nat → Nat → Nat) (sz : Nat) (h0 : Nat)   : Met l yX6_init wsX6_init ({ frames := 1, cells := 6, slots := 4599, locals := 60 }) (va_Pc [.ref h0] (pw (dC, dI) [] [(h0, .inr (6, [.null, .null, .null, .null, .null, .null, .int 0]))] sz)) (va_Qv (fun (u : vu) => (∃ (q_1 : Nat) (q_3 : Nat) (q_5 : Nat) (q_7 : Nat) (q_9 : Nat) (q_11 : Nat) (c_2 : ClassId) (c_4 : ClassId) (c_6 : ClassId) (c_8 : ClassId) (c_10 : ClassId) (c_12 : ClassId), u = ([(h0, .inr (6, [.ref q_1, .ref q_3, .ref q_5, .ref q_7, .ref q_9, .ref q_11, .int 0])), (q_1, .inl (c_2, 511, .inl (fun _ => 0))), (q_3, .inl (c_4, 511, .inl (fun _ => 0))), (q_5, .inl (c_6, 511, .inl (fun _ => 0))), (q_7, .inl (c_8, 511, .inl (fun _ => 0))), (q_9, .inl (c_10, 511, .inl (fun _ => 0))), (q_11, .inl (c_12, 2044, .inl (fun _ => 0)))], [(c_2, .int), (c_4, .int), (c_6, .int), (c_8, .int), (c_10, .int), (c_12, .int)]))) (fun u t => qw (dC, dI) u.2 (va_A [(h0, .inr (6, [.null, .null, .null, .null, .null, .null, .int 0]))] sz) u.1 t) (va_A [(h0, .inr (6, [.null, .null, .null, .null, .null, .null, .int 0]))] sz)) 6 4599 (va_A [(h0, .inr (6, [.null, .null, .null, .null, .null, .null, .int 0]))] sz) := by
  refine Met.ofW (cc := cX6_init) (maxL := 1) (ret := none) (by decide) rfl ?_
  intro p e s m args below meth c s₁ B hml hv
  obtain ⟨rfl, hsz, hP, hK, hD0, hN⟩ := hv
  have hx := B.exec
  have hb := B.bytes
  have hr := B.returns
  have hts := atoms_spec (ws := wsX6_init) B.pre
  have hown : s.vm.findClass RX6 = some m.cls := findClass_of_methodNamed B.named
  have hlocks := B.notSynchronized
  have hin : meth.name = "<init>" := (name_of_methodNamed B.named B.method).1
  have hi6 : ∀ w ∈ u_ws RX6 TX6 7, w ∈ wsX6_init := fun _ h => List.mem_cons_of_mem _ (List.mem_append_right _ h)
  subst hsz
  have hD := hD0.self (sz := s.heap.size)
  generalize hAe : va_A [(h0, .inr (6, [.null, .null, .null, .null, .null, .null, .int 0]))] s.heap.size = A at hD ⊢
  have hA : ∀ q : Nat, s.heap.size ≤ q → A q := fun q h => by rw [← hAe]; exact Or.inr h
  have hS : va_S A s.heap s.heap [] := va_S.rf
  have hl := lv_entry ([.ref h0]) (n := 1) (Nat.le_of_ble_eq_true rfl)
  rw [lg_entry_eq]
  generalize (lg_sl ([.ref h0]) ++ List.replicate (1 - (lg_sl ([.ref h0])).length) Slot.unset).toArray = ls at hl ⊢
  have hl : lv_has ls 1 [(0, .ref h0)] := hl
  have hP : va_P (dC, dI) vwCl [(h0, .inr (6, [.null, .null, .null, .null, .null, .null, .int 0]))] s.heap := hP
  refine lv_aload_n hx hb dX6_init_0 rfl (lv_at hl 0 rfl) ?_
  refine W.objInit hx hb hown (hts (.methodLink RX6 3 objectInit) (by decide +kernel)) (hts (.instanceMethod objectInit) (by decide +kernel)) (hts _ (List.mem_of_getElem? (i := 3) rfl)) rfl (by rw [hml]; exact hl.1) rfl dX6_init_1 (Nat.le_of_ble_eq_true rfl) (Nat.le_of_ble_eq_true rfl) ?_
  refine W.eq (g2 := F0 m 4 ls []) rfl ?_
  refine lv_aload_n hx hb dX6_init_4 rfl (lv_at hl 0 rfl) ?_
  refine lv_sipush (v := 511) hx hb dX6_init_5 (by decide) ?_
  refine va_newa (atype := .int) (ty := .int) (N' := 511) (a0 := (511, .inl (fun _ => 0))) hx hb (hts (.arrayClass .int) (by decide +kernel)) rfl hK hP hD hS hA (na_I 511) (by decide +kernel) (by decide +kernel) (by decide +kernel) (Nat.le_of_ble_eq_true rfl) (Nat.le_of_ble_eq_true rfl) dX6_init_8 (fun q_1 c_2 H hK hP hD hS => ?_)
  have hP : va_P (dC, dI) vwCl [(h0, .inr (6, [.null, .null, .null, .null, .null, .null, .int 0])), (q_1, .inl (c_2, 511, .inl (fun _ => 0)))] H := hP
  have hD : va_D A [(h0, .inr (6, [.null, .null, .null, .null, .null, .null, .int 0])), (q_1, .inl (c_2, 511, .inl (fun _ => 0)))] := hD
  have hK : va_K (dC, dI) vwCl [(c_2, .int)] s := hK
  refine W.widen (k := 1) (n := 511) (Nat.le_of_ble_eq_true rfl) (Nat.le_of_ble_eq_true rfl) ?_
  refine va_putF (D := (dC, dI)) (ci := 6) (v := .ref q_1) (ty := .array .int) (C := RX6) (T := TX6) (N := 7) hx hb hts hi6 tyX6 tyX6_ok nmX6 hown hK hP hD hS 0 rfl rfl 0 (by decide) (hts (.fieldLink RX6 9 "AskTree$Tree" "asked" "[I") (by decide +kernel)) (fun _ h9 => h9) rfl hin rfl (by decide +kernel) rfl rfl (Nat.le_of_ble_eq_true rfl) dX6_init_10 (fun H locs hP hD hS => ?_)
  have hP : va_P (dC, dI) vwCl [(h0, .inr (6, [.ref q_1, .null, .null, .null, .null, .null, .int 0])), (q_1, .inl (c_2, 511, .inl (fun _ => 0)))] H := hP
  have hD : va_D A [(h0, .inr (6, [.ref q_1, .null, .null, .null, .null, .null, .int 0])), (q_1, .inl (c_2, 511, .inl (fun _ => 0)))] := hD
  refine lv_aload_n hx hb dX6_init_13 rfl (lv_at hl 0 rfl) ?_
  refine lv_sipush (v := 511) hx hb dX6_init_14 (by decide) ?_
  refine va_newa (atype := .int) (ty := .int) (N' := 511) (a0 := (511, .inl (fun _ => 0))) hx hb (hts (.arrayClass .int) (by decide +kernel)) rfl hK hP hD hS hA (na_I 511) (by decide +kernel) (by decide +kernel) (by decide +kernel) (Nat.le_of_ble_eq_true rfl) (Nat.le_of_ble_eq_true rfl) dX6_init_17 (fun q_3 c_4 H hK hP hD hS => ?_)
  have hP : va_P (dC, dI) vwCl [(h0, .inr (6, [.ref q_1, .null, .null, .null, .null, .null, .int 0])), (q_1, .inl (c_2, 511, .inl (fun _ => 0))), (q_3, .inl (c_4, 511, .inl (fun _ => 0)))] H := hP
  have hD : va_D A [(h0, .inr (6, [.ref q_1, .null, .null, .null, .null, .null, .int 0])), (q_1, .inl (c_2, 511, .inl (fun _ => 0))), (q_3, .inl (c_4, 511, .inl (fun _ => 0)))] := hD
  have hK : va_K (dC, dI) vwCl [(c_2, .int), (c_4, .int)] s := hK
  refine W.widen (k := 2) (n := 1022) (Nat.le_of_ble_eq_true rfl) (Nat.le_of_ble_eq_true rfl) ?_
  refine va_putF (D := (dC, dI)) (ci := 6) (v := .ref q_3) (ty := .array .int) (C := RX6) (T := TX6) (N := 7) hx hb hts hi6 tyX6 tyX6_ok nmX6 hown hK hP hD hS 0 rfl rfl 1 (by decide) (hts (.fieldLink RX6 15 "AskTree$Tree" "values" "[I") (by decide +kernel)) (fun _ h9 => h9) rfl hin rfl (by decide +kernel) rfl rfl (Nat.le_of_ble_eq_true rfl) dX6_init_19 (fun H locs hP hD hS => ?_)
  have hP : va_P (dC, dI) vwCl [(h0, .inr (6, [.ref q_1, .ref q_3, .null, .null, .null, .null, .int 0])), (q_1, .inl (c_2, 511, .inl (fun _ => 0))), (q_3, .inl (c_4, 511, .inl (fun _ => 0)))] H := hP
  have hD : va_D A [(h0, .inr (6, [.ref q_1, .ref q_3, .null, .null, .null, .null, .int 0])), (q_1, .inl (c_2, 511, .inl (fun _ => 0))), (q_3, .inl (c_4, 511, .inl (fun _ => 0)))] := hD
  refine lv_aload_n hx hb dX6_init_22 rfl (lv_at hl 0 rfl) ?_
  refine lv_sipush (v := 511) hx hb dX6_init_23 (by decide) ?_
  refine va_newa (atype := .int) (ty := .int) (N' := 511) (a0 := (511, .inl (fun _ => 0))) hx hb (hts (.arrayClass .int) (by decide +kernel)) rfl hK hP hD hS hA (na_I 511) (by decide +kernel) (by decide +kernel) (by decide +kernel) (Nat.le_of_ble_eq_true rfl) (Nat.le_of_ble_eq_true rfl) dX6_init_26 (fun q_5 c_6 H hK hP hD hS => ?_)
  have hP : va_P (dC, dI) vwCl [(h0, .inr (6, [.ref q_1, .ref q_3, .null, .null, .null, .null, .int 0])), (q_1, .inl (c_2, 511, .inl (fun _ => 0))), (q_3, .inl (c_4, 511, .inl (fun _ => 0))), (q_5, .inl (c_6, 511, .inl (fun _ => 0)))] H := hP
  have hD : va_D A [(h0, .inr (6, [.ref q_1, .ref q_3, .null, .null, .null, .null, .int 0])), (q_1, .inl (c_2, 511, .inl (fun _ => 0))), (q_3, .inl (c_4, 511, .inl (fun _ => 0))), (q_5, .inl (c_6, 511, .inl (fun _ => 0)))] := hD
  have hK : va_K (dC, dI) vwCl [(c_2, .int), (c_4, .int), (c_6, .int)] s := hK
  refine W.widen (k := 3) (n := 1533) (Nat.le_of_ble_eq_true rfl) (Nat.le_of_ble_eq_true rfl) ?_
  refine va_putF (D := (dC, dI)) (ci := 6) (v := .ref q_5) (ty := .array .int) (C := RX6) (T := TX6) (N := 7) hx hb hts hi6 tyX6 tyX6_ok nmX6 hown hK hP hD hS 0 rfl rfl 2 (by decide) (hts (.fieldLink RX6 18 "AskTree$Tree" "below" "[I") (by decide +kernel)) (fun _ h9 => h9) rfl hin rfl (by decide +kernel) rfl rfl (Nat.le_of_ble_eq_true rfl) dX6_init_28 (fun H locs hP hD hS => ?_)
  have hP : va_P (dC, dI) vwCl [(h0, .inr (6, [.ref q_1, .ref q_3, .ref q_5, .null, .null, .null, .int 0])), (q_1, .inl (c_2, 511, .inl (fun _ => 0))), (q_3, .inl (c_4, 511, .inl (fun _ => 0))), (q_5, .inl (c_6, 511, .inl (fun _ => 0)))] H := hP
  have hD : va_D A [(h0, .inr (6, [.ref q_1, .ref q_3, .ref q_5, .null, .null, .null, .int 0])), (q_1, .inl (c_2, 511, .inl (fun _ => 0))), (q_3, .inl (c_4, 511, .inl (fun _ => 0))), (q_5, .inl (c_6, 511, .inl (fun _ => 0)))] := hD
  refine lv_aload_n hx hb dX6_init_31 rfl (lv_at hl 0 rfl) ?_
  refine lv_sipush (v := 511) hx hb dX6_init_32 (by decide) ?_
  refine va_newa (atype := .int) (ty := .int) (N' := 511) (a0 := (511, .inl (fun _ => 0))) hx hb (hts (.arrayClass .int) (by decide +kernel)) rfl hK hP hD hS hA (na_I 511) (by decide +kernel) (by decide +kernel) (by decide +kernel) (Nat.le_of_ble_eq_true rfl) (Nat.le_of_ble_eq_true rfl) dX6_init_35 (fun q_7 c_8 H hK hP hD hS => ?_)
  have hP : va_P (dC, dI) vwCl [(h0, .inr (6, [.ref q_1, .ref q_3, .ref q_5, .null, .null, .null, .int 0])), (q_1, .inl (c_2, 511, .inl (fun _ => 0))), (q_3, .inl (c_4, 511, .inl (fun _ => 0))), (q_5, .inl (c_6, 511, .inl (fun _ => 0))), (q_7, .inl (c_8, 511, .inl (fun _ => 0)))] H := hP
  have hD : va_D A [(h0, .inr (6, [.ref q_1, .ref q_3, .ref q_5, .null, .null, .null, .int 0])), (q_1, .inl (c_2, 511, .inl (fun _ => 0))), (q_3, .inl (c_4, 511, .inl (fun _ => 0))), (q_5, .inl (c_6, 511, .inl (fun _ => 0))), (q_7, .inl (c_8, 511, .inl (fun _ => 0)))] := hD
  have hK : va_K (dC, dI) vwCl [(c_2, .int), (c_4, .int), (c_6, .int), (c_8, .int)] s := hK
  refine W.widen (k := 4) (n := 2044) (Nat.le_of_ble_eq_true rfl) (Nat.le_of_ble_eq_true rfl) ?_
  refine va_putF (D := (dC, dI)) (ci := 6) (v := .ref q_7) (ty := .array .int) (C := RX6) (T := TX6) (N := 7) hx hb hts hi6 tyX6 tyX6_ok nmX6 hown hK hP hD hS 0 rfl rfl 3 (by decide) (hts (.fieldLink RX6 21 "AskTree$Tree" "ways" "[I") (by decide +kernel)) (fun _ h9 => h9) rfl hin rfl (by decide +kernel) rfl rfl (Nat.le_of_ble_eq_true rfl) dX6_init_37 (fun H locs hP hD hS => ?_)
  have hP : va_P (dC, dI) vwCl [(h0, .inr (6, [.ref q_1, .ref q_3, .ref q_5, .ref q_7, .null, .null, .int 0])), (q_1, .inl (c_2, 511, .inl (fun _ => 0))), (q_3, .inl (c_4, 511, .inl (fun _ => 0))), (q_5, .inl (c_6, 511, .inl (fun _ => 0))), (q_7, .inl (c_8, 511, .inl (fun _ => 0)))] H := hP
  have hD : va_D A [(h0, .inr (6, [.ref q_1, .ref q_3, .ref q_5, .ref q_7, .null, .null, .int 0])), (q_1, .inl (c_2, 511, .inl (fun _ => 0))), (q_3, .inl (c_4, 511, .inl (fun _ => 0))), (q_5, .inl (c_6, 511, .inl (fun _ => 0))), (q_7, .inl (c_8, 511, .inl (fun _ => 0)))] := hD
  refine lv_aload_n hx hb dX6_init_40 rfl (lv_at hl 0 rfl) ?_
  refine lv_sipush (v := 511) hx hb dX6_init_41 (by decide) ?_
  refine va_newa (atype := .int) (ty := .int) (N' := 511) (a0 := (511, .inl (fun _ => 0))) hx hb (hts (.arrayClass .int) (by decide +kernel)) rfl hK hP hD hS hA (na_I 511) (by decide +kernel) (by decide +kernel) (by decide +kernel) (Nat.le_of_ble_eq_true rfl) (Nat.le_of_ble_eq_true rfl) dX6_init_44 (fun q_9 c_10 H hK hP hD hS => ?_)
  have hP : va_P (dC, dI) vwCl [(h0, .inr (6, [.ref q_1, .ref q_3, .ref q_5, .ref q_7, .null, .null, .int 0])), (q_1, .inl (c_2, 511, .inl (fun _ => 0))), (q_3, .inl (c_4, 511, .inl (fun _ => 0))), (q_5, .inl (c_6, 511, .inl (fun _ => 0))), (q_7, .inl (c_8, 511, .inl (fun _ => 0))), (q_9, .inl (c_10, 511, .inl (fun _ => 0)))] H := hP
  have hD : va_D A [(h0, .inr (6, [.ref q_1, .ref q_3, .ref q_5, .ref q_7, .null, .null, .int 0])), (q_1, .inl (c_2, 511, .inl (fun _ => 0))), (q_3, .inl (c_4, 511, .inl (fun _ => 0))), (q_5, .inl (c_6, 511, .inl (fun _ => 0))), (q_7, .inl (c_8, 511, .inl (fun _ => 0))), (q_9, .inl (c_10, 511, .inl (fun _ => 0)))] := hD
  have hK : va_K (dC, dI) vwCl [(c_2, .int), (c_4, .int), (c_6, .int), (c_8, .int), (c_10, .int)] s := hK
  refine W.widen (k := 5) (n := 2555) (Nat.le_of_ble_eq_true rfl) (Nat.le_of_ble_eq_true rfl) ?_
  refine va_putF (D := (dC, dI)) (ci := 6) (v := .ref q_9) (ty := .array .int) (C := RX6) (T := TX6) (N := 7) hx hb hts hi6 tyX6 tyX6_ok nmX6 hown hK hP hD hS 0 rfl rfl 4 (by decide) (hts (.fieldLink RX6 24 "AskTree$Tree" "above" "[I") (by decide +kernel)) (fun _ h9 => h9) rfl hin rfl (by decide +kernel) rfl rfl (Nat.le_of_ble_eq_true rfl) dX6_init_46 (fun H locs hP hD hS => ?_)
  have hP : va_P (dC, dI) vwCl [(h0, .inr (6, [.ref q_1, .ref q_3, .ref q_5, .ref q_7, .ref q_9, .null, .int 0])), (q_1, .inl (c_2, 511, .inl (fun _ => 0))), (q_3, .inl (c_4, 511, .inl (fun _ => 0))), (q_5, .inl (c_6, 511, .inl (fun _ => 0))), (q_7, .inl (c_8, 511, .inl (fun _ => 0))), (q_9, .inl (c_10, 511, .inl (fun _ => 0)))] H := hP
  have hD : va_D A [(h0, .inr (6, [.ref q_1, .ref q_3, .ref q_5, .ref q_7, .ref q_9, .null, .int 0])), (q_1, .inl (c_2, 511, .inl (fun _ => 0))), (q_3, .inl (c_4, 511, .inl (fun _ => 0))), (q_5, .inl (c_6, 511, .inl (fun _ => 0))), (q_7, .inl (c_8, 511, .inl (fun _ => 0))), (q_9, .inl (c_10, 511, .inl (fun _ => 0)))] := hD
  refine lv_aload_n hx hb dX6_init_49 rfl (lv_at hl 0 rfl) ?_
  refine lv_sipush (v := 2044) hx hb dX6_init_50 (by decide) ?_
  refine va_newa (atype := .int) (ty := .int) (N' := 2044) (a0 := (2044, .inl (fun _ => 0))) hx hb (hts (.arrayClass .int) (by decide +kernel)) rfl hK hP hD hS hA (na_I 2044) (by decide +kernel) (by decide +kernel) (by decide +kernel) (Nat.le_of_ble_eq_true rfl) (Nat.le_of_ble_eq_true rfl) dX6_init_53 (fun q_11 c_12 H hK hP hD hS => ?_)
  have hP : va_P (dC, dI) vwCl [(h0, .inr (6, [.ref q_1, .ref q_3, .ref q_5, .ref q_7, .ref q_9, .null, .int 0])), (q_1, .inl (c_2, 511, .inl (fun _ => 0))), (q_3, .inl (c_4, 511, .inl (fun _ => 0))), (q_5, .inl (c_6, 511, .inl (fun _ => 0))), (q_7, .inl (c_8, 511, .inl (fun _ => 0))), (q_9, .inl (c_10, 511, .inl (fun _ => 0))), (q_11, .inl (c_12, 2044, .inl (fun _ => 0)))] H := hP
  have hD : va_D A [(h0, .inr (6, [.ref q_1, .ref q_3, .ref q_5, .ref q_7, .ref q_9, .null, .int 0])), (q_1, .inl (c_2, 511, .inl (fun _ => 0))), (q_3, .inl (c_4, 511, .inl (fun _ => 0))), (q_5, .inl (c_6, 511, .inl (fun _ => 0))), (q_7, .inl (c_8, 511, .inl (fun _ => 0))), (q_9, .inl (c_10, 511, .inl (fun _ => 0))), (q_11, .inl (c_12, 2044, .inl (fun _ => 0)))] := hD
  have hK : va_K (dC, dI) vwCl [(c_2, .int), (c_4, .int), (c_6, .int), (c_8, .int), (c_10, .int), (c_12, .int)] s := hK
  refine W.widen (k := 6) (n := 4599) (Nat.le_of_ble_eq_true rfl) (Nat.le_of_ble_eq_true rfl) ?_
  refine va_putF (D := (dC, dI)) (ci := 6) (v := .ref q_11) (ty := .array .int) (C := RX6) (T := TX6) (N := 7) hx hb hts hi6 tyX6 tyX6_ok nmX6 hown hK hP hD hS 0 rfl rfl 5 (by decide) (hts (.fieldLink RX6 27 "AskTree$Tree" "shares" "[I") (by decide +kernel)) (fun _ h9 => h9) rfl hin rfl (by decide +kernel) rfl rfl (Nat.le_of_ble_eq_true rfl) dX6_init_55 (fun H locs hP hD hS => ?_)
  have hP : va_P (dC, dI) vwCl [(h0, .inr (6, [.ref q_1, .ref q_3, .ref q_5, .ref q_7, .ref q_9, .ref q_11, .int 0])), (q_1, .inl (c_2, 511, .inl (fun _ => 0))), (q_3, .inl (c_4, 511, .inl (fun _ => 0))), (q_5, .inl (c_6, 511, .inl (fun _ => 0))), (q_7, .inl (c_8, 511, .inl (fun _ => 0))), (q_9, .inl (c_10, 511, .inl (fun _ => 0))), (q_11, .inl (c_12, 2044, .inl (fun _ => 0)))] H := hP
  have hD : va_D A [(h0, .inr (6, [.ref q_1, .ref q_3, .ref q_5, .ref q_7, .ref q_9, .ref q_11, .int 0])), (q_1, .inl (c_2, 511, .inl (fun _ => 0))), (q_3, .inl (c_4, 511, .inl (fun _ => 0))), (q_5, .inl (c_6, 511, .inl (fun _ => 0))), (q_7, .inl (c_8, 511, .inl (fun _ => 0))), (q_9, .inl (c_10, 511, .inl (fun _ => 0))), (q_11, .inl (c_12, 2044, .inl (fun _ => 0)))] := hD
  refine lv_aload_n hx hb dX6_init_58 rfl (lv_at hl 0 rfl) ?_
  refine lv_iconst (v := 0) hx hb dX6_init_59 (by decide) ?_
  refine va_put (D := (dC, dI)) (ci := 6) (v := .int 0) (ty := .int) (C := RX6) (T := TX6) (N := 7) hx hb hts hi6 tyX6 tyX6_ok nmX6 hown hK hP hD hS 0 rfl rfl 6 (by decide) (hts (.fieldLink RX6 30 "AskTree$Tree" "size" "I") (by decide +kernel)) (fun _ h9 => h9) rfl (by decide +kernel) rfl rfl (Nat.le_of_ble_eq_true rfl) dX6_init_60 (fun H locs hP hD hS => ?_)
  have hP : va_P (dC, dI) vwCl [(h0, .inr (6, [.ref q_1, .ref q_3, .ref q_5, .ref q_7, .ref q_9, .ref q_11, .int 0])), (q_1, .inl (c_2, 511, .inl (fun _ => 0))), (q_3, .inl (c_4, 511, .inl (fun _ => 0))), (q_5, .inl (c_6, 511, .inl (fun _ => 0))), (q_7, .inl (c_8, 511, .inl (fun _ => 0))), (q_9, .inl (c_10, 511, .inl (fun _ => 0))), (q_11, .inl (c_12, 2044, .inl (fun _ => 0)))] H := hP
  have hD : va_D A [(h0, .inr (6, [.ref q_1, .ref q_3, .ref q_5, .ref q_7, .ref q_9, .ref q_11, .int 0])), (q_1, .inl (c_2, 511, .inl (fun _ => 0))), (q_3, .inl (c_4, 511, .inl (fun _ => 0))), (q_5, .inl (c_6, 511, .inl (fun _ => 0))), (q_7, .inl (c_8, 511, .inl (fun _ => 0))), (q_9, .inl (c_10, 511, .inl (fun _ => 0))), (q_11, .inl (c_12, 2044, .inl (fun _ => 0)))] := hD
  have hP9 := hP.sub (ws' := [(h0, .inr (6, [.ref q_1, .ref q_3, .ref q_5, .ref q_7, .ref q_9, .ref q_11, .int 0])), (q_1, .inl (c_2, 511, .inl (fun _ => 0))), (q_3, .inl (c_4, 511, .inl (fun _ => 0))), (q_5, .inl (c_6, 511, .inl (fun _ => 0))), (q_7, .inl (c_8, 511, .inl (fun _ => 0))), (q_9, .inl (c_10, 511, .inl (fun _ => 0))), (q_11, .inl (c_12, 2044, .inl (fun _ => 0)))]) [0, 1, 2, 3, 4, 5, 6] rfl
  have hD9 := hD.sub (ws' := [(h0, .inr (6, [.ref q_1, .ref q_3, .ref q_5, .ref q_7, .ref q_9, .ref q_11, .int 0])), (q_1, .inl (c_2, 511, .inl (fun _ => 0))), (q_3, .inl (c_4, 511, .inl (fun _ => 0))), (q_5, .inl (c_6, 511, .inl (fun _ => 0))), (q_7, .inl (c_8, 511, .inl (fun _ => 0))), (q_9, .inl (c_10, 511, .inl (fun _ => 0))), (q_11, .inl (c_12, 2044, .inl (fun _ => 0)))]) [0, 1, 2, 3, 4, 5, 6] (by decide) rfl
  have hK9 := hK.sub (tys' := [(c_2, .int), (c_4, .int), (c_6, .int), (c_8, .int), (c_10, .int), (c_12, .int)]) [0, 1, 2, 3, 4, 5] rfl
  refine W.widen (k := 6) (n := 4599) (Nat.le_of_ble_eq_true rfl) (Nat.le_of_ble_eq_true rfl) ?_
  exact W.vret hx hb hr (fun t ht hW => ⟨⟨([(h0, .inr (6, [.ref q_1, .ref q_3, .ref q_5, .ref q_7, .ref q_9, .ref q_11, .int 0])), (q_1, .inl (c_2, 511, .inl (fun _ => 0))), (q_3, .inl (c_4, 511, .inl (fun _ => 0))), (q_5, .inl (c_6, 511, .inl (fun _ => 0))), (q_7, .inl (c_8, 511, .inl (fun _ => 0))), (q_9, .inl (c_10, 511, .inl (fun _ => 0))), (q_11, .inl (c_12, 2044, .inl (fun _ => 0)))], [(c_2, .int), (c_4, .int), (c_6, .int), (c_8, .int), (c_10, .int), (c_12, .int)]), rfl, ⟨q_1, q_3, q_5, q_7, q_9, q_11, c_2, c_4, c_6, c_8, c_10, c_12, rfl⟩, (by rw [ht]; exact hP9), va_K.moved hW.alike hK9, hD9⟩, hS.F ht⟩) hS.2.2 dX6_init_63
end
