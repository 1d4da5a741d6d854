section
-- ===== PART A: goes FIRST, ahead of the names: the tables' words, and 'selects' of the private methods out of them =====
/-- a private method of a class that the tables say can be made, by its rows of tables_1 -/
def lw_okq (q : MethodName × Nat) : Prop := (q.1.cls ≠ "java/lang/invoke/MethodHandle" ∧ q.1.cls ≠ "java/lang/invoke/VarHandle") ∧ Cond.instantiable q.1.cls q.2 ∈ tables_1 ∧ Cond.privateMethod q.1 ∈ tables_1 ∧ Cond.instanceMethod q.1 ∈ tables_1
theorem lw_p0 : lw_okq (⟨"TwoMasks$Layout", "isFree", "(IIIII)Z"⟩, 11) := ⟨⟨by decide +kernel, by decide +kernel⟩, List.mem_of_getElem? (i := 20) (by decide +kernel), List.mem_of_getElem? (i := 251) (by decide +kernel), List.mem_of_getElem? (i := 252) (by decide +kernel)⟩
theorem lw_p1 : lw_okq (⟨"TwoMasks", "layFree", "()V"⟩, 13) := ⟨⟨by decide +kernel, by decide +kernel⟩, List.mem_of_getElem? (i := 12) (by decide +kernel), List.mem_of_getElem? (i := 289) (by decide +kernel), List.mem_of_getElem? (i := 290) (by decide +kernel)⟩
theorem lw_p2 : lw_okq (⟨"TwoMasks", "layAnew", "()V"⟩, 13) := ⟨⟨by decide +kernel, by decide +kernel⟩, List.mem_of_getElem? (i := 12) (by decide +kernel), List.mem_of_getElem? (i := 297) (by decide +kernel), List.mem_of_getElem? (i := 298) (by decide +kernel)⟩
theorem lw_p3 : lw_okq (⟨"TwoMasks$Pieces", "add", "(LTwoMasks$Layout;III)V"⟩, 11) := ⟨⟨by decide +kernel, by decide +kernel⟩, List.mem_of_getElem? (i := 81) (by decide +kernel), List.mem_of_getElem? (i := 309) (by decide +kernel), List.mem_of_getElem? (i := 310) (by decide +kernel)⟩
theorem lw_p4 : lw_okq (⟨"TwoMasks$Pieces", "link", "(I)V"⟩, 11) := ⟨⟨by decide +kernel, by decide +kernel⟩, List.mem_of_getElem? (i := 81) (by decide +kernel), List.mem_of_getElem? (i := 320) (by decide +kernel), List.mem_of_getElem? (i := 321) (by decide +kernel)⟩
theorem lw_p5 : lw_okq (⟨"TwoMasks$Layout", "isCutAt", "(II)Z"⟩, 11) := ⟨⟨by decide +kernel, by decide +kernel⟩, List.mem_of_getElem? (i := 20) (by decide +kernel), List.mem_of_getElem? (i := 380) (by decide +kernel), List.mem_of_getElem? (i := 381) (by decide +kernel)⟩
theorem lw_p6 : lw_okq (⟨"TwoMasks", "bestNow", "()LTwoMasks$Best;"⟩, 13) := ⟨⟨by decide +kernel, by decide +kernel⟩, List.mem_of_getElem? (i := 12) (by decide +kernel), List.mem_of_getElem? (i := 422) (by decide +kernel), List.mem_of_getElem? (i := 423) (by decide +kernel)⟩
theorem lw_p7 : lw_okq (⟨"TwoMasks$Best", "weigh", "(III)V"⟩, 8) := ⟨⟨by decide +kernel, by decide +kernel⟩, List.mem_of_getElem? (i := 142) (by decide +kernel), List.mem_of_getElem? (i := 442) (by decide +kernel), List.mem_of_getElem? (i := 443) (by decide +kernel)⟩
theorem lw_p8 : lw_okq (⟨"TwoMasks$Best", "mayBeOn", "(II)Z"⟩, 8) := ⟨⟨by decide +kernel, by decide +kernel⟩, List.mem_of_getElem? (i := 142) (by decide +kernel), List.mem_of_getElem? (i := 449) (by decide +kernel), List.mem_of_getElem? (i := 450) (by decide +kernel)⟩
theorem lw_p9 : lw_okq (⟨"TwoMasks$Pieces", "clashesWithEarlier", "(II)I"⟩, 11) := ⟨⟨by decide +kernel, by decide +kernel⟩, List.mem_of_getElem? (i := 81) (by decide +kernel), List.mem_of_getElem? (i := 457) (by decide +kernel), List.mem_of_getElem? (i := 458) (by decide +kernel)⟩
theorem lw_p10 : lw_okq (⟨"TwoMasks$Pieces", "stitchWithEarlier", "(II)I"⟩, 11) := ⟨⟨by decide +kernel, by decide +kernel⟩, List.mem_of_getElem? (i := 81) (by decide +kernel), List.mem_of_getElem? (i := 462) (by decide +kernel), List.mem_of_getElem? (i := 463) (by decide +kernel)⟩
theorem lw_p11 : lw_okq (⟨"TwoMasks$Links", "reached", "(II)I"⟩, 1) := ⟨⟨by decide +kernel, by decide +kernel⟩, List.mem_of_getElem? (i := 132) (by decide +kernel), List.mem_of_getElem? (i := 510) (by decide +kernel), List.mem_of_getElem? (i := 511) (by decide +kernel)⟩
theorem lw_p12 : lw_okq (⟨"TwoMasks$Links", "neighbours", "([II)I"⟩, 1) := ⟨⟨by decide +kernel, by decide +kernel⟩, List.mem_of_getElem? (i := 132) (by decide +kernel), List.mem_of_getElem? (i := 514) (by decide +kernel), List.mem_of_getElem? (i := 515) (by decide +kernel)⟩
theorem lw_p13 : lw_okq (⟨"TwoMasks$Links", "oddWalkFrom", "(I)I"⟩, 1) := ⟨⟨by decide +kernel, by decide +kernel⟩, List.mem_of_getElem? (i := 132) (by decide +kernel), List.mem_of_getElem? (i := 522) (by decide +kernel), List.mem_of_getElem? (i := 523) (by decide +kernel)⟩
theorem lw_p14 : lw_okq (⟨"TwoMasks$Links", "isBridge", "(II)Z"⟩, 1) := ⟨⟨by decide +kernel, by decide +kernel⟩, List.mem_of_getElem? (i := 132) (by decide +kernel), List.mem_of_getElem? (i := 539) (by decide +kernel), List.mem_of_getElem? (i := 540) (by decide +kernel)⟩
theorem lw_p15 : lw_okq (⟨"TwoMasks$Links", "isHinge", "(I)Z"⟩, 1) := ⟨⟨by decide +kernel, by decide +kernel⟩, List.mem_of_getElem? (i := 132) (by decide +kernel), List.mem_of_getElem? (i := 547) (by decide +kernel), List.mem_of_getElem? (i := 548) (by decide +kernel)⟩
def lw_privs_1 : List (MethodName × Nat) := [(⟨"TwoMasks$Layout", "isFree", "(IIIII)Z"⟩, 11), (⟨"TwoMasks", "layFree", "()V"⟩, 13), (⟨"TwoMasks", "layAnew", "()V"⟩, 13), (⟨"TwoMasks$Pieces", "add", "(LTwoMasks$Layout;III)V"⟩, 11), (⟨"TwoMasks$Pieces", "link", "(I)V"⟩, 11), (⟨"TwoMasks$Layout", "isCutAt", "(II)Z"⟩, 11), (⟨"TwoMasks", "bestNow", "()LTwoMasks$Best;"⟩, 13), (⟨"TwoMasks$Best", "weigh", "(III)V"⟩, 8), (⟨"TwoMasks$Best", "mayBeOn", "(II)Z"⟩, 8), (⟨"TwoMasks$Pieces", "clashesWithEarlier", "(II)I"⟩, 11), (⟨"TwoMasks$Pieces", "stitchWithEarlier", "(II)I"⟩, 11), (⟨"TwoMasks$Links", "reached", "(II)I"⟩, 1), (⟨"TwoMasks$Links", "neighbours", "([II)I"⟩, 1), (⟨"TwoMasks$Links", "oddWalkFrom", "(I)I"⟩, 1), (⟨"TwoMasks$Links", "isBridge", "(II)Z"⟩, 1), (⟨"TwoMasks$Links", "isHinge", "(I)Z"⟩, 1)]
theorem lw_r1 : ∀ q ∈ lw_privs_1, lw_okq q := List.forall_mem_cons.mpr ⟨lw_p0, List.forall_mem_cons.mpr ⟨lw_p1, List.forall_mem_cons.mpr ⟨lw_p2, List.forall_mem_cons.mpr ⟨lw_p3, List.forall_mem_cons.mpr ⟨lw_p4, List.forall_mem_cons.mpr ⟨lw_p5, List.forall_mem_cons.mpr ⟨lw_p6, List.forall_mem_cons.mpr ⟨lw_p7, List.forall_mem_cons.mpr ⟨lw_p8, List.forall_mem_cons.mpr ⟨lw_p9, List.forall_mem_cons.mpr ⟨lw_p10, List.forall_mem_cons.mpr ⟨lw_p11, List.forall_mem_cons.mpr ⟨lw_p12, List.forall_mem_cons.mpr ⟨lw_p13, List.forall_mem_cons.mpr ⟨lw_p14, List.forall_mem_cons.mpr ⟨lw_p15, fun _ h => absurd h List.not_mem_nil⟩⟩⟩⟩⟩⟩⟩⟩⟩⟩⟩⟩⟩⟩⟩⟩
theorem lw_p16 : lw_okq (⟨"TwoMasks", "toldOfBest", "(I)I"⟩, 13) := ⟨⟨by decide +kernel, by decide +kernel⟩, List.mem_of_getElem? (i := 12) (by decide +kernel), List.mem_of_getElem? (i := 555) (by decide +kernel), List.mem_of_getElem? (i := 556) (by decide +kernel)⟩
theorem lw_p17 : lw_okq (⟨"TwoMasks", "areTwoPieces", "(II)Z"⟩, 13) := ⟨⟨by decide +kernel, by decide +kernel⟩, List.mem_of_getElem? (i := 12) (by decide +kernel), List.mem_of_getElem? (i := 585) (by decide +kernel), List.mem_of_getElem? (i := 586) (by decide +kernel)⟩
theorem lw_p18 : lw_okq (⟨"TwoMasks", "costOfTried", "()I"⟩, 13) := ⟨⟨by decide +kernel, by decide +kernel⟩, List.mem_of_getElem? (i := 12) (by decide +kernel), List.mem_of_getElem? (i := 615) (by decide +kernel), List.mem_of_getElem? (i := 616) (by decide +kernel)⟩
theorem lw_p19 : lw_okq (⟨"TwoMasks", "costWith", "(IIII)I"⟩, 13) := ⟨⟨by decide +kernel, by decide +kernel⟩, List.mem_of_getElem? (i := 12) (by decide +kernel), List.mem_of_getElem? (i := 627) (by decide +kernel), List.mem_of_getElem? (i := 628) (by decide +kernel)⟩
theorem lw_p20 : lw_okq (⟨"TwoMasksModel", "isFree", "(IIIII)Z"⟩, 16) := ⟨⟨by decide +kernel, by decide +kernel⟩, List.mem_of_getElem? (i := 648) (by decide +kernel), List.mem_of_getElem? (i := 716) (by decide +kernel), List.mem_of_getElem? (i := 717) (by decide +kernel)⟩
theorem lw_p21 : lw_okq (⟨"TwoMasksModel", "part", "(II)I"⟩, 16) := ⟨⟨by decide +kernel, by decide +kernel⟩, List.mem_of_getElem? (i := 648) (by decide +kernel), List.mem_of_getElem? (i := 720) (by decide +kernel), List.mem_of_getElem? (i := 721) (by decide +kernel)⟩
theorem lw_p22 : lw_okq (⟨"TwoMasksModel", "isFull", "()Z"⟩, 16) := ⟨⟨by decide +kernel, by decide +kernel⟩, List.mem_of_getElem? (i := 648) (by decide +kernel), List.mem_of_getElem? (i := 728) (by decide +kernel), List.mem_of_getElem? (i := 729) (by decide +kernel)⟩
theorem lw_p23 : lw_okq (⟨"TwoMasksModel", "manyPieces", "()I"⟩, 16) := ⟨⟨by decide +kernel, by decide +kernel⟩, List.mem_of_getElem? (i := 648) (by decide +kernel), List.mem_of_getElem? (i := 732) (by decide +kernel), List.mem_of_getElem? (i := 733) (by decide +kernel)⟩
theorem lw_p24 : lw_okq (⟨"TwoMasksModel", "cutsOf", "(I)I"⟩, 16) := ⟨⟨by decide +kernel, by decide +kernel⟩, List.mem_of_getElem? (i := 648) (by decide +kernel), List.mem_of_getElem? (i := 736) (by decide +kernel), List.mem_of_getElem? (i := 737) (by decide +kernel)⟩
theorem lw_p25 : lw_okq (⟨"TwoMasksModel", "note", "()V"⟩, 16) := ⟨⟨by decide +kernel, by decide +kernel⟩, List.mem_of_getElem? (i := 648) (by decide +kernel), List.mem_of_getElem? (i := 741) (by decide +kernel), List.mem_of_getElem? (i := 742) (by decide +kernel)⟩
theorem lw_p26 : lw_okq (⟨"TwoMasksModel", "free", "()V"⟩, 16) := ⟨⟨by decide +kernel, by decide +kernel⟩, List.mem_of_getElem? (i := 648) (by decide +kernel), List.mem_of_getElem? (i := 745) (by decide +kernel), List.mem_of_getElem? (i := 746) (by decide +kernel)⟩
theorem lw_p27 : lw_okq (⟨"TwoMasksModel", "addShape", "(IIII)V"⟩, 16) := ⟨⟨by decide +kernel, by decide +kernel⟩, List.mem_of_getElem? (i := 648) (by decide +kernel), List.mem_of_getElem? (i := 749) (by decide +kernel), List.mem_of_getElem? (i := 750) (by decide +kernel)⟩
theorem lw_p28 : lw_okq (⟨"TwoMasksModel", "put", "(IIIII)V"⟩, 16) := ⟨⟨by decide +kernel, by decide +kernel⟩, List.mem_of_getElem? (i := 648) (by decide +kernel), List.mem_of_getElem? (i := 753) (by decide +kernel), List.mem_of_getElem? (i := 754) (by decide +kernel)⟩
theorem lw_p29 : lw_okq (⟨"TwoMasksModel", "isShape", "(I)Z"⟩, 16) := ⟨⟨by decide +kernel, by decide +kernel⟩, List.mem_of_getElem? (i := 648) (by decide +kernel), List.mem_of_getElem? (i := 761) (by decide +kernel), List.mem_of_getElem? (i := 762) (by decide +kernel)⟩
theorem lw_p30 : lw_okq (⟨"TwoMasksModel", "mayMove", "(III)Z"⟩, 16) := ⟨⟨by decide +kernel, by decide +kernel⟩, List.mem_of_getElem? (i := 648) (by decide +kernel), List.mem_of_getElem? (i := 774) (by decide +kernel), List.mem_of_getElem? (i := 775) (by decide +kernel)⟩
theorem lw_p31 : lw_okq (⟨"TwoMasksModel", "doMove", "(III)V"⟩, 16) := ⟨⟨by decide +kernel, by decide +kernel⟩, List.mem_of_getElem? (i := 648) (by decide +kernel), List.mem_of_getElem? (i := 778) (by decide +kernel), List.mem_of_getElem? (i := 779) (by decide +kernel)⟩
def lw_privs_2 : List (MethodName × Nat) := [(⟨"TwoMasks", "toldOfBest", "(I)I"⟩, 13), (⟨"TwoMasks", "areTwoPieces", "(II)Z"⟩, 13), (⟨"TwoMasks", "costOfTried", "()I"⟩, 13), (⟨"TwoMasks", "costWith", "(IIII)I"⟩, 13), (⟨"TwoMasksModel", "isFree", "(IIIII)Z"⟩, 16), (⟨"TwoMasksModel", "part", "(II)I"⟩, 16), (⟨"TwoMasksModel", "isFull", "()Z"⟩, 16), (⟨"TwoMasksModel", "manyPieces", "()I"⟩, 16), (⟨"TwoMasksModel", "cutsOf", "(I)I"⟩, 16), (⟨"TwoMasksModel", "note", "()V"⟩, 16), (⟨"TwoMasksModel", "free", "()V"⟩, 16), (⟨"TwoMasksModel", "addShape", "(IIII)V"⟩, 16), (⟨"TwoMasksModel", "put", "(IIIII)V"⟩, 16), (⟨"TwoMasksModel", "isShape", "(I)Z"⟩, 16), (⟨"TwoMasksModel", "mayMove", "(III)Z"⟩, 16), (⟨"TwoMasksModel", "doMove", "(III)V"⟩, 16)]
theorem lw_r2 : ∀ q ∈ lw_privs_2, lw_okq q := List.forall_mem_cons.mpr ⟨lw_p16, List.forall_mem_cons.mpr ⟨lw_p17, List.forall_mem_cons.mpr ⟨lw_p18, List.forall_mem_cons.mpr ⟨lw_p19, List.forall_mem_cons.mpr ⟨lw_p20, List.forall_mem_cons.mpr ⟨lw_p21, List.forall_mem_cons.mpr ⟨lw_p22, List.forall_mem_cons.mpr ⟨lw_p23, List.forall_mem_cons.mpr ⟨lw_p24, List.forall_mem_cons.mpr ⟨lw_p25, List.forall_mem_cons.mpr ⟨lw_p26, List.forall_mem_cons.mpr ⟨lw_p27, List.forall_mem_cons.mpr ⟨lw_p28, List.forall_mem_cons.mpr ⟨lw_p29, List.forall_mem_cons.mpr ⟨lw_p30, List.forall_mem_cons.mpr ⟨lw_p31, fun _ h => absurd h List.not_mem_nil⟩⟩⟩⟩⟩⟩⟩⟩⟩⟩⟩⟩⟩⟩⟩⟩
theorem lw_p32 : lw_okq (⟨"TwoMasksModel", "shapeArea", "(I)I"⟩, 16) := ⟨⟨by decide +kernel, by decide +kernel⟩, List.mem_of_getElem? (i := 648) (by decide +kernel), List.mem_of_getElem? (i := 782) (by decide +kernel), List.mem_of_getElem? (i := 783) (by decide +kernel)⟩
theorem lw_p33 : lw_okq (⟨"TwoMasksModel", "mayCut", "(II)Z"⟩, 16) := ⟨⟨by decide +kernel, by decide +kernel⟩, List.mem_of_getElem? (i := 648) (by decide +kernel), List.mem_of_getElem? (i := 791) (by decide +kernel), List.mem_of_getElem? (i := 792) (by decide +kernel)⟩
theorem lw_p34 : lw_okq (⟨"TwoMasksModel", "doCut", "(II)V"⟩, 16) := ⟨⟨by decide +kernel, by decide +kernel⟩, List.mem_of_getElem? (i := 648) (by decide +kernel), List.mem_of_getElem? (i := 795) (by decide +kernel), List.mem_of_getElem? (i := 796) (by decide +kernel)⟩
theorem lw_p35 : lw_okq (⟨"TwoMasksModel", "costOfBest", "()I"⟩, 16) := ⟨⟨by decide +kernel, by decide +kernel⟩, List.mem_of_getElem? (i := 648) (by decide +kernel), List.mem_of_getElem? (i := 816) (by decide +kernel), List.mem_of_getElem? (i := 817) (by decide +kernel)⟩
theorem lw_p36 : lw_okq (⟨"TwoMasksModel", "judgeAll", "()V"⟩, 16) := ⟨⟨by decide +kernel, by decide +kernel⟩, List.mem_of_getElem? (i := 648) (by decide +kernel), List.mem_of_getElem? (i := 820) (by decide +kernel), List.mem_of_getElem? (i := 821) (by decide +kernel)⟩
theorem lw_p37 : lw_okq (⟨"TwoMasksModel", "lay", "()V"⟩, 16) := ⟨⟨by decide +kernel, by decide +kernel⟩, List.mem_of_getElem? (i := 648) (by decide +kernel), List.mem_of_getElem? (i := 824) (by decide +kernel), List.mem_of_getElem? (i := 825) (by decide +kernel)⟩
theorem lw_p38 : lw_okq (⟨"TwoMasksModel", "addPiece", "(III)V"⟩, 16) := ⟨⟨by decide +kernel, by decide +kernel⟩, List.mem_of_getElem? (i := 648) (by decide +kernel), List.mem_of_getElem? (i := 828) (by decide +kernel), List.mem_of_getElem? (i := 829) (by decide +kernel)⟩
theorem lw_p39 : lw_okq (⟨"TwoMasksModel", "gapOf", "(II)I"⟩, 16) := ⟨⟨by decide +kernel, by decide +kernel⟩, List.mem_of_getElem? (i := 648) (by decide +kernel), List.mem_of_getElem? (i := 832) (by decide +kernel), List.mem_of_getElem? (i := 833) (by decide +kernel)⟩
theorem lw_p40 : lw_okq (⟨"TwoMasksModel", "all", "()I"⟩, 16) := ⟨⟨by decide +kernel, by decide +kernel⟩, List.mem_of_getElem? (i := 648) (by decide +kernel), List.mem_of_getElem? (i := 836) (by decide +kernel), List.mem_of_getElem? (i := 837) (by decide +kernel)⟩
theorem lw_p41 : lw_okq (⟨"TwoMasksModel", "areaOn", "(I)I"⟩, 16) := ⟨⟨by decide +kernel, by decide +kernel⟩, List.mem_of_getElem? (i := 648) (by decide +kernel), List.mem_of_getElem? (i := 840) (by decide +kernel), List.mem_of_getElem? (i := 841) (by decide +kernel)⟩
theorem lw_p42 : lw_okq (⟨"TwoMasksModel", "areaOf", "(I)I"⟩, 16) := ⟨⟨by decide +kernel, by decide +kernel⟩, List.mem_of_getElem? (i := 648) (by decide +kernel), List.mem_of_getElem? (i := 847) (by decide +kernel), List.mem_of_getElem? (i := 848) (by decide +kernel)⟩
theorem lw_p43 : lw_okq (⟨"TwoMasksModel", "areFixed", "(I)Z"⟩, 16) := ⟨⟨by decide +kernel, by decide +kernel⟩, List.mem_of_getElem? (i := 648) (by decide +kernel), List.mem_of_getElem? (i := 851) (by decide +kernel), List.mem_of_getElem? (i := 852) (by decide +kernel)⟩
theorem lw_p44 : lw_okq (⟨"TwoMasksModel", "costOf", "(I)I"⟩, 16) := ⟨⟨by decide +kernel, by decide +kernel⟩, List.mem_of_getElem? (i := 648) (by decide +kernel), List.mem_of_getElem? (i := 855) (by decide +kernel), List.mem_of_getElem? (i := 856) (by decide +kernel)⟩
theorem lw_p45 : lw_okq (⟨"TwoMasksModel", "clashesOf", "(I)I"⟩, 16) := ⟨⟨by decide +kernel, by decide +kernel⟩, List.mem_of_getElem? (i := 648) (by decide +kernel), List.mem_of_getElem? (i := 859) (by decide +kernel), List.mem_of_getElem? (i := 860) (by decide +kernel)⟩
theorem lw_p46 : lw_okq (⟨"TwoMasksModel", "stitchesOf", "(I)I"⟩, 16) := ⟨⟨by decide +kernel, by decide +kernel⟩, List.mem_of_getElem? (i := 648) (by decide +kernel), List.mem_of_getElem? (i := 866) (by decide +kernel), List.mem_of_getElem? (i := 867) (by decide +kernel)⟩
theorem lw_p47 : lw_okq (⟨"TwoMasksModel", "lotOf", "(I)I"⟩, 16) := ⟨⟨by decide +kernel, by decide +kernel⟩, List.mem_of_getElem? (i := 648) (by decide +kernel), List.mem_of_getElem? (i := 883) (by decide +kernel), List.mem_of_getElem? (i := 884) (by decide +kernel)⟩
def lw_privs_3 : List (MethodName × Nat) := [(⟨"TwoMasksModel", "shapeArea", "(I)I"⟩, 16), (⟨"TwoMasksModel", "mayCut", "(II)Z"⟩, 16), (⟨"TwoMasksModel", "doCut", "(II)V"⟩, 16), (⟨"TwoMasksModel", "costOfBest", "()I"⟩, 16), (⟨"TwoMasksModel", "judgeAll", "()V"⟩, 16), (⟨"TwoMasksModel", "lay", "()V"⟩, 16), (⟨"TwoMasksModel", "addPiece", "(III)V"⟩, 16), (⟨"TwoMasksModel", "gapOf", "(II)I"⟩, 16), (⟨"TwoMasksModel", "all", "()I"⟩, 16), (⟨"TwoMasksModel", "areaOn", "(I)I"⟩, 16), (⟨"TwoMasksModel", "areaOf", "(I)I"⟩, 16), (⟨"TwoMasksModel", "areFixed", "(I)Z"⟩, 16), (⟨"TwoMasksModel", "costOf", "(I)I"⟩, 16), (⟨"TwoMasksModel", "clashesOf", "(I)I"⟩, 16), (⟨"TwoMasksModel", "stitchesOf", "(I)I"⟩, 16), (⟨"TwoMasksModel", "lotOf", "(I)I"⟩, 16)]
theorem lw_r3 : ∀ q ∈ lw_privs_3, lw_okq q := List.forall_mem_cons.mpr ⟨lw_p32, List.forall_mem_cons.mpr ⟨lw_p33, List.forall_mem_cons.mpr ⟨lw_p34, List.forall_mem_cons.mpr ⟨lw_p35, List.forall_mem_cons.mpr ⟨lw_p36, List.forall_mem_cons.mpr ⟨lw_p37, List.forall_mem_cons.mpr ⟨lw_p38, List.forall_mem_cons.mpr ⟨lw_p39, List.forall_mem_cons.mpr ⟨lw_p40, List.forall_mem_cons.mpr ⟨lw_p41, List.forall_mem_cons.mpr ⟨lw_p42, List.forall_mem_cons.mpr ⟨lw_p43, List.forall_mem_cons.mpr ⟨lw_p44, List.forall_mem_cons.mpr ⟨lw_p45, List.forall_mem_cons.mpr ⟨lw_p46, List.forall_mem_cons.mpr ⟨lw_p47, fun _ h => absurd h List.not_mem_nil⟩⟩⟩⟩⟩⟩⟩⟩⟩⟩⟩⟩⟩⟩⟩⟩
theorem lw_p48 : lw_okq (⟨"TwoMasksModel", "toldBest", "(I)I"⟩, 16) := ⟨⟨by decide +kernel, by decide +kernel⟩, List.mem_of_getElem? (i := 648) (by decide +kernel), List.mem_of_getElem? (i := 900) (by decide +kernel), List.mem_of_getElem? (i := 901) (by decide +kernel)⟩
theorem lw_p49 : lw_okq (⟨"TwoMasksModel", "toldParts", "(I)I"⟩, 16) := ⟨⟨by decide +kernel, by decide +kernel⟩, List.mem_of_getElem? (i := 648) (by decide +kernel), List.mem_of_getElem? (i := 906) (by decide +kernel), List.mem_of_getElem? (i := 907) (by decide +kernel)⟩
theorem lw_p50 : lw_okq (⟨"TwoMasksModel", "parts", "()I"⟩, 16) := ⟨⟨by decide +kernel, by decide +kernel⟩, List.mem_of_getElem? (i := 648) (by decide +kernel), List.mem_of_getElem? (i := 910) (by decide +kernel), List.mem_of_getElem? (i := 911) (by decide +kernel)⟩
theorem lw_p51 : lw_okq (⟨"TwoMasksModel", "partOf", "(I)I"⟩, 16) := ⟨⟨by decide +kernel, by decide +kernel⟩, List.mem_of_getElem? (i := 648) (by decide +kernel), List.mem_of_getElem? (i := 914) (by decide +kernel), List.mem_of_getElem? (i := 915) (by decide +kernel)⟩
theorem lw_p52 : lw_okq (⟨"TwoMasksModel", "hang", "(IIII)I"⟩, 16) := ⟨⟨by decide +kernel, by decide +kernel⟩, List.mem_of_getElem? (i := 648) (by decide +kernel), List.mem_of_getElem? (i := 918) (by decide +kernel), List.mem_of_getElem? (i := 919) (by decide +kernel)⟩
theorem lw_p53 : lw_okq (⟨"TwoMasksModel", "odd", "(I)I"⟩, 16) := ⟨⟨by decide +kernel, by decide +kernel⟩, List.mem_of_getElem? (i := 648) (by decide +kernel), List.mem_of_getElem? (i := 922) (by decide +kernel), List.mem_of_getElem? (i := 923) (by decide +kernel)⟩
theorem lw_p54 : lw_okq (⟨"TwoMasksModel", "ringOf", "(I)I"⟩, 16) := ⟨⟨by decide +kernel, by decide +kernel⟩, List.mem_of_getElem? (i := 648) (by decide +kernel), List.mem_of_getElem? (i := 926) (by decide +kernel), List.mem_of_getElem? (i := 927) (by decide +kernel)⟩
theorem lw_p55 : lw_okq (⟨"TwoMasksModel", "core", "()I"⟩, 16) := ⟨⟨by decide +kernel, by decide +kernel⟩, List.mem_of_getElem? (i := 648) (by decide +kernel), List.mem_of_getElem? (i := 930) (by decide +kernel), List.mem_of_getElem? (i := 931) (by decide +kernel)⟩
theorem lw_p56 : lw_okq (⟨"TwoMasksModel", "bridges", "()I"⟩, 16) := ⟨⟨by decide +kernel, by decide +kernel⟩, List.mem_of_getElem? (i := 648) (by decide +kernel), List.mem_of_getElem? (i := 934) (by decide +kernel), List.mem_of_getElem? (i := 935) (by decide +kernel)⟩
theorem lw_p57 : lw_okq (⟨"TwoMasksModel", "hinges", "()I"⟩, 16) := ⟨⟨by decide +kernel, by decide +kernel⟩, List.mem_of_getElem? (i := 648) (by decide +kernel), List.mem_of_getElem? (i := 938) (by decide +kernel), List.mem_of_getElem? (i := 939) (by decide +kernel)⟩
theorem lw_p58 : lw_okq (⟨"TwoMasksModel", "closePairs", "()I"⟩, 16) := ⟨⟨by decide +kernel, by decide +kernel⟩, List.mem_of_getElem? (i := 648) (by decide +kernel), List.mem_of_getElem? (i := 942) (by decide +kernel), List.mem_of_getElem? (i := 943) (by decide +kernel)⟩
theorem lw_p59 : lw_okq (⟨"TwoMasksModel", "fixedSet", "()I"⟩, 16) := ⟨⟨by decide +kernel, by decide +kernel⟩, List.mem_of_getElem? (i := 648) (by decide +kernel), List.mem_of_getElem? (i := 946) (by decide +kernel), List.mem_of_getElem? (i := 947) (by decide +kernel)⟩
theorem lw_p60 : lw_okq (⟨"TwoMasksModel", "firstPiece", "(I)I"⟩, 16) := ⟨⟨by decide +kernel, by decide +kernel⟩, List.mem_of_getElem? (i := 648) (by decide +kernel), List.mem_of_getElem? (i := 954) (by decide +kernel), List.mem_of_getElem? (i := 955) (by decide +kernel)⟩
theorem lw_p61 : lw_okq (⟨"TwoMasksModel", "areTwo", "(II)Z"⟩, 16) := ⟨⟨by decide +kernel, by decide +kernel⟩, List.mem_of_getElem? (i := 648) (by decide +kernel), List.mem_of_getElem? (i := 966) (by decide +kernel), List.mem_of_getElem? (i := 967) (by decide +kernel)⟩
theorem lw_p62 : lw_okq (⟨"TwoMasksModel", "putAside", "(Z)V"⟩, 16) := ⟨⟨by decide +kernel, by decide +kernel⟩, List.mem_of_getElem? (i := 648) (by decide +kernel), List.mem_of_getElem? (i := 982) (by decide +kernel), List.mem_of_getElem? (i := 983) (by decide +kernel)⟩
def lw_privs_4 : List (MethodName × Nat) := [(⟨"TwoMasksModel", "toldBest", "(I)I"⟩, 16), (⟨"TwoMasksModel", "toldParts", "(I)I"⟩, 16), (⟨"TwoMasksModel", "parts", "()I"⟩, 16), (⟨"TwoMasksModel", "partOf", "(I)I"⟩, 16), (⟨"TwoMasksModel", "hang", "(IIII)I"⟩, 16), (⟨"TwoMasksModel", "odd", "(I)I"⟩, 16), (⟨"TwoMasksModel", "ringOf", "(I)I"⟩, 16), (⟨"TwoMasksModel", "core", "()I"⟩, 16), (⟨"TwoMasksModel", "bridges", "()I"⟩, 16), (⟨"TwoMasksModel", "hinges", "()I"⟩, 16), (⟨"TwoMasksModel", "closePairs", "()I"⟩, 16), (⟨"TwoMasksModel", "fixedSet", "()I"⟩, 16), (⟨"TwoMasksModel", "firstPiece", "(I)I"⟩, 16), (⟨"TwoMasksModel", "areTwo", "(II)Z"⟩, 16), (⟨"TwoMasksModel", "putAside", "(Z)V"⟩, 16)]
theorem lw_r4 : ∀ q ∈ lw_privs_4, lw_okq q := List.forall_mem_cons.mpr ⟨lw_p48, List.forall_mem_cons.mpr ⟨lw_p49, List.forall_mem_cons.mpr ⟨lw_p50, List.forall_mem_cons.mpr ⟨lw_p51, List.forall_mem_cons.mpr ⟨lw_p52, List.forall_mem_cons.mpr ⟨lw_p53, List.forall_mem_cons.mpr ⟨lw_p54, List.forall_mem_cons.mpr ⟨lw_p55, List.forall_mem_cons.mpr ⟨lw_p56, List.forall_mem_cons.mpr ⟨lw_p57, List.forall_mem_cons.mpr ⟨lw_p58, List.forall_mem_cons.mpr ⟨lw_p59, List.forall_mem_cons.mpr ⟨lw_p60, List.forall_mem_cons.mpr ⟨lw_p61, List.forall_mem_cons.mpr ⟨lw_p62, fun _ h => absurd h List.not_mem_nil⟩⟩⟩⟩⟩⟩⟩⟩⟩⟩⟩⟩⟩⟩⟩
def lw_privs : List (MethodName × Nat) := lw_privs_1 ++ (lw_privs_2 ++ (lw_privs_3 ++ (lw_privs_4)))
def lw_tbl : List Cond := k2_sels lw_privs ++ tables_1
theorem lw_privs_ok : ∀ q ∈ lw_privs, lw_okq q := by
  show ∀ q ∈ lw_privs_1 ++ (lw_privs_2 ++ (lw_privs_3 ++ (lw_privs_4))), lw_okq q
  exact List.forall_mem_append.mpr ⟨lw_r1, List.forall_mem_append.mpr ⟨lw_r2, List.forall_mem_append.mpr ⟨lw_r3, lw_r4⟩⟩⟩
/-- the words that stay good along calls -/
def zT : List Cond := lw_tbl.filter goodWord
theorem zT_in {w : Cond} (i : Nat) (h : lw_tbl[i]? = some w) (g : goodWord w = true) : w ∈ zT := List.mem_filter.mpr ⟨List.mem_of_getElem? h, g⟩
theorem zT_good {ws : List Cond} (h : ∀ w ∈ ws, w ∈ zT) : GoodIn zT ws := fun w hw => ⟨h w hw, good_of_word (List.mem_filter.mp (h w hw)).2⟩
theorem zT_sub : ∀ w ∈ zT, w ∈ lw_tbl := fun w h => (List.mem_filter.mp h).1
end
section
def RX0 : String := "TwoMasks$Best"
def TX0 : u_T := fun k => match k with
  | 0 => ("TwoMasks$Best", "pieces", "LTwoMasks$Pieces;", true)
  | 1 => ("TwoMasks$Best", "fixed", "I", false)
  | 2 => ("TwoMasks$Best", "fixedOnes", "I", false)
  | 3 => ("TwoMasks$Best", "uneven", "I", false)
  | 4 => ("TwoMasks$Best", "wholeArea", "I", false)
  | 5 => ("TwoMasks$Best", "cost", "I", false)
  | 6 => ("TwoMasks$Best", "ways", "I", false)
  | _ => ("TwoMasks$Best", "ones", "I", false)
def tyX0 : Nat → FieldType := fun k => match k with
  | 0 => .object "TwoMasks$Pieces"
  | 1 => .int
  | 2 => .int
  | 3 => .int
  | 4 => .int
  | 5 => .int
  | 6 => .int
  | _ => .int
theorem nmX0 : ∀ a, a < 8 → ∀ b, b < 8 → a ≠ b → (TX0 a).2.1 ≠ (TX0 b).2.1 := by decide +kernel
theorem tyX0_ok : ∀ k, k < 8 → parseFieldDescriptor (TX0 k).2.2.1 = some (tyX0 k) := by decide +kernel
abbrev cX0_init : ByteArray := prog_2_method_1_code
def yX0_init : MethodName := ⟨RX0, "<init>", "(LTwoMasks$Pieces;)V"⟩
abbrev cX0_find : ByteArray := prog_2_method_2_code
def yX0_find : MethodName := ⟨RX0, "find", "(II)V"⟩
abbrev cX0_search : ByteArray := prog_2_method_3_code
def yX0_search : MethodName := ⟨RX0, "search", "(LTwoMasks$Best;IIII)V"⟩
abbrev cX0_mayBeOn : ByteArray := prog_2_method_4_code
def yX0_mayBeOn : MethodName := ⟨RX0, "mayBeOn", "(II)Z"⟩
abbrev cX0_weigh : ByteArray := prog_2_method_5_code
def yX0_weigh : MethodName := ⟨RX0, "weigh", "(III)V"⟩
def RX1 : String := "TwoMasks$History"
def TX1 : u_T := fun k => match k with
  | 0 => ("TwoMasks$History", "ring", "[LTwoMasks$Layout;", true)
  | 1 => ("TwoMasks$History", "next", "I", false)
  | _ => ("TwoMasks$History", "count", "I", false)
def tyX1 : Nat → FieldType := fun k => match k with
  | 0 => .array (.object "TwoMasks$Layout")
  | 1 => .int
  | _ => .int
theorem nmX1 : ∀ a, a < 3 → ∀ b, b < 3 → a ≠ b → (TX1 a).2.1 ≠ (TX1 b).2.1 := by decide +kernel
theorem tyX1_ok : ∀ k, k < 3 → parseFieldDescriptor (TX1 k).2.2.1 = some (tyX1 k) := by decide +kernel
abbrev cX1_init : ByteArray := prog_3_method_1_code
def yX1_init : MethodName := ⟨RX1, "<init>", "()V"⟩
abbrev cX1_remember : ByteArray := prog_3_method_2_code
def yX1_remember : MethodName := ⟨RX1, "remember", "(LTwoMasks$Layout;)V"⟩
abbrev cX1_recall : ByteArray := prog_3_method_3_code
def yX1_recall : MethodName := ⟨RX1, "recall", "(LTwoMasks$Layout;)V"⟩
abbrev cX1_forget : ByteArray := prog_3_method_4_code
def yX1_forget : MethodName := ⟨RX1, "forget", "()V"⟩
def RX2 : String := "TwoMasks$Layout"
def TX2 : u_T := fun k => match k with
  | 0 => ("TwoMasks$Layout", "x", "[I", true)
  | 1 => ("TwoMasks$Layout", "y", "[I", true)
  | 2 => ("TwoMasks$Layout", "x2", "[I", true)
  | 3 => ("TwoMasks$Layout", "y2", "[I", true)
  | 4 => ("TwoMasks$Layout", "cuts", "[I", true)
  | 5 => ("TwoMasks$Layout", "shapes", "I", false)
  | 6 => ("TwoMasks$Layout", "distance", "I", false)
  | 7 => ("TwoMasks$Layout", "stitch", "I", false)
  | 8 => ("TwoMasks$Layout", "clash", "I", false)
  | 9 => ("TwoMasks$Layout", "fixed", "I", false)
  | _ => ("TwoMasks$Layout", "fixedOnes", "I", false)
def tyX2 : Nat → FieldType := fun k => match k with
  | 0 => .array .int
  | 1 => .array .int
  | 2 => .array .int
  | 3 => .array .int
  | 4 => .array .int
  | 5 => .int
  | 6 => .int
  | 7 => .int
  | 8 => .int
  | 9 => .int
  | _ => .int
theorem nmX2 : ∀ a, a < 11 → ∀ b, b < 11 → a ≠ b → (TX2 a).2.1 ≠ (TX2 b).2.1 := by decide +kernel
theorem tyX2_ok : ∀ k, k < 11 → parseFieldDescriptor (TX2 k).2.2.1 = some (tyX2 k) := by decide +kernel
abbrev cX2_init : ByteArray := prog_4_method_1_code
def yX2_init : MethodName := ⟨RX2, "<init>", "()V"⟩
abbrev cX2_become : ByteArray := prog_4_method_2_code
def yX2_become : MethodName := ⟨RX2, "become", "(LTwoMasks$Layout;)V"⟩
abbrev cX2_hasShape : ByteArray := prog_4_method_3_code
def yX2_hasShape : MethodName := ⟨RX2, "hasShape", "(I)Z"⟩
abbrev cX2_piecesAhead : ByteArray := prog_4_method_4_code
def yX2_piecesAhead : MethodName := ⟨RX2, "piecesAhead", "(I)I"⟩
abbrev cX2_isFull : ByteArray := prog_4_method_5_code
def yX2_isFull : MethodName := ⟨RX2, "isFull", "()Z"⟩
abbrev cX2_areaOf : ByteArray := prog_4_method_6_code
def yX2_areaOf : MethodName := ⟨RX2, "areaOf", "(I)I"⟩
abbrev cX2_refusalOfNew : ByteArray := prog_4_method_7_code
def yX2_refusalOfNew : MethodName := ⟨RX2, "refusalOfNew", "(IIII)I"⟩
abbrev cX2_putNew : ByteArray := prog_4_method_8_code
def yX2_putNew : MethodName := ⟨RX2, "putNew", "(IIII)V"⟩
abbrev cX2_takeAway : ByteArray := prog_4_method_9_code
def yX2_takeAway : MethodName := ⟨RX2, "takeAway", "(I)V"⟩
abbrev cX2_refusalOfStep : ByteArray := prog_4_method_10_code
def yX2_refusalOfStep : MethodName := ⟨RX2, "refusalOfStep", "(III)I"⟩
abbrev cX2_step : ByteArray := prog_4_method_11_code
def yX2_step : MethodName := ⟨RX2, "step", "(III)V"⟩
abbrev cX2_refusalOfCut : ByteArray := prog_4_method_12_code
def yX2_refusalOfCut : MethodName := ⟨RX2, "refusalOfCut", "(II)I"⟩
abbrev cX2_refusalOfHealing : ByteArray := prog_4_method_13_code
def yX2_refusalOfHealing : MethodName := ⟨RX2, "refusalOfHealing", "(II)I"⟩
abbrev cX2_mirror : ByteArray := prog_4_method_14_code
def yX2_mirror : MethodName := ⟨RX2, "mirror", "()V"⟩
abbrev cX2_isBound : ByteArray := prog_4_method_15_code
def yX2_isBound : MethodName := ⟨RX2, "isBound", "(II)Z"⟩
abbrev cX2_boundOf : ByteArray := prog_4_method_16_code
def yX2_boundOf : MethodName := ⟨RX2, "boundOf", "(I)I"⟩
abbrev cX2_setBound : ByteArray := prog_4_method_17_code
def yX2_setBound : MethodName := ⟨RX2, "setBound", "(II)V"⟩
abbrev cX2_fixedMaskOf : ByteArray := prog_4_method_18_code
def yX2_fixedMaskOf : MethodName := ⟨RX2, "fixedMaskOf", "(I)I"⟩
abbrev cX2_canBeOn : ByteArray := prog_4_method_19_code
def yX2_canBeOn : MethodName := ⟨RX2, "canBeOn", "(II)Z"⟩
abbrev cX2_setFixed : ByteArray := prog_4_method_20_code
def yX2_setFixed : MethodName := ⟨RX2, "setFixed", "(II)V"⟩
abbrev cX2_freeAll : ByteArray := prog_4_method_21_code
def yX2_freeAll : MethodName := ⟨RX2, "freeAll", "()V"⟩
abbrev cX2_isFree : ByteArray := prog_4_method_22_code
def yX2_isFree : MethodName := ⟨RX2, "isFree", "(IIIII)Z"⟩
abbrev cX2_isCutAt : ByteArray := prog_4_method_23_code
def yX2_isCutAt : MethodName := ⟨RX2, "isCutAt", "(II)Z"⟩
abbrev cX2_isOnField : ByteArray := prog_4_method_24_code
def yX2_isOnField : MethodName := ⟨RX2, "isOnField", "(IIII)Z"⟩
abbrev cX2_isStep : ByteArray := prog_4_method_25_code
def yX2_isStep : MethodName := ⟨RX2, "isStep", "(I)Z"⟩
abbrev cX2_isCutPlace : ByteArray := prog_4_method_26_code
def yX2_isCutPlace : MethodName := ⟨RX2, "isCutPlace", "(I)Z"⟩
abbrev cX2_mirrored : ByteArray := prog_4_method_27_code
def yX2_mirrored : MethodName := ⟨RX2, "mirrored", "(I)I"⟩
def RX3 : String := "TwoMasks$Links"
def TX3 : u_T := fun k => match k with
  | _ => ("TwoMasks$Links", "pieces", "LTwoMasks$Pieces;", true)
def tyX3 : Nat → FieldType := fun k => match k with
  | _ => .object "TwoMasks$Pieces"
theorem nmX3 : ∀ a, a < 1 → ∀ b, b < 1 → a ≠ b → (TX3 a).2.1 ≠ (TX3 b).2.1 := by decide +kernel
theorem tyX3_ok : ∀ k, k < 1 → parseFieldDescriptor (TX3 k).2.2.1 = some (tyX3 k) := by decide +kernel
abbrev cX3_init : ByteArray := prog_5_method_1_code
def yX3_init : MethodName := ⟨RX3, "<init>", "(LTwoMasks$Pieces;)V"⟩
abbrev cX3_partOf : ByteArray := prog_5_method_2_code
def yX3_partOf : MethodName := ⟨RX3, "partOf", "(I)I"⟩
abbrev cX3_parts : ByteArray := prog_5_method_3_code
def yX3_parts : MethodName := ⟨RX3, "parts", "()I"⟩
abbrev cX3_oddParts : ByteArray := prog_5_method_4_code
def yX3_oddParts : MethodName := ⟨RX3, "oddParts", "()I"⟩
abbrev cX3_shortestOddRing : ByteArray := prog_5_method_5_code
def yX3_shortestOddRing : MethodName := ⟨RX3, "shortestOddRing", "()I"⟩
abbrev cX3_core : ByteArray := prog_5_method_6_code
def yX3_core : MethodName := ⟨RX3, "core", "()I"⟩
abbrev cX3_bridges : ByteArray := prog_5_method_7_code
def yX3_bridges : MethodName := ⟨RX3, "bridges", "()I"⟩
abbrev cX3_hinges : ByteArray := prog_5_method_8_code
def yX3_hinges : MethodName := ⟨RX3, "hinges", "()I"⟩
abbrev cX3_isBridge : ByteArray := prog_5_method_9_code
def yX3_isBridge : MethodName := ⟨RX3, "isBridge", "(II)Z"⟩
abbrev cX3_isHinge : ByteArray := prog_5_method_10_code
def yX3_isHinge : MethodName := ⟨RX3, "isHinge", "(I)Z"⟩
abbrev cX3_oddWalkFrom : ByteArray := prog_5_method_11_code
def yX3_oddWalkFrom : MethodName := ⟨RX3, "oddWalkFrom", "(I)I"⟩
abbrev cX3_reached : ByteArray := prog_5_method_12_code
def yX3_reached : MethodName := ⟨RX3, "reached", "(II)I"⟩
abbrev cX3_neighbours : ByteArray := prog_5_method_13_code
def yX3_neighbours : MethodName := ⟨RX3, "neighbours", "([II)I"⟩
def RX4 : String := "TwoMasks$Pieces"
def TX4 : u_T := fun k => match k with
  | 0 => ("TwoMasks$Pieces", "shape", "[I", true)
  | 1 => ("TwoMasks$Pieces", "x", "[I", true)
  | 2 => ("TwoMasks$Pieces", "x2", "[I", true)
  | 3 => ("TwoMasks$Pieces", "area", "[I", true)
  | 4 => ("TwoMasks$Pieces", "close", "[I", true)
  | 5 => ("TwoMasks$Pieces", "linked", "[I", true)
  | 6 => ("TwoMasks$Pieces", "y", "[I", true)
  | 7 => ("TwoMasks$Pieces", "y2", "[I", true)
  | 8 => ("TwoMasks$Pieces", "count", "I", false)
  | 9 => ("TwoMasks$Pieces", "stitch", "I", false)
  | _ => ("TwoMasks$Pieces", "clash", "I", false)
def tyX4 : Nat → FieldType := fun k => match k with
  | 0 => .array .int
  | 1 => .array .int
  | 2 => .array .int
  | 3 => .array .int
  | 4 => .array .int
  | 5 => .array .int
  | 6 => .array .int
  | 7 => .array .int
  | 8 => .int
  | 9 => .int
  | _ => .int
theorem nmX4 : ∀ a, a < 11 → ∀ b, b < 11 → a ≠ b → (TX4 a).2.1 ≠ (TX4 b).2.1 := by decide +kernel
theorem tyX4_ok : ∀ k, k < 11 → parseFieldDescriptor (TX4 k).2.2.1 = some (tyX4 k) := by decide +kernel
abbrev cX4_init : ByteArray := prog_6_method_1_code
def yX4_init : MethodName := ⟨RX4, "<init>", "()V"⟩
abbrev cX4_lay : ByteArray := prog_6_method_2_code
def yX4_lay : MethodName := ⟨RX4, "lay", "(LTwoMasks$Layout;)V"⟩
abbrev cX4_has : ByteArray := prog_6_method_3_code
def yX4_has : MethodName := ⟨RX4, "has", "(I)Z"⟩
abbrev cX4_all : ByteArray := prog_6_method_4_code
def yX4_all : MethodName := ⟨RX4, "all", "()I"⟩
abbrev cX4_gapOf : ByteArray := prog_6_method_5_code
def yX4_gapOf : MethodName := ⟨RX4, "gapOf", "(II)I"⟩
abbrev cX4_pieceAt : ByteArray := prog_6_method_6_code
def yX4_pieceAt : MethodName := ⟨RX4, "pieceAt", "(II)I"⟩
abbrev cX4_closePairs : ByteArray := prog_6_method_7_code
def yX4_closePairs : MethodName := ⟨RX4, "closePairs", "()I"⟩
abbrev cX4_areaOf : ByteArray := prog_6_method_8_code
def yX4_areaOf : MethodName := ⟨RX4, "areaOf", "(I)I"⟩
abbrev cX4_costOf : ByteArray := prog_6_method_9_code
def yX4_costOf : MethodName := ⟨RX4, "costOf", "(I)I"⟩
abbrev cX4_clashesOf : ByteArray := prog_6_method_10_code
def yX4_clashesOf : MethodName := ⟨RX4, "clashesOf", "(I)I"⟩
abbrev cX4_stitchesOf : ByteArray := prog_6_method_11_code
def yX4_stitchesOf : MethodName := ⟨RX4, "stitchesOf", "(I)I"⟩
abbrev cX4_costWithEarlier : ByteArray := prog_6_method_12_code
def yX4_costWithEarlier : MethodName := ⟨RX4, "costWithEarlier", "(II)I"⟩
abbrev cX4_clashesWithEarlier : ByteArray := prog_6_method_13_code
def yX4_clashesWithEarlier : MethodName := ⟨RX4, "clashesWithEarlier", "(II)I"⟩
abbrev cX4_stitchWithEarlier : ByteArray := prog_6_method_14_code
def yX4_stitchWithEarlier : MethodName := ⟨RX4, "stitchWithEarlier", "(II)I"⟩
abbrev cX4_add : ByteArray := prog_6_method_15_code
def yX4_add : MethodName := ⟨RX4, "add", "(LTwoMasks$Layout;III)V"⟩
abbrev cX4_link : ByteArray := prog_6_method_16_code
def yX4_link : MethodName := ⟨RX4, "link", "(I)V"⟩
abbrev cX4_stepsBetween : ByteArray := prog_6_method_17_code
def yX4_stepsBetween : MethodName := ⟨RX4, "stepsBetween", "(IIII)I"⟩
def RX5 : String := "TwoMasks"
def TX5 : u_T := fun k => match k with
  | 0 => ("TwoMasks", "now", "LTwoMasks$Layout;", true)
  | 1 => ("TwoMasks", "pieces", "LTwoMasks$Pieces;", true)
  | 2 => ("TwoMasks", "links", "LTwoMasks$Links;", true)
  | 3 => ("TwoMasks", "best", "LTwoMasks$Best;", true)
  | 4 => ("TwoMasks", "bestIsKnown", "Z", false)
  | 5 => ("TwoMasks", "tried", "LTwoMasks$Layout;", true)
  | 6 => ("TwoMasks", "triedPieces", "LTwoMasks$Pieces;", true)
  | 7 => ("TwoMasks", "triedBest", "LTwoMasks$Best;", true)
  | 8 => ("TwoMasks", "history", "LTwoMasks$History;", true)
  | 9 => ("TwoMasks", "firstImage", "LTwoMasks$Layout;", true)
  | 10 => ("TwoMasks", "secondImage", "LTwoMasks$Layout;", true)
  | 11 => ("TwoMasks", "firstIsKept", "Z", false)
  | _ => ("TwoMasks", "secondIsKept", "Z", false)
def tyX5 : Nat → FieldType := fun k => match k with
  | 0 => .object "TwoMasks$Layout"
  | 1 => .object "TwoMasks$Pieces"
  | 2 => .object "TwoMasks$Links"
  | 3 => .object "TwoMasks$Best"
  | 4 => .boolean
  | 5 => .object "TwoMasks$Layout"
  | 6 => .object "TwoMasks$Pieces"
  | 7 => .object "TwoMasks$Best"
  | 8 => .object "TwoMasks$History"
  | 9 => .object "TwoMasks$Layout"
  | 10 => .object "TwoMasks$Layout"
  | 11 => .boolean
  | _ => .boolean
theorem nmX5 : ∀ a, a < 13 → ∀ b, b < 13 → a ≠ b → (TX5 a).2.1 ≠ (TX5 b).2.1 := by decide +kernel
theorem tyX5_ok : ∀ k, k < 13 → parseFieldDescriptor (TX5 k).2.2.1 = some (tyX5 k) := by decide +kernel
abbrev cX5_init : ByteArray := prog_1_method_1_code
def yX5_init : MethodName := ⟨RX5, "<init>", "()V"⟩
abbrev cX5_shape : ByteArray := prog_1_method_2_code
def yX5_shape : MethodName := ⟨RX5, "shape", "(IIII)I"⟩
abbrev cX5_drop : ByteArray := prog_1_method_3_code
def yX5_drop : MethodName := ⟨RX5, "drop", "(I)I"⟩
abbrev cX5_move : ByteArray := prog_1_method_4_code
def yX5_move : MethodName := ⟨RX5, "move", "(III)I"⟩
abbrev cX5_cut : ByteArray := prog_1_method_5_code
def yX5_cut : MethodName := ⟨RX5, "cut", "(II)I"⟩
abbrev cX5_heal : ByteArray := prog_1_method_6_code
def yX5_heal : MethodName := ⟨RX5, "heal", "(II)I"⟩
abbrev cX5_bound : ByteArray := prog_1_method_7_code
def yX5_bound : MethodName := ⟨RX5, "bound", "(II)I"⟩
abbrev cX5_fix : ByteArray := prog_1_method_8_code
def yX5_fix : MethodName := ⟨RX5, "fix", "(II)I"⟩
abbrev cX5_turn : ByteArray := prog_1_method_9_code
def yX5_turn : MethodName := ⟨RX5, "turn", "()I"⟩
abbrev cX5_drift : ByteArray := prog_1_method_10_code
def yX5_drift : MethodName := ⟨RX5, "drift", "(II)I"⟩
abbrev cX5_undo : ByteArray := prog_1_method_11_code
def yX5_undo : MethodName := ⟨RX5, "undo", "()I"⟩
abbrev cX5_told : ByteArray := prog_1_method_12_code
def yX5_told : MethodName := ⟨RX5, "told", "(I)I"⟩
abbrev cX5_ofShape : ByteArray := prog_1_method_13_code
def yX5_ofShape : MethodName := ⟨RX5, "ofShape", "(II)I"⟩
abbrev cX5_ofPiece : ByteArray := prog_1_method_14_code
def yX5_ofPiece : MethodName := ⟨RX5, "ofPiece", "(II)I"⟩
abbrev cX5_gap : ByteArray := prog_1_method_15_code
def yX5_gap : MethodName := ⟨RX5, "gap", "(II)I"⟩
abbrev cX5_at : ByteArray := prog_1_method_16_code
def yX5_at : MethodName := ⟨RX5, "at", "(II)I"⟩
abbrev cX5_judge : ByteArray := prog_1_method_17_code
def yX5_judge : MethodName := ⟨RX5, "judge", "(I)I"⟩
abbrev cX5_wouldCut : ByteArray := prog_1_method_18_code
def yX5_wouldCut : MethodName := ⟨RX5, "wouldCut", "(II)I"⟩
abbrev cX5_wouldMove : ByteArray := prog_1_method_19_code
def yX5_wouldMove : MethodName := ⟨RX5, "wouldMove", "(III)I"⟩
abbrev cX5_pair : ByteArray := prog_1_method_20_code
def yX5_pair : MethodName := ⟨RX5, "pair", "(IIZ)I"⟩
abbrev cX5_keep : ByteArray := prog_1_method_21_code
def yX5_keep : MethodName := ⟨RX5, "keep", "(I)I"⟩
abbrev cX5_goBack : ByteArray := prog_1_method_22_code
def yX5_goBack : MethodName := ⟨RX5, "goBack", "(I)I"⟩
abbrev cX5_layFree : ByteArray := prog_1_method_23_code
def yX5_layFree : MethodName := ⟨RX5, "layFree", "()V"⟩
abbrev cX5_layAnew : ByteArray := prog_1_method_24_code
def yX5_layAnew : MethodName := ⟨RX5, "layAnew", "()V"⟩
abbrev cX5_bestNow : ByteArray := prog_1_method_25_code
def yX5_bestNow : MethodName := ⟨RX5, "bestNow", "()LTwoMasks$Best;"⟩
abbrev cX5_toldOfBest : ByteArray := prog_1_method_26_code
def yX5_toldOfBest : MethodName := ⟨RX5, "toldOfBest", "(I)I"⟩
abbrev cX5_costOfTried : ByteArray := prog_1_method_27_code
def yX5_costOfTried : MethodName := ⟨RX5, "costOfTried", "()I"⟩
abbrev cX5_costWith : ByteArray := prog_1_method_28_code
def yX5_costWith : MethodName := ⟨RX5, "costWith", "(IIII)I"⟩
abbrev cX5_areTwoPieces : ByteArray := prog_1_method_29_code
def yX5_areTwoPieces : MethodName := ⟨RX5, "areTwoPieces", "(II)Z"⟩
abbrev cX5_isPlace : ByteArray := prog_1_method_30_code
def yX5_isPlace : MethodName := ⟨RX5, "isPlace", "(I)Z"⟩
abbrev cX5_nextLot : ByteArray := prog_1_method_31_code
def yX5_nextLot : MethodName := ⟨RX5, "nextLot", "(I)I"⟩
abbrev cX5_withoutLowest : ByteArray := prog_1_method_32_code
def yX5_withoutLowest : MethodName := ⟨RX5, "withoutLowest", "(I)I"⟩
abbrev cX5_lowestOf : ByteArray := prog_1_method_33_code
def yX5_lowestOf : MethodName := ⟨RX5, "lowestOf", "(I)I"⟩
def RX6 : String := "TwoMasksModel"
def TX6 : u_T := fun k => match k with
  | 0 => ("TwoMasksModel", "st", "[I", true)
  | 1 => ("TwoMasksModel", "past", "[I", true)
  | 2 => ("TwoMasksModel", "undoMany", "I", false)
  | 3 => ("TwoMasksModel", "kept", "[I", true)
  | 4 => ("TwoMasksModel", "isKept", "[Z", true)
  | 5 => ("TwoMasksModel", "pieces", "I", false)
  | 6 => ("TwoMasksModel", "ofShape", "[I", true)
  | 7 => ("TwoMasksModel", "from", "[I", true)
  | 8 => ("TwoMasksModel", "to", "[I", true)
  | 9 => ("TwoMasksModel", "close", "[I", true)
  | 10 => ("TwoMasksModel", "beside", "[I", true)
  | 11 => ("TwoMasksModel", "best", "I", false)
  | 12 => ("TwoMasksModel", "bestCost", "I", false)
  | 13 => ("TwoMasksModel", "ways", "I", false)
  | 14 => ("TwoMasksModel", "lot", "J", false)
  | _ => ("TwoMasksModel", "aside", "[I", true)
def tyX6 : Nat → FieldType := fun k => match k with
  | 0 => .array .int
  | 1 => .array .int
  | 2 => .int
  | 3 => .array .int
  | 4 => .array .boolean
  | 5 => .int
  | 6 => .array .int
  | 7 => .array .int
  | 8 => .array .int
  | 9 => .array .int
  | 10 => .array .int
  | 11 => .int
  | 12 => .int
  | 13 => .int
  | 14 => .long
  | _ => .array .int
theorem nmX6 : ∀ a, a < 16 → ∀ b, b < 16 → a ≠ b → (TX6 a).2.1 ≠ (TX6 b).2.1 := by decide +kernel
theorem tyX6_ok : ∀ k, k < 16 → parseFieldDescriptor (TX6 k).2.2.1 = some (tyX6 k) := by decide +kernel
abbrev cX6_init : ByteArray := prog_8_method_1_code
def yX6_init : MethodName := ⟨RX6, "<init>", "()V"⟩
abbrev cX6_in : ByteArray := prog_8_method_2_code
def yX6_in : MethodName := ⟨RX6, "in", "(JJJ)Z"⟩
abbrev cX6_has : ByteArray := prog_8_method_3_code
def yX6_has : MethodName := ⟨RX6, "has", "(II)Z"⟩
abbrev cX6_ones : ByteArray := prog_8_method_4_code
def yX6_ones : MethodName := ⟨RX6, "ones", "(I)I"⟩
abbrev cX6_isShape : ByteArray := prog_8_method_5_code
def yX6_isShape : MethodName := ⟨RX6, "isShape", "(I)Z"⟩
abbrev cX6_part : ByteArray := prog_8_method_6_code
def yX6_part : MethodName := ⟨RX6, "part", "(II)I"⟩
abbrev cX6_cutsOf : ByteArray := prog_8_method_7_code
def yX6_cutsOf : MethodName := ⟨RX6, "cutsOf", "(I)I"⟩
abbrev cX6_addPiece : ByteArray := prog_8_method_8_code
def yX6_addPiece : MethodName := ⟨RX6, "addPiece", "(III)V"⟩
abbrev cX6_apart : ByteArray := prog_8_method_9_code
def yX6_apart : MethodName := ⟨RX6, "apart", "(IIII)I"⟩
abbrev cX6_gapOf : ByteArray := prog_8_method_10_code
def yX6_gapOf : MethodName := ⟨RX6, "gapOf", "(II)I"⟩
abbrev cX6_areaOf : ByteArray := prog_8_method_11_code
def yX6_areaOf : MethodName := ⟨RX6, "areaOf", "(I)I"⟩
abbrev cX6_lay : ByteArray := prog_8_method_12_code
def yX6_lay : MethodName := ⟨RX6, "lay", "()V"⟩
abbrev cX6_manyPieces : ByteArray := prog_8_method_13_code
def yX6_manyPieces : MethodName := ⟨RX6, "manyPieces", "()I"⟩
abbrev cX6_all : ByteArray := prog_8_method_14_code
def yX6_all : MethodName := ⟨RX6, "all", "()I"⟩
abbrev cX6_clashesOf : ByteArray := prog_8_method_15_code
def yX6_clashesOf : MethodName := ⟨RX6, "clashesOf", "(I)I"⟩
abbrev cX6_stitchesOf : ByteArray := prog_8_method_16_code
def yX6_stitchesOf : MethodName := ⟨RX6, "stitchesOf", "(I)I"⟩
abbrev cX6_costOf : ByteArray := prog_8_method_17_code
def yX6_costOf : MethodName := ⟨RX6, "costOf", "(I)I"⟩
abbrev cX6_areaOn : ByteArray := prog_8_method_18_code
def yX6_areaOn : MethodName := ⟨RX6, "areaOn", "(I)I"⟩
abbrev cX6_areFixed : ByteArray := prog_8_method_19_code
def yX6_areFixed : MethodName := ⟨RX6, "areFixed", "(I)Z"⟩
abbrev cX6_isFirst : ByteArray := prog_8_method_20_code
def yX6_isFirst : MethodName := ⟨RX6, "isFirst", "(II)Z"⟩
abbrev cX6_judgeAll : ByteArray := prog_8_method_21_code
def yX6_judgeAll : MethodName := ⟨RX6, "judgeAll", "()V"⟩
abbrev cX6_costOfBest : ByteArray := prog_8_method_22_code
def yX6_costOfBest : MethodName := ⟨RX6, "costOfBest", "()I"⟩
abbrev cX6_note : ByteArray := prog_8_method_23_code
def yX6_note : MethodName := ⟨RX6, "note", "()V"⟩
abbrev cX6_free : ByteArray := prog_8_method_24_code
def yX6_free : MethodName := ⟨RX6, "free", "()V"⟩
abbrev cX6_areBounds : ByteArray := prog_8_method_25_code
def yX6_areBounds : MethodName := ⟨RX6, "areBounds", "(IIII)Z"⟩
abbrev cX6_isFree : ByteArray := prog_8_method_26_code
def yX6_isFree : MethodName := ⟨RX6, "isFree", "(IIIII)Z"⟩
abbrev cX6_isFull : ByteArray := prog_8_method_27_code
def yX6_isFull : MethodName := ⟨RX6, "isFull", "()Z"⟩
abbrev cX6_put : ByteArray := prog_8_method_28_code
def yX6_put : MethodName := ⟨RX6, "put", "(IIIII)V"⟩
abbrev cX6_addShape : ByteArray := prog_8_method_29_code
def yX6_addShape : MethodName := ⟨RX6, "addShape", "(IIII)V"⟩
abbrev cX6_shape : ByteArray := prog_8_method_30_code
def yX6_shape : MethodName := ⟨RX6, "shape", "(IIII)I"⟩
abbrev cX6_drop : ByteArray := prog_8_method_31_code
def yX6_drop : MethodName := ⟨RX6, "drop", "(I)I"⟩
abbrev cX6_mayMove : ByteArray := prog_8_method_32_code
def yX6_mayMove : MethodName := ⟨RX6, "mayMove", "(III)Z"⟩
abbrev cX6_doMove : ByteArray := prog_8_method_33_code
def yX6_doMove : MethodName := ⟨RX6, "doMove", "(III)V"⟩
abbrev cX6_areSteps : ByteArray := prog_8_method_34_code
def yX6_areSteps : MethodName := ⟨RX6, "areSteps", "(II)Z"⟩
abbrev cX6_shapeArea : ByteArray := prog_8_method_35_code
def yX6_shapeArea : MethodName := ⟨RX6, "shapeArea", "(I)I"⟩
abbrev cX6_move : ByteArray := prog_8_method_36_code
def yX6_move : MethodName := ⟨RX6, "move", "(III)I"⟩
abbrev cX6_mayCut : ByteArray := prog_8_method_37_code
def yX6_mayCut : MethodName := ⟨RX6, "mayCut", "(II)Z"⟩
abbrev cX6_doCut : ByteArray := prog_8_method_38_code
def yX6_doCut : MethodName := ⟨RX6, "doCut", "(II)V"⟩
abbrev cX6_cut : ByteArray := prog_8_method_39_code
def yX6_cut : MethodName := ⟨RX6, "cut", "(II)I"⟩
abbrev cX6_heal : ByteArray := prog_8_method_40_code
def yX6_heal : MethodName := ⟨RX6, "heal", "(II)I"⟩
abbrev cX6_bound : ByteArray := prog_8_method_41_code
def yX6_bound : MethodName := ⟨RX6, "bound", "(II)I"⟩
abbrev cX6_fix : ByteArray := prog_8_method_42_code
def yX6_fix : MethodName := ⟨RX6, "fix", "(II)I"⟩
abbrev cX6_turn : ByteArray := prog_8_method_43_code
def yX6_turn : MethodName := ⟨RX6, "turn", "()I"⟩
abbrev cX6_lotOf : ByteArray := prog_8_method_44_code
def yX6_lotOf : MethodName := ⟨RX6, "lotOf", "(I)I"⟩
abbrev cX6_drift : ByteArray := prog_8_method_45_code
def yX6_drift : MethodName := ⟨RX6, "drift", "(II)I"⟩
abbrev cX6_undo : ByteArray := prog_8_method_46_code
def yX6_undo : MethodName := ⟨RX6, "undo", "()I"⟩
abbrev cX6_hang : ByteArray := prog_8_method_47_code
def yX6_hang : MethodName := ⟨RX6, "hang", "(IIII)I"⟩
abbrev cX6_partOf : ByteArray := prog_8_method_48_code
def yX6_partOf : MethodName := ⟨RX6, "partOf", "(I)I"⟩
abbrev cX6_parts : ByteArray := prog_8_method_49_code
def yX6_parts : MethodName := ⟨RX6, "parts", "()I"⟩
abbrev cX6_ringOf : ByteArray := prog_8_method_50_code
def yX6_ringOf : MethodName := ⟨RX6, "ringOf", "(I)I"⟩
abbrev cX6_odd : ByteArray := prog_8_method_51_code
def yX6_odd : MethodName := ⟨RX6, "odd", "(I)I"⟩
abbrev cX6_core : ByteArray := prog_8_method_52_code
def yX6_core : MethodName := ⟨RX6, "core", "()I"⟩
abbrev cX6_bridges : ByteArray := prog_8_method_53_code
def yX6_bridges : MethodName := ⟨RX6, "bridges", "()I"⟩
abbrev cX6_hinges : ByteArray := prog_8_method_54_code
def yX6_hinges : MethodName := ⟨RX6, "hinges", "()I"⟩
abbrev cX6_fixedSet : ByteArray := prog_8_method_55_code
def yX6_fixedSet : MethodName := ⟨RX6, "fixedSet", "()I"⟩
abbrev cX6_closePairs : ByteArray := prog_8_method_56_code
def yX6_closePairs : MethodName := ⟨RX6, "closePairs", "()I"⟩
abbrev cX6_toldBest : ByteArray := prog_8_method_57_code
def yX6_toldBest : MethodName := ⟨RX6, "toldBest", "(I)I"⟩
abbrev cX6_toldParts : ByteArray := prog_8_method_58_code
def yX6_toldParts : MethodName := ⟨RX6, "toldParts", "(I)I"⟩
abbrev cX6_told : ByteArray := prog_8_method_59_code
def yX6_told : MethodName := ⟨RX6, "told", "(I)I"⟩
abbrev cX6_firstPiece : ByteArray := prog_8_method_60_code
def yX6_firstPiece : MethodName := ⟨RX6, "firstPiece", "(I)I"⟩
abbrev cX6_ofShape : ByteArray := prog_8_method_61_code
def yX6_ofShape : MethodName := ⟨RX6, "ofShape", "(II)I"⟩
abbrev cX6_ofPiece : ByteArray := prog_8_method_62_code
def yX6_ofPiece : MethodName := ⟨RX6, "ofPiece", "(II)I"⟩
abbrev cX6_areTwo : ByteArray := prog_8_method_63_code
def yX6_areTwo : MethodName := ⟨RX6, "areTwo", "(II)Z"⟩
abbrev cX6_gap : ByteArray := prog_8_method_64_code
def yX6_gap : MethodName := ⟨RX6, "gap", "(II)I"⟩
abbrev cX6_at : ByteArray := prog_8_method_65_code
def yX6_at : MethodName := ⟨RX6, "at", "(II)I"⟩
abbrev cX6_judge : ByteArray := prog_8_method_66_code
def yX6_judge : MethodName := ⟨RX6, "judge", "(I)I"⟩
abbrev cX6_putAside : ByteArray := prog_8_method_67_code
def yX6_putAside : MethodName := ⟨RX6, "putAside", "(Z)V"⟩
abbrev cX6_wouldCut : ByteArray := prog_8_method_68_code
def yX6_wouldCut : MethodName := ⟨RX6, "wouldCut", "(II)I"⟩
abbrev cX6_wouldMove : ByteArray := prog_8_method_69_code
def yX6_wouldMove : MethodName := ⟨RX6, "wouldMove", "(III)I"⟩
abbrev cX6_pair : ByteArray := prog_8_method_70_code
def yX6_pair : MethodName := ⟨RX6, "pair", "(IIZ)I"⟩
abbrev cX6_keep : ByteArray := prog_8_method_71_code
def yX6_keep : MethodName := ⟨RX6, "keep", "(I)I"⟩
abbrev cX6_goBack : ByteArray := prog_8_method_72_code
def yX6_goBack : MethodName := ⟨RX6, "goBack", "(I)I"⟩
def RJ6 : String := "java/lang/Integer"
def TJ6 : u_T := fun k => match k with
  | _ => ("", "", "", false)
def tyJ6 : Nat → FieldType := fun k => match k with
  | _ => .int
theorem nmJ6 : ∀ a, a < 0 → ∀ b, b < 0 → a ≠ b → (TJ6 a).2.1 ≠ (TJ6 b).2.1 := by decide +kernel
theorem tyJ6_ok : ∀ k, k < 0 → parseFieldDescriptor (TJ6 k).2.2.1 = some (tyJ6 k) := by decide +kernel
abbrev cJ6_bitCount_0f7a4 : ByteArray := prog_9_method_49_code
def yJ6_bitCount_0f7a4 : MethodName := ⟨RJ6, "bitCount", "(I)I"⟩
def RJ9 : String := "java/lang/Math"
def TJ9 : u_T := fun k => match k with
  | _ => ("", "", "", false)
def tyJ9 : Nat → FieldType := fun k => match k with
  | _ => .int
theorem nmJ9 : ∀ a, a < 0 → ∀ b, b < 0 → a ≠ b → (TJ9 a).2.1 ≠ (TJ9 b).2.1 := by decide +kernel
theorem tyJ9_ok : ∀ k, k < 0 → parseFieldDescriptor (TJ9 k).2.2.1 = some (tyJ9 k) := by decide +kernel
abbrev cJ9_abs_0f7a4 : ByteArray := prog_10_method_59_code
def yJ9_abs_0f7a4 : MethodName := ⟨RJ9, "abs", "(I)I"⟩
abbrev cJ9_max_7cf53 : ByteArray := prog_10_method_65_code
def yJ9_max_7cf53 : MethodName := ⟨RJ9, "max", "(II)I"⟩
abbrev cJ9_min_7cf53 : ByteArray := prog_10_method_69_code
def yJ9_min_7cf53 : MethodName := ⟨RJ9, "min", "(II)I"⟩
def RJ10 : String := "java/lang/System"
def TJ10 : u_T := fun k => match k with
  | _ => ("", "", "", false)
def tyJ10 : Nat → FieldType := fun k => match k with
  | _ => .int
theorem nmJ10 : ∀ a, a < 0 → ∀ b, b < 0 → a ≠ b → (TJ10 a).2.1 ≠ (TJ10 b).2.1 := by decide +kernel
theorem tyJ10_ok : ∀ k, k < 0 → parseFieldDescriptor (TJ10 k).2.2.1 = some (tyJ10 k) := by decide +kernel
def RL : String := "TwoMasksLaw"
abbrev cL_law : ByteArray := code
def yL_law : MethodName := ⟨RL, "law", "([I)Z"⟩
def vwCl : List vw_C := [(RX0, TX0, 8), (RX1, TX1, 3), (RX2, TX2, 11), (RX3, TX3, 1), (RX4, TX4, 11), (RX5, TX5, 13), (RX6, TX6, 16)]
def zD (cc : ByteArray) (pc : Nat) (i : Instr) (n pc2 : Nat) : Prop := decode cc pc = .ok (i, n) ∧ pc + n = pc2
end
section
theorem dX0_init_0 : zD cX0_init 0 (.aload_n 0) 1 1 := ⟨by decide +kernel, rfl⟩
theorem dX0_init_1 : zD cX0_init 1 (.invokespecial 3) 3 4 := ⟨by decide +kernel, rfl⟩
theorem dX0_init_4 : zD cX0_init 4 (.aload_n 0) 1 5 := ⟨by decide +kernel, rfl⟩
theorem dX0_init_5 : zD cX0_init 5 (.iconst 0) 1 6 := ⟨by decide +kernel, rfl⟩
theorem dX0_init_6 : zD cX0_init 6 (.putfield 9) 3 9 := ⟨by decide +kernel, rfl⟩
theorem dX0_init_9 : zD cX0_init 9 (.aload_n 0) 1 10 := ⟨by decide +kernel, rfl⟩
theorem dX0_init_10 : zD cX0_init 10 (.iconst 0) 1 11 := ⟨by decide +kernel, rfl⟩
theorem dX0_init_11 : zD cX0_init 11 (.putfield 15) 3 14 := ⟨by decide +kernel, rfl⟩
theorem dX0_init_14 : zD cX0_init 14 (.aload_n 0) 1 15 := ⟨by decide +kernel, rfl⟩
theorem dX0_init_15 : zD cX0_init 15 (.iconst 0) 1 16 := ⟨by decide +kernel, rfl⟩
theorem dX0_init_16 : zD cX0_init 16 (.putfield 18) 3 19 := ⟨by decide +kernel, rfl⟩
theorem dX0_init_19 : zD cX0_init 19 (.aload_n 0) 1 20 := ⟨by decide +kernel, rfl⟩
theorem dX0_init_20 : zD cX0_init 20 (.iconst 0) 1 21 := ⟨by decide +kernel, rfl⟩
theorem dX0_init_21 : zD cX0_init 21 (.putfield 21) 3 24 := ⟨by decide +kernel, rfl⟩
theorem dX0_init_24 : zD cX0_init 24 (.aload_n 0) 1 25 := ⟨by decide +kernel, rfl⟩
theorem dX0_init_25 : zD cX0_init 25 (.iconst 0) 1 26 := ⟨by decide +kernel, rfl⟩
theorem dX0_init_26 : zD cX0_init 26 (.putfield 24) 3 29 := ⟨by decide +kernel, rfl⟩
theorem dX0_init_29 : zD cX0_init 29 (.aload_n 0) 1 30 := ⟨by decide +kernel, rfl⟩
theorem dX0_init_30 : zD cX0_init 30 (.iconst 0) 1 31 := ⟨by decide +kernel, rfl⟩
theorem dX0_init_31 : zD cX0_init 31 (.putfield 27) 3 34 := ⟨by decide +kernel, rfl⟩
theorem dX0_init_34 : zD cX0_init 34 (.aload_n 0) 1 35 := ⟨by decide +kernel, rfl⟩
theorem dX0_init_35 : zD cX0_init 35 (.iconst 0) 1 36 := ⟨by decide +kernel, rfl⟩
theorem dX0_init_36 : zD cX0_init 36 (.putfield 30) 3 39 := ⟨by decide +kernel, rfl⟩
theorem dX0_init_39 : zD cX0_init 39 (.aload_n 0) 1 40 := ⟨by decide +kernel, rfl⟩
theorem dX0_init_40 : zD cX0_init 40 (.aload_n 1) 1 41 := ⟨by decide +kernel, rfl⟩
theorem dX0_init_41 : zD cX0_init 41 (.putfield 33) 3 44 := ⟨by decide +kernel, rfl⟩
theorem dX0_init_44 : zD cX0_init 44 .return_ 1 45 := ⟨by decide +kernel, rfl⟩
theorem dX0_find_0 : zD cX0_find 0 (.aload_n 0) 1 1 := ⟨by decide +kernel, rfl⟩
theorem dX0_find_1 : zD cX0_find 1 (.iload_n 1) 1 2 := ⟨by decide +kernel, rfl⟩
theorem dX0_find_2 : zD cX0_find 2 (.putfield 9) 3 5 := ⟨by decide +kernel, rfl⟩
theorem dX0_find_5 : zD cX0_find 5 (.aload_n 0) 1 6 := ⟨by decide +kernel, rfl⟩
theorem dX0_find_6 : zD cX0_find 6 (.iload_n 2) 1 7 := ⟨by decide +kernel, rfl⟩
theorem dX0_find_7 : zD cX0_find 7 (.putfield 15) 3 10 := ⟨by decide +kernel, rfl⟩
theorem dX0_find_10 : zD cX0_find 10 (.aload_n 0) 1 11 := ⟨by decide +kernel, rfl⟩
theorem dX0_find_11 : zD cX0_find 11 (.aload_n 0) 1 12 := ⟨by decide +kernel, rfl⟩
theorem dX0_find_12 : zD cX0_find 12 (.getfield 33) 3 15 := ⟨by decide +kernel, rfl⟩
theorem dX0_find_15 : zD cX0_find 15 (.aload_n 0) 1 16 := ⟨by decide +kernel, rfl⟩
theorem dX0_find_16 : zD cX0_find 16 (.getfield 33) 3 19 := ⟨by decide +kernel, rfl⟩
theorem dX0_find_19 : zD cX0_find 19 (.invokevirtual 37) 3 22 := ⟨by decide +kernel, rfl⟩
theorem dX0_find_22 : zD cX0_find 22 (.invokevirtual 43) 3 25 := ⟨by decide +kernel, rfl⟩
theorem dX0_find_25 : zD cX0_find 25 (.putfield 21) 3 28 := ⟨by decide +kernel, rfl⟩
theorem dX0_find_28 : zD cX0_find 28 (.aload_n 0) 1 29 := ⟨by decide +kernel, rfl⟩
theorem dX0_find_29 : zD cX0_find 29 (.ldc 47) 2 31 := ⟨by decide +kernel, rfl⟩
theorem dX0_find_31 : zD cX0_find 31 (.putfield 24) 3 34 := ⟨by decide +kernel, rfl⟩
theorem dX0_find_34 : zD cX0_find 34 (.aload_n 0) 1 35 := ⟨by decide +kernel, rfl⟩
theorem dX0_find_35 : zD cX0_find 35 (.iconst 0) 1 36 := ⟨by decide +kernel, rfl⟩
theorem dX0_find_36 : zD cX0_find 36 (.putfield 27) 3 39 := ⟨by decide +kernel, rfl⟩
theorem dX0_find_39 : zD cX0_find 39 (.aload_n 0) 1 40 := ⟨by decide +kernel, rfl⟩
theorem dX0_find_40 : zD cX0_find 40 (.iconst 0) 1 41 := ⟨by decide +kernel, rfl⟩
theorem dX0_find_41 : zD cX0_find 41 (.putfield 30) 3 44 := ⟨by decide +kernel, rfl⟩
theorem dX0_find_44 : zD cX0_find 44 (.aload_n 0) 1 45 := ⟨by decide +kernel, rfl⟩
theorem dX0_find_45 : zD cX0_find 45 (.iconst 0) 1 46 := ⟨by decide +kernel, rfl⟩
theorem dX0_find_46 : zD cX0_find 46 (.iconst 0) 1 47 := ⟨by decide +kernel, rfl⟩
theorem dX0_find_47 : zD cX0_find 47 (.iconst 0) 1 48 := ⟨by decide +kernel, rfl⟩
theorem dX0_find_48 : zD cX0_find 48 (.iconst 0) 1 49 := ⟨by decide +kernel, rfl⟩
theorem dX0_find_49 : zD cX0_find 49 (.invokestatic 48) 3 52 := ⟨by decide +kernel, rfl⟩
theorem dX0_find_52 : zD cX0_find 52 .return_ 1 53 := ⟨by decide +kernel, rfl⟩
theorem dX0_search_0 : zD cX0_search 0 (.iload_n 3) 1 1 := ⟨by decide +kernel, rfl⟩
theorem dX0_search_1 : zD cX0_search 1 (.aload_n 0) 1 2 := ⟨by decide +kernel, rfl⟩
theorem dX0_search_2 : zD cX0_search 2 (.getfield 24) 3 5 := ⟨by decide +kernel, rfl⟩
theorem dX0_search_5 : zD cX0_search 5 (.if_icmp .le 4) 3 8 := ⟨by decide +kernel, rfl⟩
theorem dX0_search_8 : zD cX0_search 8 .return_ 1 9 := ⟨by decide +kernel, rfl⟩
theorem dX0_search_9 : zD cX0_search 9 (.iload_n 1) 1 10 := ⟨by decide +kernel, rfl⟩
theorem dX0_search_10 : zD cX0_search 10 (.aload_n 0) 1 11 := ⟨by decide +kernel, rfl⟩
theorem dX0_search_11 : zD cX0_search 11 (.getfield 33) 3 14 := ⟨by decide +kernel, rfl⟩
theorem dX0_search_14 : zD cX0_search 14 (.getfield 52) 3 17 := ⟨by decide +kernel, rfl⟩
theorem dX0_search_17 : zD cX0_search 17 (.if_icmp .ge 9) 3 20 := ⟨by decide +kernel, rfl⟩
theorem dX0_search_20 : zD cX0_search 20 (.iload_n 1) 1 21 := ⟨by decide +kernel, rfl⟩
theorem dX0_search_21 : zD cX0_search 21 (.bipush 14) 2 23 := ⟨by decide +kernel, rfl⟩
theorem dX0_search_23 : zD cX0_search 23 (.if_icmp .lt 12) 3 26 := ⟨by decide +kernel, rfl⟩
theorem dX0_search_26 : zD cX0_search 26 (.aload_n 0) 1 27 := ⟨by decide +kernel, rfl⟩
theorem dX0_search_27 : zD cX0_search 27 (.iload_n 2) 1 28 := ⟨by decide +kernel, rfl⟩
theorem dX0_search_28 : zD cX0_search 28 (.iload_n 3) 1 29 := ⟨by decide +kernel, rfl⟩
theorem dX0_search_29 : zD cX0_search 29 (.iload 4) 2 31 := ⟨by decide +kernel, rfl⟩
theorem dX0_search_31 : zD cX0_search 31 (.invokevirtual 55) 3 34 := ⟨by decide +kernel, rfl⟩
theorem dX0_search_34 : zD cX0_search 34 .return_ 1 35 := ⟨by decide +kernel, rfl⟩
theorem dX0_search_35 : zD cX0_search 35 (.iconst 0) 1 36 := ⟨by decide +kernel, rfl⟩
theorem dX0_search_36 : zD cX0_search 36 (.istore 5) 2 38 := ⟨by decide +kernel, rfl⟩
theorem dX0_search_38 : zD cX0_search 38 (.iload 5) 2 40 := ⟨by decide +kernel, rfl⟩
theorem dX0_search_40 : zD cX0_search 40 (.iconst 1) 1 41 := ⟨by decide +kernel, rfl⟩
theorem dX0_search_41 : zD cX0_search 41 (.if_icmp .gt 67) 3 44 := ⟨by decide +kernel, rfl⟩
theorem dX0_search_44 : zD cX0_search 44 (.aload_n 0) 1 45 := ⟨by decide +kernel, rfl⟩
theorem dX0_search_45 : zD cX0_search 45 (.iload_n 1) 1 46 := ⟨by decide +kernel, rfl⟩
theorem dX0_search_46 : zD cX0_search 46 (.iload 5) 2 48 := ⟨by decide +kernel, rfl⟩
theorem dX0_search_48 : zD cX0_search 48 (.invokevirtual 59) 3 51 := ⟨by decide +kernel, rfl⟩
theorem dX0_search_51 : zD cX0_search 51 (.ifCond .eq 51) 3 54 := ⟨by decide +kernel, rfl⟩
theorem dX0_search_54 : zD cX0_search 54 (.iload_n 2) 1 55 := ⟨by decide +kernel, rfl⟩
theorem dX0_search_55 : zD cX0_search 55 (.iload 5) 2 57 := ⟨by decide +kernel, rfl⟩
theorem dX0_search_57 : zD cX0_search 57 (.iload_n 1) 1 58 := ⟨by decide +kernel, rfl⟩
theorem dX0_search_58 : zD cX0_search 58 .ishl 1 59 := ⟨by decide +kernel, rfl⟩
theorem dX0_search_59 : zD cX0_search 59 .ior 1 60 := ⟨by decide +kernel, rfl⟩
theorem dX0_search_60 : zD cX0_search 60 (.istore 6) 2 62 := ⟨by decide +kernel, rfl⟩
theorem dX0_search_62 : zD cX0_search 62 (.iload_n 3) 1 63 := ⟨by decide +kernel, rfl⟩
theorem dX0_search_63 : zD cX0_search 63 (.aload_n 0) 1 64 := ⟨by decide +kernel, rfl⟩
theorem dX0_search_64 : zD cX0_search 64 (.getfield 33) 3 67 := ⟨by decide +kernel, rfl⟩
theorem dX0_search_67 : zD cX0_search 67 (.iload_n 1) 1 68 := ⟨by decide +kernel, rfl⟩
theorem dX0_search_68 : zD cX0_search 68 (.iload 6) 2 70 := ⟨by decide +kernel, rfl⟩
theorem dX0_search_70 : zD cX0_search 70 (.invokevirtual 63) 3 73 := ⟨by decide +kernel, rfl⟩
theorem dX0_search_73 : zD cX0_search 73 .iadd 1 74 := ⟨by decide +kernel, rfl⟩
theorem dX0_search_74 : zD cX0_search 74 (.istore 7) 2 76 := ⟨by decide +kernel, rfl⟩
theorem dX0_search_76 : zD cX0_search 76 (.aload_n 0) 1 77 := ⟨by decide +kernel, rfl⟩
theorem dX0_search_77 : zD cX0_search 77 (.iload_n 1) 1 78 := ⟨by decide +kernel, rfl⟩
theorem dX0_search_78 : zD cX0_search 78 (.iconst 1) 1 79 := ⟨by decide +kernel, rfl⟩
theorem dX0_search_79 : zD cX0_search 79 .iadd 1 80 := ⟨by decide +kernel, rfl⟩
theorem dX0_search_80 : zD cX0_search 80 (.iload 6) 2 82 := ⟨by decide +kernel, rfl⟩
theorem dX0_search_82 : zD cX0_search 82 (.iload 7) 2 84 := ⟨by decide +kernel, rfl⟩
theorem dX0_search_84 : zD cX0_search 84 (.iload 4) 2 86 := ⟨by decide +kernel, rfl⟩
theorem dX0_search_86 : zD cX0_search 86 (.iload 5) 2 88 := ⟨by decide +kernel, rfl⟩
theorem dX0_search_88 : zD cX0_search 88 (.aload_n 0) 1 89 := ⟨by decide +kernel, rfl⟩
theorem dX0_search_89 : zD cX0_search 89 (.getfield 33) 3 92 := ⟨by decide +kernel, rfl⟩
theorem dX0_search_92 : zD cX0_search 92 (.getfield 67) 3 95 := ⟨by decide +kernel, rfl⟩
theorem dX0_search_95 : zD cX0_search 95 (.iload_n 1) 1 96 := ⟨by decide +kernel, rfl⟩
theorem dX0_search_96 : zD cX0_search 96 .iaload 1 97 := ⟨by decide +kernel, rfl⟩
theorem dX0_search_97 : zD cX0_search 97 .imul 1 98 := ⟨by decide +kernel, rfl⟩
theorem dX0_search_98 : zD cX0_search 98 .iadd 1 99 := ⟨by decide +kernel, rfl⟩
theorem dX0_search_99 : zD cX0_search 99 (.invokestatic 48) 3 102 := ⟨by decide +kernel, rfl⟩
theorem dX0_search_102 : zD cX0_search 102 (.iinc 5 1) 3 105 := ⟨by decide +kernel, rfl⟩
theorem dX0_search_105 : zD cX0_search 105 (.goto (-67)) 3 108 := ⟨by decide +kernel, rfl⟩
theorem dX0_search_108 : zD cX0_search 108 .return_ 1 109 := ⟨by decide +kernel, rfl⟩
theorem dX0_mayBeOn_0 : zD cX0_mayBeOn 0 (.aload_n 0) 1 1 := ⟨by decide +kernel, rfl⟩
theorem dX0_mayBeOn_1 : zD cX0_mayBeOn 1 (.getfield 9) 3 4 := ⟨by decide +kernel, rfl⟩
theorem dX0_mayBeOn_4 : zD cX0_mayBeOn 4 (.iload_n 1) 1 5 := ⟨by decide +kernel, rfl⟩
theorem dX0_mayBeOn_5 : zD cX0_mayBeOn 5 .ishr 1 6 := ⟨by decide +kernel, rfl⟩
theorem dX0_mayBeOn_6 : zD cX0_mayBeOn 6 (.iconst 1) 1 7 := ⟨by decide +kernel, rfl⟩
theorem dX0_mayBeOn_7 : zD cX0_mayBeOn 7 .iand 1 8 := ⟨by decide +kernel, rfl⟩
theorem dX0_mayBeOn_8 : zD cX0_mayBeOn 8 (.ifCond .eq 15) 3 11 := ⟨by decide +kernel, rfl⟩
theorem dX0_mayBeOn_11 : zD cX0_mayBeOn 11 (.aload_n 0) 1 12 := ⟨by decide +kernel, rfl⟩
theorem dX0_mayBeOn_12 : zD cX0_mayBeOn 12 (.getfield 15) 3 15 := ⟨by decide +kernel, rfl⟩
theorem dX0_mayBeOn_15 : zD cX0_mayBeOn 15 (.iload_n 1) 1 16 := ⟨by decide +kernel, rfl⟩
theorem dX0_mayBeOn_16 : zD cX0_mayBeOn 16 .ishr 1 17 := ⟨by decide +kernel, rfl⟩
theorem dX0_mayBeOn_17 : zD cX0_mayBeOn 17 (.iconst 1) 1 18 := ⟨by decide +kernel, rfl⟩
theorem dX0_mayBeOn_18 : zD cX0_mayBeOn 18 .iand 1 19 := ⟨by decide +kernel, rfl⟩
theorem dX0_mayBeOn_19 : zD cX0_mayBeOn 19 (.iload_n 2) 1 20 := ⟨by decide +kernel, rfl⟩
theorem dX0_mayBeOn_20 : zD cX0_mayBeOn 20 (.if_icmp .ne 7) 3 23 := ⟨by decide +kernel, rfl⟩
theorem dX0_mayBeOn_23 : zD cX0_mayBeOn 23 (.iconst 1) 1 24 := ⟨by decide +kernel, rfl⟩
theorem dX0_mayBeOn_24 : zD cX0_mayBeOn 24 (.goto 4) 3 27 := ⟨by decide +kernel, rfl⟩
theorem dX0_mayBeOn_27 : zD cX0_mayBeOn 27 (.iconst 0) 1 28 := ⟨by decide +kernel, rfl⟩
theorem dX0_mayBeOn_28 : zD cX0_mayBeOn 28 .ireturn 1 29 := ⟨by decide +kernel, rfl⟩
theorem dX0_weigh_0 : zD cX0_weigh 0 (.aload_n 0) 1 1 := ⟨by decide +kernel, rfl⟩
theorem dX0_weigh_1 : zD cX0_weigh 1 (.getfield 21) 3 4 := ⟨by decide +kernel, rfl⟩
theorem dX0_weigh_4 : zD cX0_weigh 4 (.iconst 2) 1 5 := ⟨by decide +kernel, rfl⟩
theorem dX0_weigh_5 : zD cX0_weigh 5 (.iload_n 3) 1 6 := ⟨by decide +kernel, rfl⟩
theorem dX0_weigh_6 : zD cX0_weigh 6 .imul 1 7 := ⟨by decide +kernel, rfl⟩
theorem dX0_weigh_7 : zD cX0_weigh 7 .isub 1 8 := ⟨by decide +kernel, rfl⟩
theorem dX0_weigh_8 : zD cX0_weigh 8 (.invokestatic 71) 3 11 := ⟨by decide +kernel, rfl⟩
theorem dX0_weigh_11 : zD cX0_weigh 11 (.istore 4) 2 13 := ⟨by decide +kernel, rfl⟩
theorem dX0_weigh_13 : zD cX0_weigh 13 (.iload_n 2) 1 14 := ⟨by decide +kernel, rfl⟩
theorem dX0_weigh_14 : zD cX0_weigh 14 (.aload_n 0) 1 15 := ⟨by decide +kernel, rfl⟩
theorem dX0_weigh_15 : zD cX0_weigh 15 (.getfield 24) 3 18 := ⟨by decide +kernel, rfl⟩
theorem dX0_weigh_18 : zD cX0_weigh 18 (.if_icmp .ge 24) 3 21 := ⟨by decide +kernel, rfl⟩
theorem dX0_weigh_21 : zD cX0_weigh 21 (.aload_n 0) 1 22 := ⟨by decide +kernel, rfl⟩
theorem dX0_weigh_22 : zD cX0_weigh 22 (.iload_n 2) 1 23 := ⟨by decide +kernel, rfl⟩
theorem dX0_weigh_23 : zD cX0_weigh 23 (.putfield 24) 3 26 := ⟨by decide +kernel, rfl⟩
theorem dX0_weigh_26 : zD cX0_weigh 26 (.aload_n 0) 1 27 := ⟨by decide +kernel, rfl⟩
theorem dX0_weigh_27 : zD cX0_weigh 27 (.iconst 0) 1 28 := ⟨by decide +kernel, rfl⟩
theorem dX0_weigh_28 : zD cX0_weigh 28 (.putfield 27) 3 31 := ⟨by decide +kernel, rfl⟩
theorem dX0_weigh_31 : zD cX0_weigh 31 (.aload_n 0) 1 32 := ⟨by decide +kernel, rfl⟩
theorem dX0_weigh_32 : zD cX0_weigh 32 (.iload 4) 2 34 := ⟨by decide +kernel, rfl⟩
theorem dX0_weigh_34 : zD cX0_weigh 34 (.putfield 18) 3 37 := ⟨by decide +kernel, rfl⟩
theorem dX0_weigh_37 : zD cX0_weigh 37 (.aload_n 0) 1 38 := ⟨by decide +kernel, rfl⟩
theorem dX0_weigh_38 : zD cX0_weigh 38 (.iload_n 1) 1 39 := ⟨by decide +kernel, rfl⟩
theorem dX0_weigh_39 : zD cX0_weigh 39 (.putfield 30) 3 42 := ⟨by decide +kernel, rfl⟩
theorem dX0_weigh_42 : zD cX0_weigh 42 (.aload_n 0) 1 43 := ⟨by decide +kernel, rfl⟩
theorem dX0_weigh_43 : zD cX0_weigh 43 .dup 1 44 := ⟨by decide +kernel, rfl⟩
theorem dX0_weigh_44 : zD cX0_weigh 44 (.getfield 27) 3 47 := ⟨by decide +kernel, rfl⟩
theorem dX0_weigh_47 : zD cX0_weigh 47 (.iconst 1) 1 48 := ⟨by decide +kernel, rfl⟩
theorem dX0_weigh_48 : zD cX0_weigh 48 .iadd 1 49 := ⟨by decide +kernel, rfl⟩
theorem dX0_weigh_49 : zD cX0_weigh 49 (.putfield 27) 3 52 := ⟨by decide +kernel, rfl⟩
theorem dX0_weigh_52 : zD cX0_weigh 52 (.iload 4) 2 54 := ⟨by decide +kernel, rfl⟩
theorem dX0_weigh_54 : zD cX0_weigh 54 (.aload_n 0) 1 55 := ⟨by decide +kernel, rfl⟩
theorem dX0_weigh_55 : zD cX0_weigh 55 (.getfield 18) 3 58 := ⟨by decide +kernel, rfl⟩
theorem dX0_weigh_58 : zD cX0_weigh 58 (.if_icmp .ge 14) 3 61 := ⟨by decide +kernel, rfl⟩
theorem dX0_weigh_61 : zD cX0_weigh 61 (.aload_n 0) 1 62 := ⟨by decide +kernel, rfl⟩
theorem dX0_weigh_62 : zD cX0_weigh 62 (.iload 4) 2 64 := ⟨by decide +kernel, rfl⟩
theorem dX0_weigh_64 : zD cX0_weigh 64 (.putfield 18) 3 67 := ⟨by decide +kernel, rfl⟩
theorem dX0_weigh_67 : zD cX0_weigh 67 (.aload_n 0) 1 68 := ⟨by decide +kernel, rfl⟩
theorem dX0_weigh_68 : zD cX0_weigh 68 (.iload_n 1) 1 69 := ⟨by decide +kernel, rfl⟩
theorem dX0_weigh_69 : zD cX0_weigh 69 (.putfield 30) 3 72 := ⟨by decide +kernel, rfl⟩
theorem dX0_weigh_72 : zD cX0_weigh 72 .return_ 1 73 := ⟨by decide +kernel, rfl⟩
theorem dX1_init_0 : zD cX1_init 0 (.aload_n 0) 1 1 := ⟨by decide +kernel, rfl⟩
theorem dX1_init_1 : zD cX1_init 1 (.invokespecial 3) 3 4 := ⟨by decide +kernel, rfl⟩
theorem dX1_init_4 : zD cX1_init 4 (.aload_n 0) 1 5 := ⟨by decide +kernel, rfl⟩
theorem dX1_init_5 : zD cX1_init 5 (.bipush 8) 2 7 := ⟨by decide +kernel, rfl⟩
theorem dX1_init_7 : zD cX1_init 7 (.anewarray 9) 3 10 := ⟨by decide +kernel, rfl⟩
theorem dX1_init_10 : zD cX1_init 10 (.putfield 11) 3 13 := ⟨by decide +kernel, rfl⟩
theorem dX1_init_13 : zD cX1_init 13 (.aload_n 0) 1 14 := ⟨by decide +kernel, rfl⟩
theorem dX1_init_14 : zD cX1_init 14 (.iconst 0) 1 15 := ⟨by decide +kernel, rfl⟩
theorem dX1_init_15 : zD cX1_init 15 (.putfield 17) 3 18 := ⟨by decide +kernel, rfl⟩
theorem dX1_init_18 : zD cX1_init 18 (.aload_n 0) 1 19 := ⟨by decide +kernel, rfl⟩
theorem dX1_init_19 : zD cX1_init 19 (.iconst 0) 1 20 := ⟨by decide +kernel, rfl⟩
theorem dX1_init_20 : zD cX1_init 20 (.putfield 21) 3 23 := ⟨by decide +kernel, rfl⟩
theorem dX1_init_23 : zD cX1_init 23 (.iconst 0) 1 24 := ⟨by decide +kernel, rfl⟩
theorem dX1_init_24 : zD cX1_init 24 (.istore_n 1) 1 25 := ⟨by decide +kernel, rfl⟩
theorem dX1_init_25 : zD cX1_init 25 (.iload_n 1) 1 26 := ⟨by decide +kernel, rfl⟩
theorem dX1_init_26 : zD cX1_init 26 (.bipush 8) 2 28 := ⟨by decide +kernel, rfl⟩
theorem dX1_init_28 : zD cX1_init 28 (.if_icmp .ge 22) 3 31 := ⟨by decide +kernel, rfl⟩
theorem dX1_init_31 : zD cX1_init 31 (.aload_n 0) 1 32 := ⟨by decide +kernel, rfl⟩
theorem dX1_init_32 : zD cX1_init 32 (.getfield 11) 3 35 := ⟨by decide +kernel, rfl⟩
theorem dX1_init_35 : zD cX1_init 35 (.iload_n 1) 1 36 := ⟨by decide +kernel, rfl⟩
theorem dX1_init_36 : zD cX1_init 36 (.new 9) 3 39 := ⟨by decide +kernel, rfl⟩
theorem dX1_init_39 : zD cX1_init 39 .dup 1 40 := ⟨by decide +kernel, rfl⟩
theorem dX1_init_40 : zD cX1_init 40 (.invokespecial 24) 3 43 := ⟨by decide +kernel, rfl⟩
theorem dX1_init_43 : zD cX1_init 43 .aastore 1 44 := ⟨by decide +kernel, rfl⟩
theorem dX1_init_44 : zD cX1_init 44 (.iinc 1 1) 3 47 := ⟨by decide +kernel, rfl⟩
theorem dX1_init_47 : zD cX1_init 47 (.goto (-22)) 3 50 := ⟨by decide +kernel, rfl⟩
theorem dX1_init_50 : zD cX1_init 50 .return_ 1 51 := ⟨by decide +kernel, rfl⟩
theorem dX1_remember_0 : zD cX1_remember 0 (.aload_n 0) 1 1 := ⟨by decide +kernel, rfl⟩
theorem dX1_remember_1 : zD cX1_remember 1 (.getfield 11) 3 4 := ⟨by decide +kernel, rfl⟩
theorem dX1_remember_4 : zD cX1_remember 4 (.aload_n 0) 1 5 := ⟨by decide +kernel, rfl⟩
theorem dX1_remember_5 : zD cX1_remember 5 (.getfield 17) 3 8 := ⟨by decide +kernel, rfl⟩
theorem dX1_remember_8 : zD cX1_remember 8 .aaload 1 9 := ⟨by decide +kernel, rfl⟩
theorem dX1_remember_9 : zD cX1_remember 9 (.aload_n 1) 1 10 := ⟨by decide +kernel, rfl⟩
theorem dX1_remember_10 : zD cX1_remember 10 (.invokevirtual 25) 3 13 := ⟨by decide +kernel, rfl⟩
theorem dX1_remember_13 : zD cX1_remember 13 (.aload_n 0) 1 14 := ⟨by decide +kernel, rfl⟩
theorem dX1_remember_14 : zD cX1_remember 14 (.aload_n 0) 1 15 := ⟨by decide +kernel, rfl⟩
theorem dX1_remember_15 : zD cX1_remember 15 (.getfield 17) 3 18 := ⟨by decide +kernel, rfl⟩
theorem dX1_remember_18 : zD cX1_remember 18 (.iconst 1) 1 19 := ⟨by decide +kernel, rfl⟩
theorem dX1_remember_19 : zD cX1_remember 19 .iadd 1 20 := ⟨by decide +kernel, rfl⟩
theorem dX1_remember_20 : zD cX1_remember 20 (.bipush 8) 2 22 := ⟨by decide +kernel, rfl⟩
theorem dX1_remember_22 : zD cX1_remember 22 (.if_icmp .ge 12) 3 25 := ⟨by decide +kernel, rfl⟩
theorem dX1_remember_25 : zD cX1_remember 25 (.aload_n 0) 1 26 := ⟨by decide +kernel, rfl⟩
theorem dX1_remember_26 : zD cX1_remember 26 (.getfield 17) 3 29 := ⟨by decide +kernel, rfl⟩
theorem dX1_remember_29 : zD cX1_remember 29 (.iconst 1) 1 30 := ⟨by decide +kernel, rfl⟩
theorem dX1_remember_30 : zD cX1_remember 30 .iadd 1 31 := ⟨by decide +kernel, rfl⟩
theorem dX1_remember_31 : zD cX1_remember 31 (.goto 4) 3 34 := ⟨by decide +kernel, rfl⟩
theorem dX1_remember_34 : zD cX1_remember 34 (.iconst 0) 1 35 := ⟨by decide +kernel, rfl⟩
theorem dX1_remember_35 : zD cX1_remember 35 (.putfield 17) 3 38 := ⟨by decide +kernel, rfl⟩
theorem dX1_remember_38 : zD cX1_remember 38 (.aload_n 0) 1 39 := ⟨by decide +kernel, rfl⟩
theorem dX1_remember_39 : zD cX1_remember 39 (.bipush 8) 2 41 := ⟨by decide +kernel, rfl⟩
theorem dX1_remember_41 : zD cX1_remember 41 (.aload_n 0) 1 42 := ⟨by decide +kernel, rfl⟩
theorem dX1_remember_42 : zD cX1_remember 42 (.getfield 21) 3 45 := ⟨by decide +kernel, rfl⟩
theorem dX1_remember_45 : zD cX1_remember 45 (.iconst 1) 1 46 := ⟨by decide +kernel, rfl⟩
theorem dX1_remember_46 : zD cX1_remember 46 .iadd 1 47 := ⟨by decide +kernel, rfl⟩
theorem dX1_remember_47 : zD cX1_remember 47 (.invokestatic 29) 3 50 := ⟨by decide +kernel, rfl⟩
theorem dX1_remember_50 : zD cX1_remember 50 (.putfield 21) 3 53 := ⟨by decide +kernel, rfl⟩
theorem dX1_remember_53 : zD cX1_remember 53 .return_ 1 54 := ⟨by decide +kernel, rfl⟩
theorem dX1_recall_0 : zD cX1_recall 0 (.aload_n 0) 1 1 := ⟨by decide +kernel, rfl⟩
theorem dX1_recall_1 : zD cX1_recall 1 (.getfield 21) 3 4 := ⟨by decide +kernel, rfl⟩
theorem dX1_recall_4 : zD cX1_recall 4 (.ifCond .ne 4) 3 7 := ⟨by decide +kernel, rfl⟩
theorem dX1_recall_7 : zD cX1_recall 7 .return_ 1 8 := ⟨by decide +kernel, rfl⟩
theorem dX1_recall_8 : zD cX1_recall 8 (.aload_n 0) 1 9 := ⟨by decide +kernel, rfl⟩
theorem dX1_recall_9 : zD cX1_recall 9 (.aload_n 0) 1 10 := ⟨by decide +kernel, rfl⟩
theorem dX1_recall_10 : zD cX1_recall 10 (.getfield 17) 3 13 := ⟨by decide +kernel, rfl⟩
theorem dX1_recall_13 : zD cX1_recall 13 (.ifCond .le 12) 3 16 := ⟨by decide +kernel, rfl⟩
theorem dX1_recall_16 : zD cX1_recall 16 (.aload_n 0) 1 17 := ⟨by decide +kernel, rfl⟩
theorem dX1_recall_17 : zD cX1_recall 17 (.getfield 17) 3 20 := ⟨by decide +kernel, rfl⟩
theorem dX1_recall_20 : zD cX1_recall 20 (.iconst 1) 1 21 := ⟨by decide +kernel, rfl⟩
theorem dX1_recall_21 : zD cX1_recall 21 .isub 1 22 := ⟨by decide +kernel, rfl⟩
theorem dX1_recall_22 : zD cX1_recall 22 (.goto 5) 3 25 := ⟨by decide +kernel, rfl⟩
theorem dX1_recall_25 : zD cX1_recall 25 (.bipush 7) 2 27 := ⟨by decide +kernel, rfl⟩
theorem dX1_recall_27 : zD cX1_recall 27 (.putfield 17) 3 30 := ⟨by decide +kernel, rfl⟩
theorem dX1_recall_30 : zD cX1_recall 30 (.aload_n 1) 1 31 := ⟨by decide +kernel, rfl⟩
theorem dX1_recall_31 : zD cX1_recall 31 (.aload_n 0) 1 32 := ⟨by decide +kernel, rfl⟩
theorem dX1_recall_32 : zD cX1_recall 32 (.getfield 11) 3 35 := ⟨by decide +kernel, rfl⟩
theorem dX1_recall_35 : zD cX1_recall 35 (.aload_n 0) 1 36 := ⟨by decide +kernel, rfl⟩
theorem dX1_recall_36 : zD cX1_recall 36 (.getfield 17) 3 39 := ⟨by decide +kernel, rfl⟩
theorem dX1_recall_39 : zD cX1_recall 39 .aaload 1 40 := ⟨by decide +kernel, rfl⟩
theorem dX1_recall_40 : zD cX1_recall 40 (.invokevirtual 25) 3 43 := ⟨by decide +kernel, rfl⟩
theorem dX1_recall_43 : zD cX1_recall 43 (.aload_n 0) 1 44 := ⟨by decide +kernel, rfl⟩
theorem dX1_recall_44 : zD cX1_recall 44 .dup 1 45 := ⟨by decide +kernel, rfl⟩
theorem dX1_recall_45 : zD cX1_recall 45 (.getfield 21) 3 48 := ⟨by decide +kernel, rfl⟩
theorem dX1_recall_48 : zD cX1_recall 48 (.iconst 1) 1 49 := ⟨by decide +kernel, rfl⟩
theorem dX1_recall_49 : zD cX1_recall 49 .isub 1 50 := ⟨by decide +kernel, rfl⟩
theorem dX1_recall_50 : zD cX1_recall 50 (.putfield 21) 3 53 := ⟨by decide +kernel, rfl⟩
theorem dX1_recall_53 : zD cX1_recall 53 .return_ 1 54 := ⟨by decide +kernel, rfl⟩
theorem dX1_forget_0 : zD cX1_forget 0 (.aload_n 0) 1 1 := ⟨by decide +kernel, rfl⟩
theorem dX1_forget_1 : zD cX1_forget 1 (.iconst 0) 1 2 := ⟨by decide +kernel, rfl⟩
theorem dX1_forget_2 : zD cX1_forget 2 (.putfield 21) 3 5 := ⟨by decide +kernel, rfl⟩
theorem dX1_forget_5 : zD cX1_forget 5 .return_ 1 6 := ⟨by decide +kernel, rfl⟩
theorem dX2_init_0 : zD cX2_init 0 (.aload_n 0) 1 1 := ⟨by decide +kernel, rfl⟩
theorem dX2_init_1 : zD cX2_init 1 (.invokespecial 3) 3 4 := ⟨by decide +kernel, rfl⟩
theorem dX2_init_4 : zD cX2_init 4 (.aload_n 0) 1 5 := ⟨by decide +kernel, rfl⟩
theorem dX2_init_5 : zD cX2_init 5 (.bipush 10) 2 7 := ⟨by decide +kernel, rfl⟩
theorem dX2_init_7 : zD cX2_init 7 (.newarray .int) 2 9 := ⟨by decide +kernel, rfl⟩
theorem dX2_init_9 : zD cX2_init 9 (.putfield 9) 3 12 := ⟨by decide +kernel, rfl⟩
theorem dX2_init_12 : zD cX2_init 12 (.aload_n 0) 1 13 := ⟨by decide +kernel, rfl⟩
theorem dX2_init_13 : zD cX2_init 13 (.bipush 10) 2 15 := ⟨by decide +kernel, rfl⟩
theorem dX2_init_15 : zD cX2_init 15 (.newarray .int) 2 17 := ⟨by decide +kernel, rfl⟩
theorem dX2_init_17 : zD cX2_init 17 (.putfield 15) 3 20 := ⟨by decide +kernel, rfl⟩
theorem dX2_init_20 : zD cX2_init 20 (.aload_n 0) 1 21 := ⟨by decide +kernel, rfl⟩
theorem dX2_init_21 : zD cX2_init 21 (.bipush 10) 2 23 := ⟨by decide +kernel, rfl⟩
theorem dX2_init_23 : zD cX2_init 23 (.newarray .int) 2 25 := ⟨by decide +kernel, rfl⟩
theorem dX2_init_25 : zD cX2_init 25 (.putfield 18) 3 28 := ⟨by decide +kernel, rfl⟩
theorem dX2_init_28 : zD cX2_init 28 (.aload_n 0) 1 29 := ⟨by decide +kernel, rfl⟩
theorem dX2_init_29 : zD cX2_init 29 (.bipush 10) 2 31 := ⟨by decide +kernel, rfl⟩
theorem dX2_init_31 : zD cX2_init 31 (.newarray .int) 2 33 := ⟨by decide +kernel, rfl⟩
theorem dX2_init_33 : zD cX2_init 33 (.putfield 21) 3 36 := ⟨by decide +kernel, rfl⟩
theorem dX2_init_36 : zD cX2_init 36 (.aload_n 0) 1 37 := ⟨by decide +kernel, rfl⟩
theorem dX2_init_37 : zD cX2_init 37 (.bipush 10) 2 39 := ⟨by decide +kernel, rfl⟩
theorem dX2_init_39 : zD cX2_init 39 (.newarray .int) 2 41 := ⟨by decide +kernel, rfl⟩
theorem dX2_init_41 : zD cX2_init 41 (.putfield 24) 3 44 := ⟨by decide +kernel, rfl⟩
theorem dX2_init_44 : zD cX2_init 44 (.aload_n 0) 1 45 := ⟨by decide +kernel, rfl⟩
theorem dX2_init_45 : zD cX2_init 45 (.iconst 0) 1 46 := ⟨by decide +kernel, rfl⟩
theorem dX2_init_46 : zD cX2_init 46 (.putfield 27) 3 49 := ⟨by decide +kernel, rfl⟩
theorem dX2_init_49 : zD cX2_init 49 (.aload_n 0) 1 50 := ⟨by decide +kernel, rfl⟩
theorem dX2_init_50 : zD cX2_init 50 (.iconst 2) 1 51 := ⟨by decide +kernel, rfl⟩
theorem dX2_init_51 : zD cX2_init 51 (.putfield 31) 3 54 := ⟨by decide +kernel, rfl⟩
theorem dX2_init_54 : zD cX2_init 54 (.aload_n 0) 1 55 := ⟨by decide +kernel, rfl⟩
theorem dX2_init_55 : zD cX2_init 55 (.iconst 1) 1 56 := ⟨by decide +kernel, rfl⟩
theorem dX2_init_56 : zD cX2_init 56 (.putfield 34) 3 59 := ⟨by decide +kernel, rfl⟩
theorem dX2_init_59 : zD cX2_init 59 (.aload_n 0) 1 60 := ⟨by decide +kernel, rfl⟩
theorem dX2_init_60 : zD cX2_init 60 (.bipush 10) 2 62 := ⟨by decide +kernel, rfl⟩
theorem dX2_init_62 : zD cX2_init 62 (.putfield 37) 3 65 := ⟨by decide +kernel, rfl⟩
theorem dX2_init_65 : zD cX2_init 65 (.aload_n 0) 1 66 := ⟨by decide +kernel, rfl⟩
theorem dX2_init_66 : zD cX2_init 66 (.iconst 0) 1 67 := ⟨by decide +kernel, rfl⟩
theorem dX2_init_67 : zD cX2_init 67 (.putfield 40) 3 70 := ⟨by decide +kernel, rfl⟩
theorem dX2_init_70 : zD cX2_init 70 (.aload_n 0) 1 71 := ⟨by decide +kernel, rfl⟩
theorem dX2_init_71 : zD cX2_init 71 (.iconst 0) 1 72 := ⟨by decide +kernel, rfl⟩
theorem dX2_init_72 : zD cX2_init 72 (.putfield 43) 3 75 := ⟨by decide +kernel, rfl⟩
theorem dX2_init_75 : zD cX2_init 75 .return_ 1 76 := ⟨by decide +kernel, rfl⟩
theorem dX2_become_0 : zD cX2_become 0 (.aload_n 1) 1 1 := ⟨by decide +kernel, rfl⟩
theorem dX2_become_1 : zD cX2_become 1 (.getfield 9) 3 4 := ⟨by decide +kernel, rfl⟩
theorem dX2_become_4 : zD cX2_become 4 (.iconst 0) 1 5 := ⟨by decide +kernel, rfl⟩
theorem dX2_become_5 : zD cX2_become 5 (.aload_n 0) 1 6 := ⟨by decide +kernel, rfl⟩
theorem dX2_become_6 : zD cX2_become 6 (.getfield 9) 3 9 := ⟨by decide +kernel, rfl⟩
theorem dX2_become_9 : zD cX2_become 9 (.iconst 0) 1 10 := ⟨by decide +kernel, rfl⟩
theorem dX2_become_10 : zD cX2_become 10 (.bipush 10) 2 12 := ⟨by decide +kernel, rfl⟩
theorem dX2_become_12 : zD cX2_become 12 (.invokestatic 46) 3 15 := ⟨by decide +kernel, rfl⟩
theorem dX2_become_15 : zD cX2_become 15 (.aload_n 1) 1 16 := ⟨by decide +kernel, rfl⟩
theorem dX2_become_16 : zD cX2_become 16 (.getfield 15) 3 19 := ⟨by decide +kernel, rfl⟩
theorem dX2_become_19 : zD cX2_become 19 (.iconst 0) 1 20 := ⟨by decide +kernel, rfl⟩
theorem dX2_become_20 : zD cX2_become 20 (.aload_n 0) 1 21 := ⟨by decide +kernel, rfl⟩
theorem dX2_become_21 : zD cX2_become 21 (.getfield 15) 3 24 := ⟨by decide +kernel, rfl⟩
theorem dX2_become_24 : zD cX2_become 24 (.iconst 0) 1 25 := ⟨by decide +kernel, rfl⟩
theorem dX2_become_25 : zD cX2_become 25 (.bipush 10) 2 27 := ⟨by decide +kernel, rfl⟩
theorem dX2_become_27 : zD cX2_become 27 (.invokestatic 46) 3 30 := ⟨by decide +kernel, rfl⟩
theorem dX2_become_30 : zD cX2_become 30 (.aload_n 1) 1 31 := ⟨by decide +kernel, rfl⟩
theorem dX2_become_31 : zD cX2_become 31 (.getfield 18) 3 34 := ⟨by decide +kernel, rfl⟩
theorem dX2_become_34 : zD cX2_become 34 (.iconst 0) 1 35 := ⟨by decide +kernel, rfl⟩
theorem dX2_become_35 : zD cX2_become 35 (.aload_n 0) 1 36 := ⟨by decide +kernel, rfl⟩
theorem dX2_become_36 : zD cX2_become 36 (.getfield 18) 3 39 := ⟨by decide +kernel, rfl⟩
theorem dX2_become_39 : zD cX2_become 39 (.iconst 0) 1 40 := ⟨by decide +kernel, rfl⟩
theorem dX2_become_40 : zD cX2_become 40 (.bipush 10) 2 42 := ⟨by decide +kernel, rfl⟩
theorem dX2_become_42 : zD cX2_become 42 (.invokestatic 46) 3 45 := ⟨by decide +kernel, rfl⟩
theorem dX2_become_45 : zD cX2_become 45 (.aload_n 1) 1 46 := ⟨by decide +kernel, rfl⟩
theorem dX2_become_46 : zD cX2_become 46 (.getfield 21) 3 49 := ⟨by decide +kernel, rfl⟩
theorem dX2_become_49 : zD cX2_become 49 (.iconst 0) 1 50 := ⟨by decide +kernel, rfl⟩
theorem dX2_become_50 : zD cX2_become 50 (.aload_n 0) 1 51 := ⟨by decide +kernel, rfl⟩
theorem dX2_become_51 : zD cX2_become 51 (.getfield 21) 3 54 := ⟨by decide +kernel, rfl⟩
theorem dX2_become_54 : zD cX2_become 54 (.iconst 0) 1 55 := ⟨by decide +kernel, rfl⟩
theorem dX2_become_55 : zD cX2_become 55 (.bipush 10) 2 57 := ⟨by decide +kernel, rfl⟩
theorem dX2_become_57 : zD cX2_become 57 (.invokestatic 46) 3 60 := ⟨by decide +kernel, rfl⟩
theorem dX2_become_60 : zD cX2_become 60 (.aload_n 1) 1 61 := ⟨by decide +kernel, rfl⟩
theorem dX2_become_61 : zD cX2_become 61 (.getfield 24) 3 64 := ⟨by decide +kernel, rfl⟩
theorem dX2_become_64 : zD cX2_become 64 (.iconst 0) 1 65 := ⟨by decide +kernel, rfl⟩
theorem dX2_become_65 : zD cX2_become 65 (.aload_n 0) 1 66 := ⟨by decide +kernel, rfl⟩
theorem dX2_become_66 : zD cX2_become 66 (.getfield 24) 3 69 := ⟨by decide +kernel, rfl⟩
theorem dX2_become_69 : zD cX2_become 69 (.iconst 0) 1 70 := ⟨by decide +kernel, rfl⟩
theorem dX2_become_70 : zD cX2_become 70 (.bipush 10) 2 72 := ⟨by decide +kernel, rfl⟩
theorem dX2_become_72 : zD cX2_become 72 (.invokestatic 46) 3 75 := ⟨by decide +kernel, rfl⟩
theorem dX2_become_75 : zD cX2_become 75 (.aload_n 0) 1 76 := ⟨by decide +kernel, rfl⟩
theorem dX2_become_76 : zD cX2_become 76 (.aload_n 1) 1 77 := ⟨by decide +kernel, rfl⟩
theorem dX2_become_77 : zD cX2_become 77 (.getfield 27) 3 80 := ⟨by decide +kernel, rfl⟩
theorem dX2_become_80 : zD cX2_become 80 (.putfield 27) 3 83 := ⟨by decide +kernel, rfl⟩
theorem dX2_become_83 : zD cX2_become 83 (.aload_n 0) 1 84 := ⟨by decide +kernel, rfl⟩
theorem dX2_become_84 : zD cX2_become 84 (.aload_n 1) 1 85 := ⟨by decide +kernel, rfl⟩
theorem dX2_become_85 : zD cX2_become 85 (.getfield 31) 3 88 := ⟨by decide +kernel, rfl⟩
theorem dX2_become_88 : zD cX2_become 88 (.putfield 31) 3 91 := ⟨by decide +kernel, rfl⟩
theorem dX2_become_91 : zD cX2_become 91 (.aload_n 0) 1 92 := ⟨by decide +kernel, rfl⟩
theorem dX2_become_92 : zD cX2_become 92 (.aload_n 1) 1 93 := ⟨by decide +kernel, rfl⟩
theorem dX2_become_93 : zD cX2_become 93 (.getfield 34) 3 96 := ⟨by decide +kernel, rfl⟩
theorem dX2_become_96 : zD cX2_become 96 (.putfield 34) 3 99 := ⟨by decide +kernel, rfl⟩
theorem dX2_become_99 : zD cX2_become 99 (.aload_n 0) 1 100 := ⟨by decide +kernel, rfl⟩
theorem dX2_become_100 : zD cX2_become 100 (.aload_n 1) 1 101 := ⟨by decide +kernel, rfl⟩
theorem dX2_become_101 : zD cX2_become 101 (.getfield 37) 3 104 := ⟨by decide +kernel, rfl⟩
theorem dX2_become_104 : zD cX2_become 104 (.putfield 37) 3 107 := ⟨by decide +kernel, rfl⟩
theorem dX2_become_107 : zD cX2_become 107 (.aload_n 0) 1 108 := ⟨by decide +kernel, rfl⟩
theorem dX2_become_108 : zD cX2_become 108 (.aload_n 1) 1 109 := ⟨by decide +kernel, rfl⟩
theorem dX2_become_109 : zD cX2_become 109 (.getfield 40) 3 112 := ⟨by decide +kernel, rfl⟩
theorem dX2_become_112 : zD cX2_become 112 (.putfield 40) 3 115 := ⟨by decide +kernel, rfl⟩
theorem dX2_become_115 : zD cX2_become 115 (.aload_n 0) 1 116 := ⟨by decide +kernel, rfl⟩
theorem dX2_become_116 : zD cX2_become 116 (.aload_n 1) 1 117 := ⟨by decide +kernel, rfl⟩
theorem dX2_become_117 : zD cX2_become 117 (.getfield 43) 3 120 := ⟨by decide +kernel, rfl⟩
theorem dX2_become_120 : zD cX2_become 120 (.putfield 43) 3 123 := ⟨by decide +kernel, rfl⟩
theorem dX2_become_123 : zD cX2_become 123 .return_ 1 124 := ⟨by decide +kernel, rfl⟩
theorem dX2_hasShape_0 : zD cX2_hasShape 0 (.iload_n 1) 1 1 := ⟨by decide +kernel, rfl⟩
theorem dX2_hasShape_1 : zD cX2_hasShape 1 (.ifCond .lt 21) 3 4 := ⟨by decide +kernel, rfl⟩
theorem dX2_hasShape_4 : zD cX2_hasShape 4 (.iload_n 1) 1 5 := ⟨by decide +kernel, rfl⟩
theorem dX2_hasShape_5 : zD cX2_hasShape 5 (.aload_n 0) 1 6 := ⟨by decide +kernel, rfl⟩
theorem dX2_hasShape_6 : zD cX2_hasShape 6 (.getfield 27) 3 9 := ⟨by decide +kernel, rfl⟩
theorem dX2_hasShape_9 : zD cX2_hasShape 9 (.if_icmp .ge 13) 3 12 := ⟨by decide +kernel, rfl⟩
theorem dX2_hasShape_12 : zD cX2_hasShape 12 (.iload_n 1) 1 13 := ⟨by decide +kernel, rfl⟩
theorem dX2_hasShape_13 : zD cX2_hasShape 13 (.bipush 10) 2 15 := ⟨by decide +kernel, rfl⟩
theorem dX2_hasShape_15 : zD cX2_hasShape 15 (.if_icmp .ge 7) 3 18 := ⟨by decide +kernel, rfl⟩
theorem dX2_hasShape_18 : zD cX2_hasShape 18 (.iconst 1) 1 19 := ⟨by decide +kernel, rfl⟩
theorem dX2_hasShape_19 : zD cX2_hasShape 19 (.goto 4) 3 22 := ⟨by decide +kernel, rfl⟩
theorem dX2_hasShape_22 : zD cX2_hasShape 22 (.iconst 0) 1 23 := ⟨by decide +kernel, rfl⟩
theorem dX2_hasShape_23 : zD cX2_hasShape 23 .ireturn 1 24 := ⟨by decide +kernel, rfl⟩
theorem dX2_piecesAhead_0 : zD cX2_piecesAhead 0 (.iconst 0) 1 1 := ⟨by decide +kernel, rfl⟩
theorem dX2_piecesAhead_1 : zD cX2_piecesAhead 1 (.istore_n 2) 1 2 := ⟨by decide +kernel, rfl⟩
theorem dX2_piecesAhead_2 : zD cX2_piecesAhead 2 (.iconst 0) 1 3 := ⟨by decide +kernel, rfl⟩
theorem dX2_piecesAhead_3 : zD cX2_piecesAhead 3 (.istore_n 3) 1 4 := ⟨by decide +kernel, rfl⟩
theorem dX2_piecesAhead_4 : zD cX2_piecesAhead 4 (.iload_n 3) 1 5 := ⟨by decide +kernel, rfl⟩
theorem dX2_piecesAhead_5 : zD cX2_piecesAhead 5 (.iload_n 1) 1 6 := ⟨by decide +kernel, rfl⟩
theorem dX2_piecesAhead_6 : zD cX2_piecesAhead 6 (.if_icmp .ge 31) 3 9 := ⟨by decide +kernel, rfl⟩
theorem dX2_piecesAhead_9 : zD cX2_piecesAhead 9 (.iload_n 3) 1 10 := ⟨by decide +kernel, rfl⟩
theorem dX2_piecesAhead_10 : zD cX2_piecesAhead 10 (.aload_n 0) 1 11 := ⟨by decide +kernel, rfl⟩
theorem dX2_piecesAhead_11 : zD cX2_piecesAhead 11 (.getfield 27) 3 14 := ⟨by decide +kernel, rfl⟩
theorem dX2_piecesAhead_14 : zD cX2_piecesAhead 14 (.if_icmp .ge 23) 3 17 := ⟨by decide +kernel, rfl⟩
theorem dX2_piecesAhead_17 : zD cX2_piecesAhead 17 (.iload_n 2) 1 18 := ⟨by decide +kernel, rfl⟩
theorem dX2_piecesAhead_18 : zD cX2_piecesAhead 18 (.iconst 1) 1 19 := ⟨by decide +kernel, rfl⟩
theorem dX2_piecesAhead_19 : zD cX2_piecesAhead 19 (.aload_n 0) 1 20 := ⟨by decide +kernel, rfl⟩
theorem dX2_piecesAhead_20 : zD cX2_piecesAhead 20 (.getfield 24) 3 23 := ⟨by decide +kernel, rfl⟩
theorem dX2_piecesAhead_23 : zD cX2_piecesAhead 23 (.iload_n 3) 1 24 := ⟨by decide +kernel, rfl⟩
theorem dX2_piecesAhead_24 : zD cX2_piecesAhead 24 .iaload 1 25 := ⟨by decide +kernel, rfl⟩
theorem dX2_piecesAhead_25 : zD cX2_piecesAhead 25 (.invokestatic 52) 3 28 := ⟨by decide +kernel, rfl⟩
theorem dX2_piecesAhead_28 : zD cX2_piecesAhead 28 .iadd 1 29 := ⟨by decide +kernel, rfl⟩
theorem dX2_piecesAhead_29 : zD cX2_piecesAhead 29 .iadd 1 30 := ⟨by decide +kernel, rfl⟩
theorem dX2_piecesAhead_30 : zD cX2_piecesAhead 30 (.istore_n 2) 1 31 := ⟨by decide +kernel, rfl⟩
theorem dX2_piecesAhead_31 : zD cX2_piecesAhead 31 (.iinc 3 1) 3 34 := ⟨by decide +kernel, rfl⟩
theorem dX2_piecesAhead_34 : zD cX2_piecesAhead 34 (.goto (-30)) 3 37 := ⟨by decide +kernel, rfl⟩
theorem dX2_piecesAhead_37 : zD cX2_piecesAhead 37 (.iload_n 2) 1 38 := ⟨by decide +kernel, rfl⟩
theorem dX2_piecesAhead_38 : zD cX2_piecesAhead 38 .ireturn 1 39 := ⟨by decide +kernel, rfl⟩
theorem dX2_isFull_0 : zD cX2_isFull 0 (.aload_n 0) 1 1 := ⟨by decide +kernel, rfl⟩
theorem dX2_isFull_1 : zD cX2_isFull 1 (.getfield 27) 3 4 := ⟨by decide +kernel, rfl⟩
theorem dX2_isFull_4 : zD cX2_isFull 4 (.bipush 10) 2 6 := ⟨by decide +kernel, rfl⟩
theorem dX2_isFull_6 : zD cX2_isFull 6 (.if_icmp .ge 16) 3 9 := ⟨by decide +kernel, rfl⟩
theorem dX2_isFull_9 : zD cX2_isFull 9 (.aload_n 0) 1 10 := ⟨by decide +kernel, rfl⟩
theorem dX2_isFull_10 : zD cX2_isFull 10 (.aload_n 0) 1 11 := ⟨by decide +kernel, rfl⟩
theorem dX2_isFull_11 : zD cX2_isFull 11 (.getfield 27) 3 14 := ⟨by decide +kernel, rfl⟩
theorem dX2_isFull_14 : zD cX2_isFull 14 (.invokevirtual 58) 3 17 := ⟨by decide +kernel, rfl⟩
theorem dX2_isFull_17 : zD cX2_isFull 17 (.bipush 14) 2 19 := ⟨by decide +kernel, rfl⟩
theorem dX2_isFull_19 : zD cX2_isFull 19 (.if_icmp .lt 7) 3 22 := ⟨by decide +kernel, rfl⟩
theorem dX2_isFull_22 : zD cX2_isFull 22 (.iconst 1) 1 23 := ⟨by decide +kernel, rfl⟩
theorem dX2_isFull_23 : zD cX2_isFull 23 (.goto 4) 3 26 := ⟨by decide +kernel, rfl⟩
theorem dX2_isFull_26 : zD cX2_isFull 26 (.iconst 0) 1 27 := ⟨by decide +kernel, rfl⟩
theorem dX2_isFull_27 : zD cX2_isFull 27 .ireturn 1 28 := ⟨by decide +kernel, rfl⟩
theorem dX2_areaOf_0 : zD cX2_areaOf 0 (.aload_n 0) 1 1 := ⟨by decide +kernel, rfl⟩
theorem dX2_areaOf_1 : zD cX2_areaOf 1 (.iload_n 1) 1 2 := ⟨by decide +kernel, rfl⟩
theorem dX2_areaOf_2 : zD cX2_areaOf 2 (.invokevirtual 61) 3 5 := ⟨by decide +kernel, rfl⟩
theorem dX2_areaOf_5 : zD cX2_areaOf 5 (.ifCond .eq 37) 3 8 := ⟨by decide +kernel, rfl⟩
theorem dX2_areaOf_8 : zD cX2_areaOf 8 (.aload_n 0) 1 9 := ⟨by decide +kernel, rfl⟩
theorem dX2_areaOf_9 : zD cX2_areaOf 9 (.getfield 18) 3 12 := ⟨by decide +kernel, rfl⟩
theorem dX2_areaOf_12 : zD cX2_areaOf 12 (.iload_n 1) 1 13 := ⟨by decide +kernel, rfl⟩
theorem dX2_areaOf_13 : zD cX2_areaOf 13 .iaload 1 14 := ⟨by decide +kernel, rfl⟩
theorem dX2_areaOf_14 : zD cX2_areaOf 14 (.aload_n 0) 1 15 := ⟨by decide +kernel, rfl⟩
theorem dX2_areaOf_15 : zD cX2_areaOf 15 (.getfield 9) 3 18 := ⟨by decide +kernel, rfl⟩
theorem dX2_areaOf_18 : zD cX2_areaOf 18 (.iload_n 1) 1 19 := ⟨by decide +kernel, rfl⟩
theorem dX2_areaOf_19 : zD cX2_areaOf 19 .iaload 1 20 := ⟨by decide +kernel, rfl⟩
theorem dX2_areaOf_20 : zD cX2_areaOf 20 .isub 1 21 := ⟨by decide +kernel, rfl⟩
theorem dX2_areaOf_21 : zD cX2_areaOf 21 (.iconst 1) 1 22 := ⟨by decide +kernel, rfl⟩
theorem dX2_areaOf_22 : zD cX2_areaOf 22 .iadd 1 23 := ⟨by decide +kernel, rfl⟩
theorem dX2_areaOf_23 : zD cX2_areaOf 23 (.aload_n 0) 1 24 := ⟨by decide +kernel, rfl⟩
theorem dX2_areaOf_24 : zD cX2_areaOf 24 (.getfield 21) 3 27 := ⟨by decide +kernel, rfl⟩
theorem dX2_areaOf_27 : zD cX2_areaOf 27 (.iload_n 1) 1 28 := ⟨by decide +kernel, rfl⟩
theorem dX2_areaOf_28 : zD cX2_areaOf 28 .iaload 1 29 := ⟨by decide +kernel, rfl⟩
theorem dX2_areaOf_29 : zD cX2_areaOf 29 (.aload_n 0) 1 30 := ⟨by decide +kernel, rfl⟩
theorem dX2_areaOf_30 : zD cX2_areaOf 30 (.getfield 15) 3 33 := ⟨by decide +kernel, rfl⟩
theorem dX2_areaOf_33 : zD cX2_areaOf 33 (.iload_n 1) 1 34 := ⟨by decide +kernel, rfl⟩
theorem dX2_areaOf_34 : zD cX2_areaOf 34 .iaload 1 35 := ⟨by decide +kernel, rfl⟩
theorem dX2_areaOf_35 : zD cX2_areaOf 35 .isub 1 36 := ⟨by decide +kernel, rfl⟩
theorem dX2_areaOf_36 : zD cX2_areaOf 36 (.iconst 1) 1 37 := ⟨by decide +kernel, rfl⟩
theorem dX2_areaOf_37 : zD cX2_areaOf 37 .iadd 1 38 := ⟨by decide +kernel, rfl⟩
theorem dX2_areaOf_38 : zD cX2_areaOf 38 .imul 1 39 := ⟨by decide +kernel, rfl⟩
theorem dX2_areaOf_39 : zD cX2_areaOf 39 (.goto 4) 3 42 := ⟨by decide +kernel, rfl⟩
theorem dX2_areaOf_42 : zD cX2_areaOf 42 (.iconst 0) 1 43 := ⟨by decide +kernel, rfl⟩
theorem dX2_areaOf_43 : zD cX2_areaOf 43 .ireturn 1 44 := ⟨by decide +kernel, rfl⟩
theorem dX2_refusalOfNew_0 : zD cX2_refusalOfNew 0 (.iload_n 1) 1 1 := ⟨by decide +kernel, rfl⟩
theorem dX2_refusalOfNew_1 : zD cX2_refusalOfNew 1 (.iload_n 2) 1 2 := ⟨by decide +kernel, rfl⟩
theorem dX2_refusalOfNew_2 : zD cX2_refusalOfNew 2 (.iload_n 3) 1 3 := ⟨by decide +kernel, rfl⟩
theorem dX2_refusalOfNew_3 : zD cX2_refusalOfNew 3 (.iload 4) 2 5 := ⟨by decide +kernel, rfl⟩
theorem dX2_refusalOfNew_5 : zD cX2_refusalOfNew 5 (.invokestatic 65) 3 8 := ⟨by decide +kernel, rfl⟩
theorem dX2_refusalOfNew_8 : zD cX2_refusalOfNew 8 (.ifCond .eq 14) 3 11 := ⟨by decide +kernel, rfl⟩
theorem dX2_refusalOfNew_11 : zD cX2_refusalOfNew 11 (.iload_n 1) 1 12 := ⟨by decide +kernel, rfl⟩
theorem dX2_refusalOfNew_12 : zD cX2_refusalOfNew 12 (.iload_n 3) 1 13 := ⟨by decide +kernel, rfl⟩
theorem dX2_refusalOfNew_13 : zD cX2_refusalOfNew 13 (.if_icmp .gt 9) 3 16 := ⟨by decide +kernel, rfl⟩
theorem dX2_refusalOfNew_16 : zD cX2_refusalOfNew 16 (.iload_n 2) 1 17 := ⟨by decide +kernel, rfl⟩
theorem dX2_refusalOfNew_17 : zD cX2_refusalOfNew 17 (.iload 4) 2 19 := ⟨by decide +kernel, rfl⟩
theorem dX2_refusalOfNew_19 : zD cX2_refusalOfNew 19 (.if_icmp .le 6) 3 22 := ⟨by decide +kernel, rfl⟩
theorem dX2_refusalOfNew_22 : zD cX2_refusalOfNew 22 (.ldc 69) 2 24 := ⟨by decide +kernel, rfl⟩
theorem dX2_refusalOfNew_24 : zD cX2_refusalOfNew 24 .ireturn 1 25 := ⟨by decide +kernel, rfl⟩
theorem dX2_refusalOfNew_25 : zD cX2_refusalOfNew 25 (.aload_n 0) 1 26 := ⟨by decide +kernel, rfl⟩
theorem dX2_refusalOfNew_26 : zD cX2_refusalOfNew 26 (.iload_n 1) 1 27 := ⟨by decide +kernel, rfl⟩
theorem dX2_refusalOfNew_27 : zD cX2_refusalOfNew 27 (.iload_n 2) 1 28 := ⟨by decide +kernel, rfl⟩
theorem dX2_refusalOfNew_28 : zD cX2_refusalOfNew 28 (.iload_n 3) 1 29 := ⟨by decide +kernel, rfl⟩
theorem dX2_refusalOfNew_29 : zD cX2_refusalOfNew 29 (.iload 4) 2 31 := ⟨by decide +kernel, rfl⟩
theorem dX2_refusalOfNew_31 : zD cX2_refusalOfNew 31 (.iconst (-1)) 1 32 := ⟨by decide +kernel, rfl⟩
theorem dX2_refusalOfNew_32 : zD cX2_refusalOfNew 32 (.invokevirtual 70) 3 35 := ⟨by decide +kernel, rfl⟩
theorem dX2_refusalOfNew_35 : zD cX2_refusalOfNew 35 (.ifCond .ne 6) 3 38 := ⟨by decide +kernel, rfl⟩
theorem dX2_refusalOfNew_38 : zD cX2_refusalOfNew 38 (.ldc 74) 2 40 := ⟨by decide +kernel, rfl⟩
theorem dX2_refusalOfNew_40 : zD cX2_refusalOfNew 40 .ireturn 1 41 := ⟨by decide +kernel, rfl⟩
theorem dX2_refusalOfNew_41 : zD cX2_refusalOfNew 41 (.aload_n 0) 1 42 := ⟨by decide +kernel, rfl⟩
theorem dX2_refusalOfNew_42 : zD cX2_refusalOfNew 42 (.invokevirtual 75) 3 45 := ⟨by decide +kernel, rfl⟩
theorem dX2_refusalOfNew_45 : zD cX2_refusalOfNew 45 (.ifCond .eq 8) 3 48 := ⟨by decide +kernel, rfl⟩
theorem dX2_refusalOfNew_48 : zD cX2_refusalOfNew 48 (.ldc 79) 2 50 := ⟨by decide +kernel, rfl⟩
theorem dX2_refusalOfNew_50 : zD cX2_refusalOfNew 50 (.goto 4) 3 53 := ⟨by decide +kernel, rfl⟩
theorem dX2_refusalOfNew_53 : zD cX2_refusalOfNew 53 (.iconst 0) 1 54 := ⟨by decide +kernel, rfl⟩
theorem dX2_refusalOfNew_54 : zD cX2_refusalOfNew 54 .ireturn 1 55 := ⟨by decide +kernel, rfl⟩
theorem dX2_putNew_0 : zD cX2_putNew 0 (.aload_n 0) 1 1 := ⟨by decide +kernel, rfl⟩
theorem dX2_putNew_1 : zD cX2_putNew 1 (.invokevirtual 75) 3 4 := ⟨by decide +kernel, rfl⟩
theorem dX2_putNew_4 : zD cX2_putNew 4 (.ifCond .eq 4) 3 7 := ⟨by decide +kernel, rfl⟩
theorem dX2_putNew_7 : zD cX2_putNew 7 .return_ 1 8 := ⟨by decide +kernel, rfl⟩
theorem dX2_putNew_8 : zD cX2_putNew 8 (.aload_n 0) 1 9 := ⟨by decide +kernel, rfl⟩
theorem dX2_putNew_9 : zD cX2_putNew 9 (.getfield 9) 3 12 := ⟨by decide +kernel, rfl⟩
theorem dX2_putNew_12 : zD cX2_putNew 12 (.aload_n 0) 1 13 := ⟨by decide +kernel, rfl⟩
theorem dX2_putNew_13 : zD cX2_putNew 13 (.getfield 27) 3 16 := ⟨by decide +kernel, rfl⟩
theorem dX2_putNew_16 : zD cX2_putNew 16 (.iload_n 1) 1 17 := ⟨by decide +kernel, rfl⟩
theorem dX2_putNew_17 : zD cX2_putNew 17 .iastore 1 18 := ⟨by decide +kernel, rfl⟩
theorem dX2_putNew_18 : zD cX2_putNew 18 (.aload_n 0) 1 19 := ⟨by decide +kernel, rfl⟩
theorem dX2_putNew_19 : zD cX2_putNew 19 (.getfield 15) 3 22 := ⟨by decide +kernel, rfl⟩
theorem dX2_putNew_22 : zD cX2_putNew 22 (.aload_n 0) 1 23 := ⟨by decide +kernel, rfl⟩
theorem dX2_putNew_23 : zD cX2_putNew 23 (.getfield 27) 3 26 := ⟨by decide +kernel, rfl⟩
theorem dX2_putNew_26 : zD cX2_putNew 26 (.iload_n 2) 1 27 := ⟨by decide +kernel, rfl⟩
theorem dX2_putNew_27 : zD cX2_putNew 27 .iastore 1 28 := ⟨by decide +kernel, rfl⟩
theorem dX2_putNew_28 : zD cX2_putNew 28 (.aload_n 0) 1 29 := ⟨by decide +kernel, rfl⟩
theorem dX2_putNew_29 : zD cX2_putNew 29 (.getfield 18) 3 32 := ⟨by decide +kernel, rfl⟩
theorem dX2_putNew_32 : zD cX2_putNew 32 (.aload_n 0) 1 33 := ⟨by decide +kernel, rfl⟩
theorem dX2_putNew_33 : zD cX2_putNew 33 (.getfield 27) 3 36 := ⟨by decide +kernel, rfl⟩
theorem dX2_putNew_36 : zD cX2_putNew 36 (.iload_n 3) 1 37 := ⟨by decide +kernel, rfl⟩
theorem dX2_putNew_37 : zD cX2_putNew 37 .iastore 1 38 := ⟨by decide +kernel, rfl⟩
theorem dX2_putNew_38 : zD cX2_putNew 38 (.aload_n 0) 1 39 := ⟨by decide +kernel, rfl⟩
theorem dX2_putNew_39 : zD cX2_putNew 39 (.getfield 21) 3 42 := ⟨by decide +kernel, rfl⟩
theorem dX2_putNew_42 : zD cX2_putNew 42 (.aload_n 0) 1 43 := ⟨by decide +kernel, rfl⟩
theorem dX2_putNew_43 : zD cX2_putNew 43 (.getfield 27) 3 46 := ⟨by decide +kernel, rfl⟩
theorem dX2_putNew_46 : zD cX2_putNew 46 (.iload 4) 2 48 := ⟨by decide +kernel, rfl⟩
theorem dX2_putNew_48 : zD cX2_putNew 48 .iastore 1 49 := ⟨by decide +kernel, rfl⟩
theorem dX2_putNew_49 : zD cX2_putNew 49 (.aload_n 0) 1 50 := ⟨by decide +kernel, rfl⟩
theorem dX2_putNew_50 : zD cX2_putNew 50 (.getfield 24) 3 53 := ⟨by decide +kernel, rfl⟩
theorem dX2_putNew_53 : zD cX2_putNew 53 (.aload_n 0) 1 54 := ⟨by decide +kernel, rfl⟩
theorem dX2_putNew_54 : zD cX2_putNew 54 (.getfield 27) 3 57 := ⟨by decide +kernel, rfl⟩
theorem dX2_putNew_57 : zD cX2_putNew 57 (.iconst 0) 1 58 := ⟨by decide +kernel, rfl⟩
theorem dX2_putNew_58 : zD cX2_putNew 58 .iastore 1 59 := ⟨by decide +kernel, rfl⟩
theorem dX2_putNew_59 : zD cX2_putNew 59 (.aload_n 0) 1 60 := ⟨by decide +kernel, rfl⟩
theorem dX2_putNew_60 : zD cX2_putNew 60 .dup 1 61 := ⟨by decide +kernel, rfl⟩
theorem dX2_putNew_61 : zD cX2_putNew 61 (.getfield 27) 3 64 := ⟨by decide +kernel, rfl⟩
theorem dX2_putNew_64 : zD cX2_putNew 64 (.iconst 1) 1 65 := ⟨by decide +kernel, rfl⟩
theorem dX2_putNew_65 : zD cX2_putNew 65 .iadd 1 66 := ⟨by decide +kernel, rfl⟩
theorem dX2_putNew_66 : zD cX2_putNew 66 (.putfield 27) 3 69 := ⟨by decide +kernel, rfl⟩
theorem dX2_putNew_69 : zD cX2_putNew 69 .return_ 1 70 := ⟨by decide +kernel, rfl⟩
theorem dX2_takeAway_0 : zD cX2_takeAway 0 (.aload_n 0) 1 1 := ⟨by decide +kernel, rfl⟩
theorem dX2_takeAway_1 : zD cX2_takeAway 1 (.iload_n 1) 1 2 := ⟨by decide +kernel, rfl⟩
theorem dX2_takeAway_2 : zD cX2_takeAway 2 (.invokevirtual 61) 3 5 := ⟨by decide +kernel, rfl⟩
theorem dX2_takeAway_5 : zD cX2_takeAway 5 (.ifCond .ne 4) 3 8 := ⟨by decide +kernel, rfl⟩
theorem dX2_takeAway_8 : zD cX2_takeAway 8 .return_ 1 9 := ⟨by decide +kernel, rfl⟩
theorem dX2_takeAway_9 : zD cX2_takeAway 9 (.iload_n 1) 1 10 := ⟨by decide +kernel, rfl⟩
theorem dX2_takeAway_10 : zD cX2_takeAway 10 (.istore_n 2) 1 11 := ⟨by decide +kernel, rfl⟩
theorem dX2_takeAway_11 : zD cX2_takeAway 11 (.iload_n 2) 1 12 := ⟨by decide +kernel, rfl⟩
theorem dX2_takeAway_12 : zD cX2_takeAway 12 (.iconst 1) 1 13 := ⟨by decide +kernel, rfl⟩
theorem dX2_takeAway_13 : zD cX2_takeAway 13 .iadd 1 14 := ⟨by decide +kernel, rfl⟩
theorem dX2_takeAway_14 : zD cX2_takeAway 14 (.aload_n 0) 1 15 := ⟨by decide +kernel, rfl⟩
theorem dX2_takeAway_15 : zD cX2_takeAway 15 (.getfield 27) 3 18 := ⟨by decide +kernel, rfl⟩
theorem dX2_takeAway_18 : zD cX2_takeAway 18 (.if_icmp .ge 79) 3 21 := ⟨by decide +kernel, rfl⟩
theorem dX2_takeAway_21 : zD cX2_takeAway 21 (.aload_n 0) 1 22 := ⟨by decide +kernel, rfl⟩
theorem dX2_takeAway_22 : zD cX2_takeAway 22 (.getfield 9) 3 25 := ⟨by decide +kernel, rfl⟩
theorem dX2_takeAway_25 : zD cX2_takeAway 25 (.iload_n 2) 1 26 := ⟨by decide +kernel, rfl⟩
theorem dX2_takeAway_26 : zD cX2_takeAway 26 (.aload_n 0) 1 27 := ⟨by decide +kernel, rfl⟩
theorem dX2_takeAway_27 : zD cX2_takeAway 27 (.getfield 9) 3 30 := ⟨by decide +kernel, rfl⟩
theorem dX2_takeAway_30 : zD cX2_takeAway 30 (.iload_n 2) 1 31 := ⟨by decide +kernel, rfl⟩
theorem dX2_takeAway_31 : zD cX2_takeAway 31 (.iconst 1) 1 32 := ⟨by decide +kernel, rfl⟩
theorem dX2_takeAway_32 : zD cX2_takeAway 32 .iadd 1 33 := ⟨by decide +kernel, rfl⟩
theorem dX2_takeAway_33 : zD cX2_takeAway 33 .iaload 1 34 := ⟨by decide +kernel, rfl⟩
theorem dX2_takeAway_34 : zD cX2_takeAway 34 .iastore 1 35 := ⟨by decide +kernel, rfl⟩
theorem dX2_takeAway_35 : zD cX2_takeAway 35 (.aload_n 0) 1 36 := ⟨by decide +kernel, rfl⟩
theorem dX2_takeAway_36 : zD cX2_takeAway 36 (.getfield 15) 3 39 := ⟨by decide +kernel, rfl⟩
theorem dX2_takeAway_39 : zD cX2_takeAway 39 (.iload_n 2) 1 40 := ⟨by decide +kernel, rfl⟩
theorem dX2_takeAway_40 : zD cX2_takeAway 40 (.aload_n 0) 1 41 := ⟨by decide +kernel, rfl⟩
theorem dX2_takeAway_41 : zD cX2_takeAway 41 (.getfield 15) 3 44 := ⟨by decide +kernel, rfl⟩
theorem dX2_takeAway_44 : zD cX2_takeAway 44 (.iload_n 2) 1 45 := ⟨by decide +kernel, rfl⟩
theorem dX2_takeAway_45 : zD cX2_takeAway 45 (.iconst 1) 1 46 := ⟨by decide +kernel, rfl⟩
theorem dX2_takeAway_46 : zD cX2_takeAway 46 .iadd 1 47 := ⟨by decide +kernel, rfl⟩
theorem dX2_takeAway_47 : zD cX2_takeAway 47 .iaload 1 48 := ⟨by decide +kernel, rfl⟩
theorem dX2_takeAway_48 : zD cX2_takeAway 48 .iastore 1 49 := ⟨by decide +kernel, rfl⟩
theorem dX2_takeAway_49 : zD cX2_takeAway 49 (.aload_n 0) 1 50 := ⟨by decide +kernel, rfl⟩
theorem dX2_takeAway_50 : zD cX2_takeAway 50 (.getfield 18) 3 53 := ⟨by decide +kernel, rfl⟩
theorem dX2_takeAway_53 : zD cX2_takeAway 53 (.iload_n 2) 1 54 := ⟨by decide +kernel, rfl⟩
theorem dX2_takeAway_54 : zD cX2_takeAway 54 (.aload_n 0) 1 55 := ⟨by decide +kernel, rfl⟩
theorem dX2_takeAway_55 : zD cX2_takeAway 55 (.getfield 18) 3 58 := ⟨by decide +kernel, rfl⟩
theorem dX2_takeAway_58 : zD cX2_takeAway 58 (.iload_n 2) 1 59 := ⟨by decide +kernel, rfl⟩
theorem dX2_takeAway_59 : zD cX2_takeAway 59 (.iconst 1) 1 60 := ⟨by decide +kernel, rfl⟩
theorem dX2_takeAway_60 : zD cX2_takeAway 60 .iadd 1 61 := ⟨by decide +kernel, rfl⟩
theorem dX2_takeAway_61 : zD cX2_takeAway 61 .iaload 1 62 := ⟨by decide +kernel, rfl⟩
theorem dX2_takeAway_62 : zD cX2_takeAway 62 .iastore 1 63 := ⟨by decide +kernel, rfl⟩
theorem dX2_takeAway_63 : zD cX2_takeAway 63 (.aload_n 0) 1 64 := ⟨by decide +kernel, rfl⟩
theorem dX2_takeAway_64 : zD cX2_takeAway 64 (.getfield 21) 3 67 := ⟨by decide +kernel, rfl⟩
theorem dX2_takeAway_67 : zD cX2_takeAway 67 (.iload_n 2) 1 68 := ⟨by decide +kernel, rfl⟩
theorem dX2_takeAway_68 : zD cX2_takeAway 68 (.aload_n 0) 1 69 := ⟨by decide +kernel, rfl⟩
theorem dX2_takeAway_69 : zD cX2_takeAway 69 (.getfield 21) 3 72 := ⟨by decide +kernel, rfl⟩
theorem dX2_takeAway_72 : zD cX2_takeAway 72 (.iload_n 2) 1 73 := ⟨by decide +kernel, rfl⟩
theorem dX2_takeAway_73 : zD cX2_takeAway 73 (.iconst 1) 1 74 := ⟨by decide +kernel, rfl⟩
theorem dX2_takeAway_74 : zD cX2_takeAway 74 .iadd 1 75 := ⟨by decide +kernel, rfl⟩
theorem dX2_takeAway_75 : zD cX2_takeAway 75 .iaload 1 76 := ⟨by decide +kernel, rfl⟩
theorem dX2_takeAway_76 : zD cX2_takeAway 76 .iastore 1 77 := ⟨by decide +kernel, rfl⟩
theorem dX2_takeAway_77 : zD cX2_takeAway 77 (.aload_n 0) 1 78 := ⟨by decide +kernel, rfl⟩
theorem dX2_takeAway_78 : zD cX2_takeAway 78 (.getfield 24) 3 81 := ⟨by decide +kernel, rfl⟩
theorem dX2_takeAway_81 : zD cX2_takeAway 81 (.iload_n 2) 1 82 := ⟨by decide +kernel, rfl⟩
theorem dX2_takeAway_82 : zD cX2_takeAway 82 (.aload_n 0) 1 83 := ⟨by decide +kernel, rfl⟩
theorem dX2_takeAway_83 : zD cX2_takeAway 83 (.getfield 24) 3 86 := ⟨by decide +kernel, rfl⟩
theorem dX2_takeAway_86 : zD cX2_takeAway 86 (.iload_n 2) 1 87 := ⟨by decide +kernel, rfl⟩
theorem dX2_takeAway_87 : zD cX2_takeAway 87 (.iconst 1) 1 88 := ⟨by decide +kernel, rfl⟩
theorem dX2_takeAway_88 : zD cX2_takeAway 88 .iadd 1 89 := ⟨by decide +kernel, rfl⟩
theorem dX2_takeAway_89 : zD cX2_takeAway 89 .iaload 1 90 := ⟨by decide +kernel, rfl⟩
theorem dX2_takeAway_90 : zD cX2_takeAway 90 .iastore 1 91 := ⟨by decide +kernel, rfl⟩
theorem dX2_takeAway_91 : zD cX2_takeAway 91 (.iinc 2 1) 3 94 := ⟨by decide +kernel, rfl⟩
theorem dX2_takeAway_94 : zD cX2_takeAway 94 (.goto (-83)) 3 97 := ⟨by decide +kernel, rfl⟩
theorem dX2_takeAway_97 : zD cX2_takeAway 97 (.aload_n 0) 1 98 := ⟨by decide +kernel, rfl⟩
theorem dX2_takeAway_98 : zD cX2_takeAway 98 .dup 1 99 := ⟨by decide +kernel, rfl⟩
theorem dX2_takeAway_99 : zD cX2_takeAway 99 (.getfield 27) 3 102 := ⟨by decide +kernel, rfl⟩
theorem dX2_takeAway_102 : zD cX2_takeAway 102 (.iconst 1) 1 103 := ⟨by decide +kernel, rfl⟩
theorem dX2_takeAway_103 : zD cX2_takeAway 103 .isub 1 104 := ⟨by decide +kernel, rfl⟩
theorem dX2_takeAway_104 : zD cX2_takeAway 104 (.putfield 27) 3 107 := ⟨by decide +kernel, rfl⟩
theorem dX2_takeAway_107 : zD cX2_takeAway 107 .return_ 1 108 := ⟨by decide +kernel, rfl⟩
theorem dX2_refusalOfStep_0 : zD cX2_refusalOfStep 0 (.aload_n 0) 1 1 := ⟨by decide +kernel, rfl⟩
theorem dX2_refusalOfStep_1 : zD cX2_refusalOfStep 1 (.iload_n 1) 1 2 := ⟨by decide +kernel, rfl⟩
theorem dX2_refusalOfStep_2 : zD cX2_refusalOfStep 2 (.invokevirtual 61) 3 5 := ⟨by decide +kernel, rfl⟩
theorem dX2_refusalOfStep_5 : zD cX2_refusalOfStep 5 (.ifCond .ne 6) 3 8 := ⟨by decide +kernel, rfl⟩
theorem dX2_refusalOfStep_8 : zD cX2_refusalOfStep 8 (.ldc 80) 2 10 := ⟨by decide +kernel, rfl⟩
theorem dX2_refusalOfStep_10 : zD cX2_refusalOfStep 10 .ireturn 1 11 := ⟨by decide +kernel, rfl⟩
theorem dX2_refusalOfStep_11 : zD cX2_refusalOfStep 11 (.iload_n 2) 1 12 := ⟨by decide +kernel, rfl⟩
theorem dX2_refusalOfStep_12 : zD cX2_refusalOfStep 12 (.invokestatic 81) 3 15 := ⟨by decide +kernel, rfl⟩
theorem dX2_refusalOfStep_15 : zD cX2_refusalOfStep 15 (.ifCond .eq 10) 3 18 := ⟨by decide +kernel, rfl⟩
theorem dX2_refusalOfStep_18 : zD cX2_refusalOfStep 18 (.iload_n 3) 1 19 := ⟨by decide +kernel, rfl⟩
theorem dX2_refusalOfStep_19 : zD cX2_refusalOfStep 19 (.invokestatic 81) 3 22 := ⟨by decide +kernel, rfl⟩
theorem dX2_refusalOfStep_22 : zD cX2_refusalOfStep 22 (.ifCond .ne 6) 3 25 := ⟨by decide +kernel, rfl⟩
theorem dX2_refusalOfStep_25 : zD cX2_refusalOfStep 25 (.ldc 69) 2 27 := ⟨by decide +kernel, rfl⟩
theorem dX2_refusalOfStep_27 : zD cX2_refusalOfStep 27 .ireturn 1 28 := ⟨by decide +kernel, rfl⟩
theorem dX2_refusalOfStep_28 : zD cX2_refusalOfStep 28 (.aload_n 0) 1 29 := ⟨by decide +kernel, rfl⟩
theorem dX2_refusalOfStep_29 : zD cX2_refusalOfStep 29 (.getfield 9) 3 32 := ⟨by decide +kernel, rfl⟩
theorem dX2_refusalOfStep_32 : zD cX2_refusalOfStep 32 (.iload_n 1) 1 33 := ⟨by decide +kernel, rfl⟩
theorem dX2_refusalOfStep_33 : zD cX2_refusalOfStep 33 .iaload 1 34 := ⟨by decide +kernel, rfl⟩
theorem dX2_refusalOfStep_34 : zD cX2_refusalOfStep 34 (.iload_n 2) 1 35 := ⟨by decide +kernel, rfl⟩
theorem dX2_refusalOfStep_35 : zD cX2_refusalOfStep 35 .iadd 1 36 := ⟨by decide +kernel, rfl⟩
theorem dX2_refusalOfStep_36 : zD cX2_refusalOfStep 36 (.istore 4) 2 38 := ⟨by decide +kernel, rfl⟩
theorem dX2_refusalOfStep_38 : zD cX2_refusalOfStep 38 (.aload_n 0) 1 39 := ⟨by decide +kernel, rfl⟩
theorem dX2_refusalOfStep_39 : zD cX2_refusalOfStep 39 (.getfield 15) 3 42 := ⟨by decide +kernel, rfl⟩
theorem dX2_refusalOfStep_42 : zD cX2_refusalOfStep 42 (.iload_n 1) 1 43 := ⟨by decide +kernel, rfl⟩
theorem dX2_refusalOfStep_43 : zD cX2_refusalOfStep 43 .iaload 1 44 := ⟨by decide +kernel, rfl⟩
theorem dX2_refusalOfStep_44 : zD cX2_refusalOfStep 44 (.iload_n 3) 1 45 := ⟨by decide +kernel, rfl⟩
theorem dX2_refusalOfStep_45 : zD cX2_refusalOfStep 45 .iadd 1 46 := ⟨by decide +kernel, rfl⟩
theorem dX2_refusalOfStep_46 : zD cX2_refusalOfStep 46 (.istore 5) 2 48 := ⟨by decide +kernel, rfl⟩
theorem dX2_refusalOfStep_48 : zD cX2_refusalOfStep 48 (.aload_n 0) 1 49 := ⟨by decide +kernel, rfl⟩
theorem dX2_refusalOfStep_49 : zD cX2_refusalOfStep 49 (.getfield 18) 3 52 := ⟨by decide +kernel, rfl⟩
theorem dX2_refusalOfStep_52 : zD cX2_refusalOfStep 52 (.iload_n 1) 1 53 := ⟨by decide +kernel, rfl⟩
theorem dX2_refusalOfStep_53 : zD cX2_refusalOfStep 53 .iaload 1 54 := ⟨by decide +kernel, rfl⟩
theorem dX2_refusalOfStep_54 : zD cX2_refusalOfStep 54 (.iload_n 2) 1 55 := ⟨by decide +kernel, rfl⟩
theorem dX2_refusalOfStep_55 : zD cX2_refusalOfStep 55 .iadd 1 56 := ⟨by decide +kernel, rfl⟩
theorem dX2_refusalOfStep_56 : zD cX2_refusalOfStep 56 (.istore 6) 2 58 := ⟨by decide +kernel, rfl⟩
theorem dX2_refusalOfStep_58 : zD cX2_refusalOfStep 58 (.aload_n 0) 1 59 := ⟨by decide +kernel, rfl⟩
theorem dX2_refusalOfStep_59 : zD cX2_refusalOfStep 59 (.getfield 21) 3 62 := ⟨by decide +kernel, rfl⟩
theorem dX2_refusalOfStep_62 : zD cX2_refusalOfStep 62 (.iload_n 1) 1 63 := ⟨by decide +kernel, rfl⟩
theorem dX2_refusalOfStep_63 : zD cX2_refusalOfStep 63 .iaload 1 64 := ⟨by decide +kernel, rfl⟩
theorem dX2_refusalOfStep_64 : zD cX2_refusalOfStep 64 (.iload_n 3) 1 65 := ⟨by decide +kernel, rfl⟩
theorem dX2_refusalOfStep_65 : zD cX2_refusalOfStep 65 .iadd 1 66 := ⟨by decide +kernel, rfl⟩
theorem dX2_refusalOfStep_66 : zD cX2_refusalOfStep 66 (.istore 7) 2 68 := ⟨by decide +kernel, rfl⟩
theorem dX2_refusalOfStep_68 : zD cX2_refusalOfStep 68 (.iload 4) 2 70 := ⟨by decide +kernel, rfl⟩
theorem dX2_refusalOfStep_70 : zD cX2_refusalOfStep 70 (.iload 5) 2 72 := ⟨by decide +kernel, rfl⟩
theorem dX2_refusalOfStep_72 : zD cX2_refusalOfStep 72 (.iload 6) 2 74 := ⟨by decide +kernel, rfl⟩
theorem dX2_refusalOfStep_74 : zD cX2_refusalOfStep 74 (.iload 7) 2 76 := ⟨by decide +kernel, rfl⟩
theorem dX2_refusalOfStep_76 : zD cX2_refusalOfStep 76 (.invokestatic 65) 3 79 := ⟨by decide +kernel, rfl⟩
theorem dX2_refusalOfStep_79 : zD cX2_refusalOfStep 79 (.ifCond .eq 23) 3 82 := ⟨by decide +kernel, rfl⟩
theorem dX2_refusalOfStep_82 : zD cX2_refusalOfStep 82 (.aload_n 0) 1 83 := ⟨by decide +kernel, rfl⟩
theorem dX2_refusalOfStep_83 : zD cX2_refusalOfStep 83 (.iload 4) 2 85 := ⟨by decide +kernel, rfl⟩
theorem dX2_refusalOfStep_85 : zD cX2_refusalOfStep 85 (.iload 5) 2 87 := ⟨by decide +kernel, rfl⟩
theorem dX2_refusalOfStep_87 : zD cX2_refusalOfStep 87 (.iload 6) 2 89 := ⟨by decide +kernel, rfl⟩
theorem dX2_refusalOfStep_89 : zD cX2_refusalOfStep 89 (.iload 7) 2 91 := ⟨by decide +kernel, rfl⟩
theorem dX2_refusalOfStep_91 : zD cX2_refusalOfStep 91 (.iload_n 1) 1 92 := ⟨by decide +kernel, rfl⟩
theorem dX2_refusalOfStep_92 : zD cX2_refusalOfStep 92 (.invokevirtual 70) 3 95 := ⟨by decide +kernel, rfl⟩
theorem dX2_refusalOfStep_95 : zD cX2_refusalOfStep 95 (.ifCond .eq 7) 3 98 := ⟨by decide +kernel, rfl⟩
theorem dX2_refusalOfStep_98 : zD cX2_refusalOfStep 98 (.iconst 1) 1 99 := ⟨by decide +kernel, rfl⟩
theorem dX2_refusalOfStep_99 : zD cX2_refusalOfStep 99 (.goto 4) 3 102 := ⟨by decide +kernel, rfl⟩
theorem dX2_refusalOfStep_102 : zD cX2_refusalOfStep 102 (.iconst 0) 1 103 := ⟨by decide +kernel, rfl⟩
theorem dX2_refusalOfStep_103 : zD cX2_refusalOfStep 103 (.istore 8) 2 105 := ⟨by decide +kernel, rfl⟩
theorem dX2_refusalOfStep_105 : zD cX2_refusalOfStep 105 (.iload 8) 2 107 := ⟨by decide +kernel, rfl⟩
theorem dX2_refusalOfStep_107 : zD cX2_refusalOfStep 107 (.ifCond .eq 7) 3 110 := ⟨by decide +kernel, rfl⟩
theorem dX2_refusalOfStep_110 : zD cX2_refusalOfStep 110 (.iconst 0) 1 111 := ⟨by decide +kernel, rfl⟩
theorem dX2_refusalOfStep_111 : zD cX2_refusalOfStep 111 (.goto 5) 3 114 := ⟨by decide +kernel, rfl⟩
theorem dX2_refusalOfStep_114 : zD cX2_refusalOfStep 114 (.ldc 74) 2 116 := ⟨by decide +kernel, rfl⟩
theorem dX2_refusalOfStep_116 : zD cX2_refusalOfStep 116 .ireturn 1 117 := ⟨by decide +kernel, rfl⟩
theorem dX2_step_0 : zD cX2_step 0 (.aload_n 0) 1 1 := ⟨by decide +kernel, rfl⟩
theorem dX2_step_1 : zD cX2_step 1 (.iload_n 1) 1 2 := ⟨by decide +kernel, rfl⟩
theorem dX2_step_2 : zD cX2_step 2 (.invokevirtual 61) 3 5 := ⟨by decide +kernel, rfl⟩
theorem dX2_step_5 : zD cX2_step 5 (.ifCond .ne 4) 3 8 := ⟨by decide +kernel, rfl⟩
theorem dX2_step_8 : zD cX2_step 8 .return_ 1 9 := ⟨by decide +kernel, rfl⟩
theorem dX2_step_9 : zD cX2_step 9 (.aload_n 0) 1 10 := ⟨by decide +kernel, rfl⟩
theorem dX2_step_10 : zD cX2_step 10 (.getfield 9) 3 13 := ⟨by decide +kernel, rfl⟩
theorem dX2_step_13 : zD cX2_step 13 (.iload_n 1) 1 14 := ⟨by decide +kernel, rfl⟩
theorem dX2_step_14 : zD cX2_step 14 .dup2 1 15 := ⟨by decide +kernel, rfl⟩
theorem dX2_step_15 : zD cX2_step 15 .iaload 1 16 := ⟨by decide +kernel, rfl⟩
theorem dX2_step_16 : zD cX2_step 16 (.iload_n 2) 1 17 := ⟨by decide +kernel, rfl⟩
theorem dX2_step_17 : zD cX2_step 17 .iadd 1 18 := ⟨by decide +kernel, rfl⟩
theorem dX2_step_18 : zD cX2_step 18 .iastore 1 19 := ⟨by decide +kernel, rfl⟩
theorem dX2_step_19 : zD cX2_step 19 (.aload_n 0) 1 20 := ⟨by decide +kernel, rfl⟩
theorem dX2_step_20 : zD cX2_step 20 (.getfield 15) 3 23 := ⟨by decide +kernel, rfl⟩
theorem dX2_step_23 : zD cX2_step 23 (.iload_n 1) 1 24 := ⟨by decide +kernel, rfl⟩
theorem dX2_step_24 : zD cX2_step 24 .dup2 1 25 := ⟨by decide +kernel, rfl⟩
theorem dX2_step_25 : zD cX2_step 25 .iaload 1 26 := ⟨by decide +kernel, rfl⟩
theorem dX2_step_26 : zD cX2_step 26 (.iload_n 3) 1 27 := ⟨by decide +kernel, rfl⟩
theorem dX2_step_27 : zD cX2_step 27 .iadd 1 28 := ⟨by decide +kernel, rfl⟩
theorem dX2_step_28 : zD cX2_step 28 .iastore 1 29 := ⟨by decide +kernel, rfl⟩
theorem dX2_step_29 : zD cX2_step 29 (.aload_n 0) 1 30 := ⟨by decide +kernel, rfl⟩
theorem dX2_step_30 : zD cX2_step 30 (.getfield 18) 3 33 := ⟨by decide +kernel, rfl⟩
theorem dX2_step_33 : zD cX2_step 33 (.iload_n 1) 1 34 := ⟨by decide +kernel, rfl⟩
theorem dX2_step_34 : zD cX2_step 34 .dup2 1 35 := ⟨by decide +kernel, rfl⟩
theorem dX2_step_35 : zD cX2_step 35 .iaload 1 36 := ⟨by decide +kernel, rfl⟩
theorem dX2_step_36 : zD cX2_step 36 (.iload_n 2) 1 37 := ⟨by decide +kernel, rfl⟩
theorem dX2_step_37 : zD cX2_step 37 .iadd 1 38 := ⟨by decide +kernel, rfl⟩
theorem dX2_step_38 : zD cX2_step 38 .iastore 1 39 := ⟨by decide +kernel, rfl⟩
theorem dX2_step_39 : zD cX2_step 39 (.aload_n 0) 1 40 := ⟨by decide +kernel, rfl⟩
theorem dX2_step_40 : zD cX2_step 40 (.getfield 21) 3 43 := ⟨by decide +kernel, rfl⟩
theorem dX2_step_43 : zD cX2_step 43 (.iload_n 1) 1 44 := ⟨by decide +kernel, rfl⟩
theorem dX2_step_44 : zD cX2_step 44 .dup2 1 45 := ⟨by decide +kernel, rfl⟩
theorem dX2_step_45 : zD cX2_step 45 .iaload 1 46 := ⟨by decide +kernel, rfl⟩
theorem dX2_step_46 : zD cX2_step 46 (.iload_n 3) 1 47 := ⟨by decide +kernel, rfl⟩
theorem dX2_step_47 : zD cX2_step 47 .iadd 1 48 := ⟨by decide +kernel, rfl⟩
theorem dX2_step_48 : zD cX2_step 48 .iastore 1 49 := ⟨by decide +kernel, rfl⟩
theorem dX2_step_49 : zD cX2_step 49 (.aload_n 0) 1 50 := ⟨by decide +kernel, rfl⟩
theorem dX2_step_50 : zD cX2_step 50 (.getfield 24) 3 53 := ⟨by decide +kernel, rfl⟩
theorem dX2_step_53 : zD cX2_step 53 (.iload_n 1) 1 54 := ⟨by decide +kernel, rfl⟩
theorem dX2_step_54 : zD cX2_step 54 (.iload_n 2) 1 55 := ⟨by decide +kernel, rfl⟩
theorem dX2_step_55 : zD cX2_step 55 (.ifCond .lt 14) 3 58 := ⟨by decide +kernel, rfl⟩
theorem dX2_step_58 : zD cX2_step 58 (.aload_n 0) 1 59 := ⟨by decide +kernel, rfl⟩
theorem dX2_step_59 : zD cX2_step 59 (.getfield 24) 3 62 := ⟨by decide +kernel, rfl⟩
theorem dX2_step_62 : zD cX2_step 62 (.iload_n 1) 1 63 := ⟨by decide +kernel, rfl⟩
theorem dX2_step_63 : zD cX2_step 63 .iaload 1 64 := ⟨by decide +kernel, rfl⟩
theorem dX2_step_64 : zD cX2_step 64 (.iload_n 2) 1 65 := ⟨by decide +kernel, rfl⟩
theorem dX2_step_65 : zD cX2_step 65 .ishl 1 66 := ⟨by decide +kernel, rfl⟩
theorem dX2_step_66 : zD cX2_step 66 (.goto 12) 3 69 := ⟨by decide +kernel, rfl⟩
theorem dX2_step_69 : zD cX2_step 69 (.aload_n 0) 1 70 := ⟨by decide +kernel, rfl⟩
theorem dX2_step_70 : zD cX2_step 70 (.getfield 24) 3 73 := ⟨by decide +kernel, rfl⟩
theorem dX2_step_73 : zD cX2_step 73 (.iload_n 1) 1 74 := ⟨by decide +kernel, rfl⟩
theorem dX2_step_74 : zD cX2_step 74 .iaload 1 75 := ⟨by decide +kernel, rfl⟩
theorem dX2_step_75 : zD cX2_step 75 (.iload_n 2) 1 76 := ⟨by decide +kernel, rfl⟩
theorem dX2_step_76 : zD cX2_step 76 .ineg 1 77 := ⟨by decide +kernel, rfl⟩
theorem dX2_step_77 : zD cX2_step 77 .ishr 1 78 := ⟨by decide +kernel, rfl⟩
theorem dX2_step_78 : zD cX2_step 78 .iastore 1 79 := ⟨by decide +kernel, rfl⟩
theorem dX2_step_79 : zD cX2_step 79 .return_ 1 80 := ⟨by decide +kernel, rfl⟩
theorem dX2_refusalOfCut_0 : zD cX2_refusalOfCut 0 (.aload_n 0) 1 1 := ⟨by decide +kernel, rfl⟩
theorem dX2_refusalOfCut_1 : zD cX2_refusalOfCut 1 (.iload_n 1) 1 2 := ⟨by decide +kernel, rfl⟩
theorem dX2_refusalOfCut_2 : zD cX2_refusalOfCut 2 (.invokevirtual 61) 3 5 := ⟨by decide +kernel, rfl⟩
theorem dX2_refusalOfCut_5 : zD cX2_refusalOfCut 5 (.ifCond .ne 6) 3 8 := ⟨by decide +kernel, rfl⟩
theorem dX2_refusalOfCut_8 : zD cX2_refusalOfCut 8 (.ldc 80) 2 10 := ⟨by decide +kernel, rfl⟩
theorem dX2_refusalOfCut_10 : zD cX2_refusalOfCut 10 .ireturn 1 11 := ⟨by decide +kernel, rfl⟩
theorem dX2_refusalOfCut_11 : zD cX2_refusalOfCut 11 (.iload_n 2) 1 12 := ⟨by decide +kernel, rfl⟩
theorem dX2_refusalOfCut_12 : zD cX2_refusalOfCut 12 (.invokestatic 84) 3 15 := ⟨by decide +kernel, rfl⟩
theorem dX2_refusalOfCut_15 : zD cX2_refusalOfCut 15 (.ifCond .ne 6) 3 18 := ⟨by decide +kernel, rfl⟩
theorem dX2_refusalOfCut_18 : zD cX2_refusalOfCut 18 (.ldc 69) 2 20 := ⟨by decide +kernel, rfl⟩
theorem dX2_refusalOfCut_20 : zD cX2_refusalOfCut 20 .ireturn 1 21 := ⟨by decide +kernel, rfl⟩
theorem dX2_refusalOfCut_21 : zD cX2_refusalOfCut 21 (.aload_n 0) 1 22 := ⟨by decide +kernel, rfl⟩
theorem dX2_refusalOfCut_22 : zD cX2_refusalOfCut 22 (.getfield 9) 3 25 := ⟨by decide +kernel, rfl⟩
theorem dX2_refusalOfCut_25 : zD cX2_refusalOfCut 25 (.iload_n 1) 1 26 := ⟨by decide +kernel, rfl⟩
theorem dX2_refusalOfCut_26 : zD cX2_refusalOfCut 26 .iaload 1 27 := ⟨by decide +kernel, rfl⟩
theorem dX2_refusalOfCut_27 : zD cX2_refusalOfCut 27 (.iload_n 2) 1 28 := ⟨by decide +kernel, rfl⟩
theorem dX2_refusalOfCut_28 : zD cX2_refusalOfCut 28 (.if_icmp .gt 19) 3 31 := ⟨by decide +kernel, rfl⟩
theorem dX2_refusalOfCut_31 : zD cX2_refusalOfCut 31 (.iload_n 2) 1 32 := ⟨by decide +kernel, rfl⟩
theorem dX2_refusalOfCut_32 : zD cX2_refusalOfCut 32 (.iconst 1) 1 33 := ⟨by decide +kernel, rfl⟩
theorem dX2_refusalOfCut_33 : zD cX2_refusalOfCut 33 .iadd 1 34 := ⟨by decide +kernel, rfl⟩
theorem dX2_refusalOfCut_34 : zD cX2_refusalOfCut 34 (.aload_n 0) 1 35 := ⟨by decide +kernel, rfl⟩
theorem dX2_refusalOfCut_35 : zD cX2_refusalOfCut 35 (.getfield 18) 3 38 := ⟨by decide +kernel, rfl⟩
theorem dX2_refusalOfCut_38 : zD cX2_refusalOfCut 38 (.iload_n 1) 1 39 := ⟨by decide +kernel, rfl⟩
theorem dX2_refusalOfCut_39 : zD cX2_refusalOfCut 39 .iaload 1 40 := ⟨by decide +kernel, rfl⟩
theorem dX2_refusalOfCut_40 : zD cX2_refusalOfCut 40 (.if_icmp .gt 7) 3 43 := ⟨by decide +kernel, rfl⟩
theorem dX2_refusalOfCut_43 : zD cX2_refusalOfCut 43 (.iconst 1) 1 44 := ⟨by decide +kernel, rfl⟩
theorem dX2_refusalOfCut_44 : zD cX2_refusalOfCut 44 (.goto 4) 3 47 := ⟨by decide +kernel, rfl⟩
theorem dX2_refusalOfCut_47 : zD cX2_refusalOfCut 47 (.iconst 0) 1 48 := ⟨by decide +kernel, rfl⟩
theorem dX2_refusalOfCut_48 : zD cX2_refusalOfCut 48 (.istore_n 3) 1 49 := ⟨by decide +kernel, rfl⟩
theorem dX2_refusalOfCut_49 : zD cX2_refusalOfCut 49 (.iload_n 3) 1 50 := ⟨by decide +kernel, rfl⟩
theorem dX2_refusalOfCut_50 : zD cX2_refusalOfCut 50 (.ifCond .eq 25) 3 53 := ⟨by decide +kernel, rfl⟩
theorem dX2_refusalOfCut_53 : zD cX2_refusalOfCut 53 (.aload_n 0) 1 54 := ⟨by decide +kernel, rfl⟩
theorem dX2_refusalOfCut_54 : zD cX2_refusalOfCut 54 (.iload_n 1) 1 55 := ⟨by decide +kernel, rfl⟩
theorem dX2_refusalOfCut_55 : zD cX2_refusalOfCut 55 (.iload_n 2) 1 56 := ⟨by decide +kernel, rfl⟩
theorem dX2_refusalOfCut_56 : zD cX2_refusalOfCut 56 (.invokevirtual 87) 3 59 := ⟨by decide +kernel, rfl⟩
theorem dX2_refusalOfCut_59 : zD cX2_refusalOfCut 59 (.ifCond .ne 16) 3 62 := ⟨by decide +kernel, rfl⟩
theorem dX2_refusalOfCut_62 : zD cX2_refusalOfCut 62 (.aload_n 0) 1 63 := ⟨by decide +kernel, rfl⟩
theorem dX2_refusalOfCut_63 : zD cX2_refusalOfCut 63 (.getfield 24) 3 66 := ⟨by decide +kernel, rfl⟩
theorem dX2_refusalOfCut_66 : zD cX2_refusalOfCut 66 (.iload_n 1) 1 67 := ⟨by decide +kernel, rfl⟩
theorem dX2_refusalOfCut_67 : zD cX2_refusalOfCut 67 .iaload 1 68 := ⟨by decide +kernel, rfl⟩
theorem dX2_refusalOfCut_68 : zD cX2_refusalOfCut 68 (.invokestatic 52) 3 71 := ⟨by decide +kernel, rfl⟩
theorem dX2_refusalOfCut_71 : zD cX2_refusalOfCut 71 (.iconst 2) 1 72 := ⟨by decide +kernel, rfl⟩
theorem dX2_refusalOfCut_72 : zD cX2_refusalOfCut 72 (.if_icmp .lt 6) 3 75 := ⟨by decide +kernel, rfl⟩
theorem dX2_refusalOfCut_75 : zD cX2_refusalOfCut 75 (.ldc 74) 2 77 := ⟨by decide +kernel, rfl⟩
theorem dX2_refusalOfCut_77 : zD cX2_refusalOfCut 77 .ireturn 1 78 := ⟨by decide +kernel, rfl⟩
theorem dX2_refusalOfCut_78 : zD cX2_refusalOfCut 78 (.aload_n 0) 1 79 := ⟨by decide +kernel, rfl⟩
theorem dX2_refusalOfCut_79 : zD cX2_refusalOfCut 79 (.aload_n 0) 1 80 := ⟨by decide +kernel, rfl⟩
theorem dX2_refusalOfCut_80 : zD cX2_refusalOfCut 80 (.getfield 27) 3 83 := ⟨by decide +kernel, rfl⟩
theorem dX2_refusalOfCut_83 : zD cX2_refusalOfCut 83 (.invokevirtual 58) 3 86 := ⟨by decide +kernel, rfl⟩
theorem dX2_refusalOfCut_86 : zD cX2_refusalOfCut 86 (.bipush 14) 2 88 := ⟨by decide +kernel, rfl⟩
theorem dX2_refusalOfCut_88 : zD cX2_refusalOfCut 88 (.if_icmp .lt 8) 3 91 := ⟨by decide +kernel, rfl⟩
theorem dX2_refusalOfCut_91 : zD cX2_refusalOfCut 91 (.ldc 79) 2 93 := ⟨by decide +kernel, rfl⟩
theorem dX2_refusalOfCut_93 : zD cX2_refusalOfCut 93 (.goto 4) 3 96 := ⟨by decide +kernel, rfl⟩
theorem dX2_refusalOfCut_96 : zD cX2_refusalOfCut 96 (.iconst 0) 1 97 := ⟨by decide +kernel, rfl⟩
theorem dX2_refusalOfCut_97 : zD cX2_refusalOfCut 97 .ireturn 1 98 := ⟨by decide +kernel, rfl⟩
theorem dX2_refusalOfHealing_0 : zD cX2_refusalOfHealing 0 (.aload_n 0) 1 1 := ⟨by decide +kernel, rfl⟩
theorem dX2_refusalOfHealing_1 : zD cX2_refusalOfHealing 1 (.iload_n 1) 1 2 := ⟨by decide +kernel, rfl⟩
theorem dX2_refusalOfHealing_2 : zD cX2_refusalOfHealing 2 (.invokevirtual 61) 3 5 := ⟨by decide +kernel, rfl⟩
theorem dX2_refusalOfHealing_5 : zD cX2_refusalOfHealing 5 (.ifCond .ne 6) 3 8 := ⟨by decide +kernel, rfl⟩
theorem dX2_refusalOfHealing_8 : zD cX2_refusalOfHealing 8 (.ldc 80) 2 10 := ⟨by decide +kernel, rfl⟩
theorem dX2_refusalOfHealing_10 : zD cX2_refusalOfHealing 10 .ireturn 1 11 := ⟨by decide +kernel, rfl⟩
theorem dX2_refusalOfHealing_11 : zD cX2_refusalOfHealing 11 (.iload_n 2) 1 12 := ⟨by decide +kernel, rfl⟩
theorem dX2_refusalOfHealing_12 : zD cX2_refusalOfHealing 12 (.invokestatic 84) 3 15 := ⟨by decide +kernel, rfl⟩
theorem dX2_refusalOfHealing_15 : zD cX2_refusalOfHealing 15 (.ifCond .ne 6) 3 18 := ⟨by decide +kernel, rfl⟩
theorem dX2_refusalOfHealing_18 : zD cX2_refusalOfHealing 18 (.ldc 69) 2 20 := ⟨by decide +kernel, rfl⟩
theorem dX2_refusalOfHealing_20 : zD cX2_refusalOfHealing 20 .ireturn 1 21 := ⟨by decide +kernel, rfl⟩
theorem dX2_refusalOfHealing_21 : zD cX2_refusalOfHealing 21 (.aload_n 0) 1 22 := ⟨by decide +kernel, rfl⟩
theorem dX2_refusalOfHealing_22 : zD cX2_refusalOfHealing 22 (.iload_n 1) 1 23 := ⟨by decide +kernel, rfl⟩
theorem dX2_refusalOfHealing_23 : zD cX2_refusalOfHealing 23 (.iload_n 2) 1 24 := ⟨by decide +kernel, rfl⟩
theorem dX2_refusalOfHealing_24 : zD cX2_refusalOfHealing 24 (.invokevirtual 87) 3 27 := ⟨by decide +kernel, rfl⟩
theorem dX2_refusalOfHealing_27 : zD cX2_refusalOfHealing 27 (.ifCond .eq 7) 3 30 := ⟨by decide +kernel, rfl⟩
theorem dX2_refusalOfHealing_30 : zD cX2_refusalOfHealing 30 (.iconst 0) 1 31 := ⟨by decide +kernel, rfl⟩
theorem dX2_refusalOfHealing_31 : zD cX2_refusalOfHealing 31 (.goto 5) 3 34 := ⟨by decide +kernel, rfl⟩
theorem dX2_refusalOfHealing_34 : zD cX2_refusalOfHealing 34 (.ldc 74) 2 36 := ⟨by decide +kernel, rfl⟩
theorem dX2_refusalOfHealing_36 : zD cX2_refusalOfHealing 36 .ireturn 1 37 := ⟨by decide +kernel, rfl⟩
theorem dX2_mirror_0 : zD cX2_mirror 0 (.iconst 0) 1 1 := ⟨by decide +kernel, rfl⟩
theorem dX2_mirror_1 : zD cX2_mirror 1 (.istore_n 1) 1 2 := ⟨by decide +kernel, rfl⟩
theorem dX2_mirror_2 : zD cX2_mirror 2 (.iload_n 1) 1 3 := ⟨by decide +kernel, rfl⟩
theorem dX2_mirror_3 : zD cX2_mirror 3 (.aload_n 0) 1 4 := ⟨by decide +kernel, rfl⟩
theorem dX2_mirror_4 : zD cX2_mirror 4 (.getfield 27) 3 7 := ⟨by decide +kernel, rfl⟩
theorem dX2_mirror_7 : zD cX2_mirror 7 (.if_icmp .ge 56) 3 10 := ⟨by decide +kernel, rfl⟩
theorem dX2_mirror_10 : zD cX2_mirror 10 (.aload_n 0) 1 11 := ⟨by decide +kernel, rfl⟩
theorem dX2_mirror_11 : zD cX2_mirror 11 (.getfield 9) 3 14 := ⟨by decide +kernel, rfl⟩
theorem dX2_mirror_14 : zD cX2_mirror 14 (.iload_n 1) 1 15 := ⟨by decide +kernel, rfl⟩
theorem dX2_mirror_15 : zD cX2_mirror 15 .iaload 1 16 := ⟨by decide +kernel, rfl⟩
theorem dX2_mirror_16 : zD cX2_mirror 16 (.istore_n 2) 1 17 := ⟨by decide +kernel, rfl⟩
theorem dX2_mirror_17 : zD cX2_mirror 17 (.aload_n 0) 1 18 := ⟨by decide +kernel, rfl⟩
theorem dX2_mirror_18 : zD cX2_mirror 18 (.getfield 9) 3 21 := ⟨by decide +kernel, rfl⟩
theorem dX2_mirror_21 : zD cX2_mirror 21 (.iload_n 1) 1 22 := ⟨by decide +kernel, rfl⟩
theorem dX2_mirror_22 : zD cX2_mirror 22 (.bipush 15) 2 24 := ⟨by decide +kernel, rfl⟩
theorem dX2_mirror_24 : zD cX2_mirror 24 (.aload_n 0) 1 25 := ⟨by decide +kernel, rfl⟩
theorem dX2_mirror_25 : zD cX2_mirror 25 (.getfield 18) 3 28 := ⟨by decide +kernel, rfl⟩
theorem dX2_mirror_28 : zD cX2_mirror 28 (.iload_n 1) 1 29 := ⟨by decide +kernel, rfl⟩
theorem dX2_mirror_29 : zD cX2_mirror 29 .iaload 1 30 := ⟨by decide +kernel, rfl⟩
theorem dX2_mirror_30 : zD cX2_mirror 30 .isub 1 31 := ⟨by decide +kernel, rfl⟩
theorem dX2_mirror_31 : zD cX2_mirror 31 .iastore 1 32 := ⟨by decide +kernel, rfl⟩
theorem dX2_mirror_32 : zD cX2_mirror 32 (.aload_n 0) 1 33 := ⟨by decide +kernel, rfl⟩
theorem dX2_mirror_33 : zD cX2_mirror 33 (.getfield 18) 3 36 := ⟨by decide +kernel, rfl⟩
theorem dX2_mirror_36 : zD cX2_mirror 36 (.iload_n 1) 1 37 := ⟨by decide +kernel, rfl⟩
theorem dX2_mirror_37 : zD cX2_mirror 37 (.bipush 15) 2 39 := ⟨by decide +kernel, rfl⟩
theorem dX2_mirror_39 : zD cX2_mirror 39 (.iload_n 2) 1 40 := ⟨by decide +kernel, rfl⟩
theorem dX2_mirror_40 : zD cX2_mirror 40 .isub 1 41 := ⟨by decide +kernel, rfl⟩
theorem dX2_mirror_41 : zD cX2_mirror 41 .iastore 1 42 := ⟨by decide +kernel, rfl⟩
theorem dX2_mirror_42 : zD cX2_mirror 42 (.aload_n 0) 1 43 := ⟨by decide +kernel, rfl⟩
theorem dX2_mirror_43 : zD cX2_mirror 43 (.getfield 24) 3 46 := ⟨by decide +kernel, rfl⟩
theorem dX2_mirror_46 : zD cX2_mirror 46 (.iload_n 1) 1 47 := ⟨by decide +kernel, rfl⟩
theorem dX2_mirror_47 : zD cX2_mirror 47 (.aload_n 0) 1 48 := ⟨by decide +kernel, rfl⟩
theorem dX2_mirror_48 : zD cX2_mirror 48 (.getfield 24) 3 51 := ⟨by decide +kernel, rfl⟩
theorem dX2_mirror_51 : zD cX2_mirror 51 (.iload_n 1) 1 52 := ⟨by decide +kernel, rfl⟩
theorem dX2_mirror_52 : zD cX2_mirror 52 .iaload 1 53 := ⟨by decide +kernel, rfl⟩
theorem dX2_mirror_53 : zD cX2_mirror 53 (.invokestatic 91) 3 56 := ⟨by decide +kernel, rfl⟩
theorem dX2_mirror_56 : zD cX2_mirror 56 .iastore 1 57 := ⟨by decide +kernel, rfl⟩
theorem dX2_mirror_57 : zD cX2_mirror 57 (.iinc 1 1) 3 60 := ⟨by decide +kernel, rfl⟩
theorem dX2_mirror_60 : zD cX2_mirror 60 (.goto (-58)) 3 63 := ⟨by decide +kernel, rfl⟩
theorem dX2_mirror_63 : zD cX2_mirror 63 .return_ 1 64 := ⟨by decide +kernel, rfl⟩
theorem dX2_isBound_0 : zD cX2_isBound 0 (.iload_n 0) 1 1 := ⟨by decide +kernel, rfl⟩
theorem dX2_isBound_1 : zD cX2_isBound 1 (.tableswitch 76 0 2 #[27, 44, 60]) 27 28 := ⟨by decide +kernel, rfl⟩
theorem dX2_isBound_28 : zD cX2_isBound 28 (.iload_n 1) 1 29 := ⟨by decide +kernel, rfl⟩
theorem dX2_isBound_29 : zD cX2_isBound 29 (.iconst 1) 1 30 := ⟨by decide +kernel, rfl⟩
theorem dX2_isBound_30 : zD cX2_isBound 30 (.if_icmp .lt 13) 3 33 := ⟨by decide +kernel, rfl⟩
theorem dX2_isBound_33 : zD cX2_isBound 33 (.iload_n 1) 1 34 := ⟨by decide +kernel, rfl⟩
theorem dX2_isBound_34 : zD cX2_isBound 34 (.bipush 8) 2 36 := ⟨by decide +kernel, rfl⟩
theorem dX2_isBound_36 : zD cX2_isBound 36 (.if_icmp .gt 7) 3 39 := ⟨by decide +kernel, rfl⟩
theorem dX2_isBound_39 : zD cX2_isBound 39 (.iconst 1) 1 40 := ⟨by decide +kernel, rfl⟩
theorem dX2_isBound_40 : zD cX2_isBound 40 (.goto 4) 3 43 := ⟨by decide +kernel, rfl⟩
theorem dX2_isBound_43 : zD cX2_isBound 43 (.iconst 0) 1 44 := ⟨by decide +kernel, rfl⟩
theorem dX2_isBound_44 : zD cX2_isBound 44 .ireturn 1 45 := ⟨by decide +kernel, rfl⟩
theorem dX2_isBound_45 : zD cX2_isBound 45 (.iload_n 1) 1 46 := ⟨by decide +kernel, rfl⟩
theorem dX2_isBound_46 : zD cX2_isBound 46 (.ifCond .lt 13) 3 49 := ⟨by decide +kernel, rfl⟩
theorem dX2_isBound_49 : zD cX2_isBound 49 (.iload_n 1) 1 50 := ⟨by decide +kernel, rfl⟩
theorem dX2_isBound_50 : zD cX2_isBound 50 (.bipush 9) 2 52 := ⟨by decide +kernel, rfl⟩
theorem dX2_isBound_52 : zD cX2_isBound 52 (.if_icmp .gt 7) 3 55 := ⟨by decide +kernel, rfl⟩
theorem dX2_isBound_55 : zD cX2_isBound 55 (.iconst 1) 1 56 := ⟨by decide +kernel, rfl⟩
theorem dX2_isBound_56 : zD cX2_isBound 56 (.goto 4) 3 59 := ⟨by decide +kernel, rfl⟩
theorem dX2_isBound_59 : zD cX2_isBound 59 (.iconst 0) 1 60 := ⟨by decide +kernel, rfl⟩
theorem dX2_isBound_60 : zD cX2_isBound 60 .ireturn 1 61 := ⟨by decide +kernel, rfl⟩
theorem dX2_isBound_61 : zD cX2_isBound 61 (.iload_n 1) 1 62 := ⟨by decide +kernel, rfl⟩
theorem dX2_isBound_62 : zD cX2_isBound 62 (.ifCond .lt 13) 3 65 := ⟨by decide +kernel, rfl⟩
theorem dX2_isBound_65 : zD cX2_isBound 65 (.iload_n 1) 1 66 := ⟨by decide +kernel, rfl⟩
theorem dX2_isBound_66 : zD cX2_isBound 66 (.bipush 99) 2 68 := ⟨by decide +kernel, rfl⟩
theorem dX2_isBound_68 : zD cX2_isBound 68 (.if_icmp .gt 7) 3 71 := ⟨by decide +kernel, rfl⟩
theorem dX2_isBound_71 : zD cX2_isBound 71 (.iconst 1) 1 72 := ⟨by decide +kernel, rfl⟩
theorem dX2_isBound_72 : zD cX2_isBound 72 (.goto 4) 3 75 := ⟨by decide +kernel, rfl⟩
theorem dX2_isBound_75 : zD cX2_isBound 75 (.iconst 0) 1 76 := ⟨by decide +kernel, rfl⟩
theorem dX2_isBound_76 : zD cX2_isBound 76 .ireturn 1 77 := ⟨by decide +kernel, rfl⟩
theorem dX2_isBound_77 : zD cX2_isBound 77 (.iconst 0) 1 78 := ⟨by decide +kernel, rfl⟩
theorem dX2_isBound_78 : zD cX2_isBound 78 .ireturn 1 79 := ⟨by decide +kernel, rfl⟩
theorem dX2_boundOf_0 : zD cX2_boundOf 0 (.iload_n 1) 1 1 := ⟨by decide +kernel, rfl⟩
theorem dX2_boundOf_1 : zD cX2_boundOf 1 (.lookupswitch 37 #[(0, 27), (1, 32)]) 27 28 := ⟨by decide +kernel, rfl⟩
theorem dX2_boundOf_28 : zD cX2_boundOf 28 (.aload_n 0) 1 29 := ⟨by decide +kernel, rfl⟩
theorem dX2_boundOf_29 : zD cX2_boundOf 29 (.getfield 31) 3 32 := ⟨by decide +kernel, rfl⟩
theorem dX2_boundOf_32 : zD cX2_boundOf 32 .ireturn 1 33 := ⟨by decide +kernel, rfl⟩
theorem dX2_boundOf_33 : zD cX2_boundOf 33 (.aload_n 0) 1 34 := ⟨by decide +kernel, rfl⟩
theorem dX2_boundOf_34 : zD cX2_boundOf 34 (.getfield 34) 3 37 := ⟨by decide +kernel, rfl⟩
theorem dX2_boundOf_37 : zD cX2_boundOf 37 .ireturn 1 38 := ⟨by decide +kernel, rfl⟩
theorem dX2_boundOf_38 : zD cX2_boundOf 38 (.aload_n 0) 1 39 := ⟨by decide +kernel, rfl⟩
theorem dX2_boundOf_39 : zD cX2_boundOf 39 (.getfield 37) 3 42 := ⟨by decide +kernel, rfl⟩
theorem dX2_boundOf_42 : zD cX2_boundOf 42 .ireturn 1 43 := ⟨by decide +kernel, rfl⟩
theorem dX2_setBound_0 : zD cX2_setBound 0 (.iload_n 1) 1 1 := ⟨by decide +kernel, rfl⟩
theorem dX2_setBound_1 : zD cX2_setBound 1 (.lookupswitch 43 #[(0, 27), (1, 35)]) 27 28 := ⟨by decide +kernel, rfl⟩
theorem dX2_setBound_28 : zD cX2_setBound 28 (.aload_n 0) 1 29 := ⟨by decide +kernel, rfl⟩
theorem dX2_setBound_29 : zD cX2_setBound 29 (.iload_n 2) 1 30 := ⟨by decide +kernel, rfl⟩
theorem dX2_setBound_30 : zD cX2_setBound 30 (.putfield 31) 3 33 := ⟨by decide +kernel, rfl⟩
theorem dX2_setBound_33 : zD cX2_setBound 33 (.goto 16) 3 36 := ⟨by decide +kernel, rfl⟩
theorem dX2_setBound_36 : zD cX2_setBound 36 (.aload_n 0) 1 37 := ⟨by decide +kernel, rfl⟩
theorem dX2_setBound_37 : zD cX2_setBound 37 (.iload_n 2) 1 38 := ⟨by decide +kernel, rfl⟩
theorem dX2_setBound_38 : zD cX2_setBound 38 (.putfield 34) 3 41 := ⟨by decide +kernel, rfl⟩
theorem dX2_setBound_41 : zD cX2_setBound 41 (.goto 8) 3 44 := ⟨by decide +kernel, rfl⟩
theorem dX2_setBound_44 : zD cX2_setBound 44 (.aload_n 0) 1 45 := ⟨by decide +kernel, rfl⟩
theorem dX2_setBound_45 : zD cX2_setBound 45 (.iload_n 2) 1 46 := ⟨by decide +kernel, rfl⟩
theorem dX2_setBound_46 : zD cX2_setBound 46 (.putfield 37) 3 49 := ⟨by decide +kernel, rfl⟩
theorem dX2_setBound_49 : zD cX2_setBound 49 .return_ 1 50 := ⟨by decide +kernel, rfl⟩
theorem dX2_fixedMaskOf_0 : zD cX2_fixedMaskOf 0 (.aload_n 0) 1 1 := ⟨by decide +kernel, rfl⟩
theorem dX2_fixedMaskOf_1 : zD cX2_fixedMaskOf 1 (.getfield 40) 3 4 := ⟨by decide +kernel, rfl⟩
theorem dX2_fixedMaskOf_4 : zD cX2_fixedMaskOf 4 (.iload_n 1) 1 5 := ⟨by decide +kernel, rfl⟩
theorem dX2_fixedMaskOf_5 : zD cX2_fixedMaskOf 5 .ishr 1 6 := ⟨by decide +kernel, rfl⟩
theorem dX2_fixedMaskOf_6 : zD cX2_fixedMaskOf 6 (.iconst 1) 1 7 := ⟨by decide +kernel, rfl⟩
theorem dX2_fixedMaskOf_7 : zD cX2_fixedMaskOf 7 .iand 1 8 := ⟨by decide +kernel, rfl⟩
theorem dX2_fixedMaskOf_8 : zD cX2_fixedMaskOf 8 (.ifCond .ne 7) 3 11 := ⟨by decide +kernel, rfl⟩
theorem dX2_fixedMaskOf_11 : zD cX2_fixedMaskOf 11 (.iconst (-1)) 1 12 := ⟨by decide +kernel, rfl⟩
theorem dX2_fixedMaskOf_12 : zD cX2_fixedMaskOf 12 (.goto 11) 3 15 := ⟨by decide +kernel, rfl⟩
theorem dX2_fixedMaskOf_15 : zD cX2_fixedMaskOf 15 (.aload_n 0) 1 16 := ⟨by decide +kernel, rfl⟩
theorem dX2_fixedMaskOf_16 : zD cX2_fixedMaskOf 16 (.getfield 43) 3 19 := ⟨by decide +kernel, rfl⟩
theorem dX2_fixedMaskOf_19 : zD cX2_fixedMaskOf 19 (.iload_n 1) 1 20 := ⟨by decide +kernel, rfl⟩
theorem dX2_fixedMaskOf_20 : zD cX2_fixedMaskOf 20 .ishr 1 21 := ⟨by decide +kernel, rfl⟩
theorem dX2_fixedMaskOf_21 : zD cX2_fixedMaskOf 21 (.iconst 1) 1 22 := ⟨by decide +kernel, rfl⟩
theorem dX2_fixedMaskOf_22 : zD cX2_fixedMaskOf 22 .iand 1 23 := ⟨by decide +kernel, rfl⟩
theorem dX2_fixedMaskOf_23 : zD cX2_fixedMaskOf 23 .ireturn 1 24 := ⟨by decide +kernel, rfl⟩
theorem dX2_canBeOn_0 : zD cX2_canBeOn 0 (.aload_n 0) 1 1 := ⟨by decide +kernel, rfl⟩
theorem dX2_canBeOn_1 : zD cX2_canBeOn 1 (.iload_n 1) 1 2 := ⟨by decide +kernel, rfl⟩
theorem dX2_canBeOn_2 : zD cX2_canBeOn 2 (.invokevirtual 94) 3 5 := ⟨by decide +kernel, rfl⟩
theorem dX2_canBeOn_5 : zD cX2_canBeOn 5 (.istore_n 3) 1 6 := ⟨by decide +kernel, rfl⟩
theorem dX2_canBeOn_6 : zD cX2_canBeOn 6 (.iload_n 3) 1 7 := ⟨by decide +kernel, rfl⟩
theorem dX2_canBeOn_7 : zD cX2_canBeOn 7 (.iconst (-1)) 1 8 := ⟨by decide +kernel, rfl⟩
theorem dX2_canBeOn_8 : zD cX2_canBeOn 8 (.if_icmp .eq 8) 3 11 := ⟨by decide +kernel, rfl⟩
theorem dX2_canBeOn_11 : zD cX2_canBeOn 11 (.iload_n 3) 1 12 := ⟨by decide +kernel, rfl⟩
theorem dX2_canBeOn_12 : zD cX2_canBeOn 12 (.iload_n 2) 1 13 := ⟨by decide +kernel, rfl⟩
theorem dX2_canBeOn_13 : zD cX2_canBeOn 13 (.if_icmp .ne 7) 3 16 := ⟨by decide +kernel, rfl⟩
theorem dX2_canBeOn_16 : zD cX2_canBeOn 16 (.iconst 1) 1 17 := ⟨by decide +kernel, rfl⟩
theorem dX2_canBeOn_17 : zD cX2_canBeOn 17 (.goto 4) 3 20 := ⟨by decide +kernel, rfl⟩
theorem dX2_canBeOn_20 : zD cX2_canBeOn 20 (.iconst 0) 1 21 := ⟨by decide +kernel, rfl⟩
theorem dX2_canBeOn_21 : zD cX2_canBeOn 21 .ireturn 1 22 := ⟨by decide +kernel, rfl⟩
theorem dX2_setFixed_0 : zD cX2_setFixed 0 (.iconst 1) 1 1 := ⟨by decide +kernel, rfl⟩
theorem dX2_setFixed_1 : zD cX2_setFixed 1 (.iload_n 1) 1 2 := ⟨by decide +kernel, rfl⟩
theorem dX2_setFixed_2 : zD cX2_setFixed 2 .ishl 1 3 := ⟨by decide +kernel, rfl⟩
theorem dX2_setFixed_3 : zD cX2_setFixed 3 (.istore_n 3) 1 4 := ⟨by decide +kernel, rfl⟩
theorem dX2_setFixed_4 : zD cX2_setFixed 4 (.aload_n 0) 1 5 := ⟨by decide +kernel, rfl⟩
theorem dX2_setFixed_5 : zD cX2_setFixed 5 (.iload_n 2) 1 6 := ⟨by decide +kernel, rfl⟩
theorem dX2_setFixed_6 : zD cX2_setFixed 6 (.iconst (-1)) 1 7 := ⟨by decide +kernel, rfl⟩
theorem dX2_setFixed_7 : zD cX2_setFixed 7 (.if_icmp .ne 14) 3 10 := ⟨by decide +kernel, rfl⟩
theorem dX2_setFixed_10 : zD cX2_setFixed 10 (.aload_n 0) 1 11 := ⟨by decide +kernel, rfl⟩
theorem dX2_setFixed_11 : zD cX2_setFixed 11 (.getfield 40) 3 14 := ⟨by decide +kernel, rfl⟩
theorem dX2_setFixed_14 : zD cX2_setFixed 14 (.iload_n 3) 1 15 := ⟨by decide +kernel, rfl⟩
theorem dX2_setFixed_15 : zD cX2_setFixed 15 (.iconst (-1)) 1 16 := ⟨by decide +kernel, rfl⟩
theorem dX2_setFixed_16 : zD cX2_setFixed 16 .ixor 1 17 := ⟨by decide +kernel, rfl⟩
theorem dX2_setFixed_17 : zD cX2_setFixed 17 .iand 1 18 := ⟨by decide +kernel, rfl⟩
theorem dX2_setFixed_18 : zD cX2_setFixed 18 (.goto 9) 3 21 := ⟨by decide +kernel, rfl⟩
theorem dX2_setFixed_21 : zD cX2_setFixed 21 (.aload_n 0) 1 22 := ⟨by decide +kernel, rfl⟩
theorem dX2_setFixed_22 : zD cX2_setFixed 22 (.getfield 40) 3 25 := ⟨by decide +kernel, rfl⟩
theorem dX2_setFixed_25 : zD cX2_setFixed 25 (.iload_n 3) 1 26 := ⟨by decide +kernel, rfl⟩
theorem dX2_setFixed_26 : zD cX2_setFixed 26 .ior 1 27 := ⟨by decide +kernel, rfl⟩
theorem dX2_setFixed_27 : zD cX2_setFixed 27 (.putfield 40) 3 30 := ⟨by decide +kernel, rfl⟩
theorem dX2_setFixed_30 : zD cX2_setFixed 30 (.aload_n 0) 1 31 := ⟨by decide +kernel, rfl⟩
theorem dX2_setFixed_31 : zD cX2_setFixed 31 (.iload_n 2) 1 32 := ⟨by decide +kernel, rfl⟩
theorem dX2_setFixed_32 : zD cX2_setFixed 32 (.iconst 1) 1 33 := ⟨by decide +kernel, rfl⟩
theorem dX2_setFixed_33 : zD cX2_setFixed 33 (.if_icmp .ne 12) 3 36 := ⟨by decide +kernel, rfl⟩
theorem dX2_setFixed_36 : zD cX2_setFixed 36 (.aload_n 0) 1 37 := ⟨by decide +kernel, rfl⟩
theorem dX2_setFixed_37 : zD cX2_setFixed 37 (.getfield 43) 3 40 := ⟨by decide +kernel, rfl⟩
theorem dX2_setFixed_40 : zD cX2_setFixed 40 (.iload_n 3) 1 41 := ⟨by decide +kernel, rfl⟩
theorem dX2_setFixed_41 : zD cX2_setFixed 41 .ior 1 42 := ⟨by decide +kernel, rfl⟩
theorem dX2_setFixed_42 : zD cX2_setFixed 42 (.goto 11) 3 45 := ⟨by decide +kernel, rfl⟩
theorem dX2_setFixed_45 : zD cX2_setFixed 45 (.aload_n 0) 1 46 := ⟨by decide +kernel, rfl⟩
theorem dX2_setFixed_46 : zD cX2_setFixed 46 (.getfield 43) 3 49 := ⟨by decide +kernel, rfl⟩
theorem dX2_setFixed_49 : zD cX2_setFixed 49 (.iload_n 3) 1 50 := ⟨by decide +kernel, rfl⟩
theorem dX2_setFixed_50 : zD cX2_setFixed 50 (.iconst (-1)) 1 51 := ⟨by decide +kernel, rfl⟩
theorem dX2_setFixed_51 : zD cX2_setFixed 51 .ixor 1 52 := ⟨by decide +kernel, rfl⟩
theorem dX2_setFixed_52 : zD cX2_setFixed 52 .iand 1 53 := ⟨by decide +kernel, rfl⟩
theorem dX2_setFixed_53 : zD cX2_setFixed 53 (.putfield 43) 3 56 := ⟨by decide +kernel, rfl⟩
theorem dX2_setFixed_56 : zD cX2_setFixed 56 .return_ 1 57 := ⟨by decide +kernel, rfl⟩
theorem dX2_freeAll_0 : zD cX2_freeAll 0 (.aload_n 0) 1 1 := ⟨by decide +kernel, rfl⟩
theorem dX2_freeAll_1 : zD cX2_freeAll 1 (.iconst 0) 1 2 := ⟨by decide +kernel, rfl⟩
theorem dX2_freeAll_2 : zD cX2_freeAll 2 (.putfield 40) 3 5 := ⟨by decide +kernel, rfl⟩
theorem dX2_freeAll_5 : zD cX2_freeAll 5 (.aload_n 0) 1 6 := ⟨by decide +kernel, rfl⟩
theorem dX2_freeAll_6 : zD cX2_freeAll 6 (.iconst 0) 1 7 := ⟨by decide +kernel, rfl⟩
theorem dX2_freeAll_7 : zD cX2_freeAll 7 (.putfield 43) 3 10 := ⟨by decide +kernel, rfl⟩
theorem dX2_freeAll_10 : zD cX2_freeAll 10 .return_ 1 11 := ⟨by decide +kernel, rfl⟩
theorem dX2_isFree_0 : zD cX2_isFree 0 (.iconst 0) 1 1 := ⟨by decide +kernel, rfl⟩
theorem dX2_isFree_1 : zD cX2_isFree 1 (.istore 6) 2 3 := ⟨by decide +kernel, rfl⟩
theorem dX2_isFree_3 : zD cX2_isFree 3 (.iload 6) 2 5 := ⟨by decide +kernel, rfl⟩
theorem dX2_isFree_5 : zD cX2_isFree 5 (.aload_n 0) 1 6 := ⟨by decide +kernel, rfl⟩
theorem dX2_isFree_6 : zD cX2_isFree 6 (.getfield 27) 3 9 := ⟨by decide +kernel, rfl⟩
theorem dX2_isFree_9 : zD cX2_isFree 9 (.if_icmp .ge 75) 3 12 := ⟨by decide +kernel, rfl⟩
theorem dX2_isFree_12 : zD cX2_isFree 12 (.iload_n 1) 1 13 := ⟨by decide +kernel, rfl⟩
theorem dX2_isFree_13 : zD cX2_isFree 13 (.aload_n 0) 1 14 := ⟨by decide +kernel, rfl⟩
theorem dX2_isFree_14 : zD cX2_isFree 14 (.getfield 18) 3 17 := ⟨by decide +kernel, rfl⟩
theorem dX2_isFree_17 : zD cX2_isFree 17 (.iload 6) 2 19 := ⟨by decide +kernel, rfl⟩
theorem dX2_isFree_19 : zD cX2_isFree 19 .iaload 1 20 := ⟨by decide +kernel, rfl⟩
theorem dX2_isFree_20 : zD cX2_isFree 20 (.if_icmp .gt 41) 3 23 := ⟨by decide +kernel, rfl⟩
theorem dX2_isFree_23 : zD cX2_isFree 23 (.aload_n 0) 1 24 := ⟨by decide +kernel, rfl⟩
theorem dX2_isFree_24 : zD cX2_isFree 24 (.getfield 9) 3 27 := ⟨by decide +kernel, rfl⟩
theorem dX2_isFree_27 : zD cX2_isFree 27 (.iload 6) 2 29 := ⟨by decide +kernel, rfl⟩
theorem dX2_isFree_29 : zD cX2_isFree 29 .iaload 1 30 := ⟨by decide +kernel, rfl⟩
theorem dX2_isFree_30 : zD cX2_isFree 30 (.iload_n 3) 1 31 := ⟨by decide +kernel, rfl⟩
theorem dX2_isFree_31 : zD cX2_isFree 31 (.if_icmp .gt 30) 3 34 := ⟨by decide +kernel, rfl⟩
theorem dX2_isFree_34 : zD cX2_isFree 34 (.iload_n 2) 1 35 := ⟨by decide +kernel, rfl⟩
theorem dX2_isFree_35 : zD cX2_isFree 35 (.aload_n 0) 1 36 := ⟨by decide +kernel, rfl⟩
theorem dX2_isFree_36 : zD cX2_isFree 36 (.getfield 21) 3 39 := ⟨by decide +kernel, rfl⟩
theorem dX2_isFree_39 : zD cX2_isFree 39 (.iload 6) 2 41 := ⟨by decide +kernel, rfl⟩
theorem dX2_isFree_41 : zD cX2_isFree 41 .iaload 1 42 := ⟨by decide +kernel, rfl⟩
theorem dX2_isFree_42 : zD cX2_isFree 42 (.if_icmp .gt 19) 3 45 := ⟨by decide +kernel, rfl⟩
theorem dX2_isFree_45 : zD cX2_isFree 45 (.aload_n 0) 1 46 := ⟨by decide +kernel, rfl⟩
theorem dX2_isFree_46 : zD cX2_isFree 46 (.getfield 15) 3 49 := ⟨by decide +kernel, rfl⟩
theorem dX2_isFree_49 : zD cX2_isFree 49 (.iload 6) 2 51 := ⟨by decide +kernel, rfl⟩
theorem dX2_isFree_51 : zD cX2_isFree 51 .iaload 1 52 := ⟨by decide +kernel, rfl⟩
theorem dX2_isFree_52 : zD cX2_isFree 52 (.iload 4) 2 54 := ⟨by decide +kernel, rfl⟩
theorem dX2_isFree_54 : zD cX2_isFree 54 (.if_icmp .gt 7) 3 57 := ⟨by decide +kernel, rfl⟩
theorem dX2_isFree_57 : zD cX2_isFree 57 (.iconst 1) 1 58 := ⟨by decide +kernel, rfl⟩
theorem dX2_isFree_58 : zD cX2_isFree 58 (.goto 4) 3 61 := ⟨by decide +kernel, rfl⟩
theorem dX2_isFree_61 : zD cX2_isFree 61 (.iconst 0) 1 62 := ⟨by decide +kernel, rfl⟩
theorem dX2_isFree_62 : zD cX2_isFree 62 (.istore 7) 2 64 := ⟨by decide +kernel, rfl⟩
theorem dX2_isFree_64 : zD cX2_isFree 64 (.iload 6) 2 66 := ⟨by decide +kernel, rfl⟩
theorem dX2_isFree_66 : zD cX2_isFree 66 (.iload 5) 2 68 := ⟨by decide +kernel, rfl⟩
theorem dX2_isFree_68 : zD cX2_isFree 68 (.if_icmp .eq 10) 3 71 := ⟨by decide +kernel, rfl⟩
theorem dX2_isFree_71 : zD cX2_isFree 71 (.iload 7) 2 73 := ⟨by decide +kernel, rfl⟩
theorem dX2_isFree_73 : zD cX2_isFree 73 (.ifCond .eq 5) 3 76 := ⟨by decide +kernel, rfl⟩
theorem dX2_isFree_76 : zD cX2_isFree 76 (.iconst 0) 1 77 := ⟨by decide +kernel, rfl⟩
theorem dX2_isFree_77 : zD cX2_isFree 77 .ireturn 1 78 := ⟨by decide +kernel, rfl⟩
theorem dX2_isFree_78 : zD cX2_isFree 78 (.iinc 6 1) 3 81 := ⟨by decide +kernel, rfl⟩
theorem dX2_isFree_81 : zD cX2_isFree 81 (.goto (-78)) 3 84 := ⟨by decide +kernel, rfl⟩
theorem dX2_isFree_84 : zD cX2_isFree 84 (.iconst 1) 1 85 := ⟨by decide +kernel, rfl⟩
theorem dX2_isFree_85 : zD cX2_isFree 85 .ireturn 1 86 := ⟨by decide +kernel, rfl⟩
theorem dX2_isCutAt_0 : zD cX2_isCutAt 0 (.aload_n 0) 1 1 := ⟨by decide +kernel, rfl⟩
theorem dX2_isCutAt_1 : zD cX2_isCutAt 1 (.getfield 24) 3 4 := ⟨by decide +kernel, rfl⟩
theorem dX2_isCutAt_4 : zD cX2_isCutAt 4 (.iload_n 1) 1 5 := ⟨by decide +kernel, rfl⟩
theorem dX2_isCutAt_5 : zD cX2_isCutAt 5 .iaload 1 6 := ⟨by decide +kernel, rfl⟩
theorem dX2_isCutAt_6 : zD cX2_isCutAt 6 (.iload_n 2) 1 7 := ⟨by decide +kernel, rfl⟩
theorem dX2_isCutAt_7 : zD cX2_isCutAt 7 .ishr 1 8 := ⟨by decide +kernel, rfl⟩
theorem dX2_isCutAt_8 : zD cX2_isCutAt 8 (.iconst 1) 1 9 := ⟨by decide +kernel, rfl⟩
theorem dX2_isCutAt_9 : zD cX2_isCutAt 9 .iand 1 10 := ⟨by decide +kernel, rfl⟩
theorem dX2_isCutAt_10 : zD cX2_isCutAt 10 (.ifCond .eq 7) 3 13 := ⟨by decide +kernel, rfl⟩
theorem dX2_isCutAt_13 : zD cX2_isCutAt 13 (.iconst 1) 1 14 := ⟨by decide +kernel, rfl⟩
theorem dX2_isCutAt_14 : zD cX2_isCutAt 14 (.goto 4) 3 17 := ⟨by decide +kernel, rfl⟩
theorem dX2_isCutAt_17 : zD cX2_isCutAt 17 (.iconst 0) 1 18 := ⟨by decide +kernel, rfl⟩
theorem dX2_isCutAt_18 : zD cX2_isCutAt 18 .ireturn 1 19 := ⟨by decide +kernel, rfl⟩
theorem dX2_isOnField_0 : zD cX2_isOnField 0 (.iload_n 0) 1 1 := ⟨by decide +kernel, rfl⟩
theorem dX2_isOnField_1 : zD cX2_isOnField 1 (.invokestatic 97) 3 4 := ⟨by decide +kernel, rfl⟩
theorem dX2_isOnField_4 : zD cX2_isOnField 4 (.ifCond .eq 28) 3 7 := ⟨by decide +kernel, rfl⟩
theorem dX2_isOnField_7 : zD cX2_isOnField 7 (.iload_n 1) 1 8 := ⟨by decide +kernel, rfl⟩
theorem dX2_isOnField_8 : zD cX2_isOnField 8 (.invokestatic 97) 3 11 := ⟨by decide +kernel, rfl⟩
theorem dX2_isOnField_11 : zD cX2_isOnField 11 (.ifCond .eq 21) 3 14 := ⟨by decide +kernel, rfl⟩
theorem dX2_isOnField_14 : zD cX2_isOnField 14 (.iload_n 2) 1 15 := ⟨by decide +kernel, rfl⟩
theorem dX2_isOnField_15 : zD cX2_isOnField 15 (.invokestatic 97) 3 18 := ⟨by decide +kernel, rfl⟩
theorem dX2_isOnField_18 : zD cX2_isOnField 18 (.ifCond .eq 14) 3 21 := ⟨by decide +kernel, rfl⟩
theorem dX2_isOnField_21 : zD cX2_isOnField 21 (.iload_n 3) 1 22 := ⟨by decide +kernel, rfl⟩
theorem dX2_isOnField_22 : zD cX2_isOnField 22 (.invokestatic 97) 3 25 := ⟨by decide +kernel, rfl⟩
theorem dX2_isOnField_25 : zD cX2_isOnField 25 (.ifCond .eq 7) 3 28 := ⟨by decide +kernel, rfl⟩
theorem dX2_isOnField_28 : zD cX2_isOnField 28 (.iconst 1) 1 29 := ⟨by decide +kernel, rfl⟩
theorem dX2_isOnField_29 : zD cX2_isOnField 29 (.goto 4) 3 32 := ⟨by decide +kernel, rfl⟩
theorem dX2_isOnField_32 : zD cX2_isOnField 32 (.iconst 0) 1 33 := ⟨by decide +kernel, rfl⟩
theorem dX2_isOnField_33 : zD cX2_isOnField 33 .ireturn 1 34 := ⟨by decide +kernel, rfl⟩
theorem dX2_isStep_0 : zD cX2_isStep 0 (.iload_n 0) 1 1 := ⟨by decide +kernel, rfl⟩
theorem dX2_isStep_1 : zD cX2_isStep 1 (.bipush (-15)) 2 3 := ⟨by decide +kernel, rfl⟩
theorem dX2_isStep_3 : zD cX2_isStep 3 (.if_icmp .lt 13) 3 6 := ⟨by decide +kernel, rfl⟩
theorem dX2_isStep_6 : zD cX2_isStep 6 (.iload_n 0) 1 7 := ⟨by decide +kernel, rfl⟩
theorem dX2_isStep_7 : zD cX2_isStep 7 (.bipush 15) 2 9 := ⟨by decide +kernel, rfl⟩
theorem dX2_isStep_9 : zD cX2_isStep 9 (.if_icmp .gt 7) 3 12 := ⟨by decide +kernel, rfl⟩
theorem dX2_isStep_12 : zD cX2_isStep 12 (.iconst 1) 1 13 := ⟨by decide +kernel, rfl⟩
theorem dX2_isStep_13 : zD cX2_isStep 13 (.goto 4) 3 16 := ⟨by decide +kernel, rfl⟩
theorem dX2_isStep_16 : zD cX2_isStep 16 (.iconst 0) 1 17 := ⟨by decide +kernel, rfl⟩
theorem dX2_isStep_17 : zD cX2_isStep 17 .ireturn 1 18 := ⟨by decide +kernel, rfl⟩
theorem dX2_isCutPlace_0 : zD cX2_isCutPlace 0 (.iload_n 0) 1 1 := ⟨by decide +kernel, rfl⟩
theorem dX2_isCutPlace_1 : zD cX2_isCutPlace 1 (.ifCond .lt 13) 3 4 := ⟨by decide +kernel, rfl⟩
theorem dX2_isCutPlace_4 : zD cX2_isCutPlace 4 (.iload_n 0) 1 5 := ⟨by decide +kernel, rfl⟩
theorem dX2_isCutPlace_5 : zD cX2_isCutPlace 5 (.bipush 14) 2 7 := ⟨by decide +kernel, rfl⟩
theorem dX2_isCutPlace_7 : zD cX2_isCutPlace 7 (.if_icmp .gt 7) 3 10 := ⟨by decide +kernel, rfl⟩
theorem dX2_isCutPlace_10 : zD cX2_isCutPlace 10 (.iconst 1) 1 11 := ⟨by decide +kernel, rfl⟩
theorem dX2_isCutPlace_11 : zD cX2_isCutPlace 11 (.goto 4) 3 14 := ⟨by decide +kernel, rfl⟩
theorem dX2_isCutPlace_14 : zD cX2_isCutPlace 14 (.iconst 0) 1 15 := ⟨by decide +kernel, rfl⟩
theorem dX2_isCutPlace_15 : zD cX2_isCutPlace 15 .ireturn 1 16 := ⟨by decide +kernel, rfl⟩
theorem dX2_mirrored_0 : zD cX2_mirrored 0 (.iconst 0) 1 1 := ⟨by decide +kernel, rfl⟩
theorem dX2_mirrored_1 : zD cX2_mirrored 1 (.istore_n 1) 1 2 := ⟨by decide +kernel, rfl⟩
theorem dX2_mirrored_2 : zD cX2_mirrored 2 (.iconst 0) 1 3 := ⟨by decide +kernel, rfl⟩
theorem dX2_mirrored_3 : zD cX2_mirrored 3 (.istore_n 2) 1 4 := ⟨by decide +kernel, rfl⟩
theorem dX2_mirrored_4 : zD cX2_mirrored 4 (.iload_n 2) 1 5 := ⟨by decide +kernel, rfl⟩
theorem dX2_mirrored_5 : zD cX2_mirrored 5 (.bipush 14) 2 7 := ⟨by decide +kernel, rfl⟩
theorem dX2_mirrored_7 : zD cX2_mirrored 7 (.if_icmp .gt 22) 3 10 := ⟨by decide +kernel, rfl⟩
theorem dX2_mirrored_10 : zD cX2_mirrored 10 (.iload_n 1) 1 11 := ⟨by decide +kernel, rfl⟩
theorem dX2_mirrored_11 : zD cX2_mirrored 11 (.iload_n 0) 1 12 := ⟨by decide +kernel, rfl⟩
theorem dX2_mirrored_12 : zD cX2_mirrored 12 (.iload_n 2) 1 13 := ⟨by decide +kernel, rfl⟩
theorem dX2_mirrored_13 : zD cX2_mirrored 13 .ishr 1 14 := ⟨by decide +kernel, rfl⟩
theorem dX2_mirrored_14 : zD cX2_mirrored 14 (.iconst 1) 1 15 := ⟨by decide +kernel, rfl⟩
theorem dX2_mirrored_15 : zD cX2_mirrored 15 .iand 1 16 := ⟨by decide +kernel, rfl⟩
theorem dX2_mirrored_16 : zD cX2_mirrored 16 (.bipush 14) 2 18 := ⟨by decide +kernel, rfl⟩
theorem dX2_mirrored_18 : zD cX2_mirrored 18 (.iload_n 2) 1 19 := ⟨by decide +kernel, rfl⟩
theorem dX2_mirrored_19 : zD cX2_mirrored 19 .isub 1 20 := ⟨by decide +kernel, rfl⟩
theorem dX2_mirrored_20 : zD cX2_mirrored 20 .ishl 1 21 := ⟨by decide +kernel, rfl⟩
theorem dX2_mirrored_21 : zD cX2_mirrored 21 .ior 1 22 := ⟨by decide +kernel, rfl⟩
theorem dX2_mirrored_22 : zD cX2_mirrored 22 (.istore_n 1) 1 23 := ⟨by decide +kernel, rfl⟩
theorem dX2_mirrored_23 : zD cX2_mirrored 23 (.iinc 2 1) 3 26 := ⟨by decide +kernel, rfl⟩
theorem dX2_mirrored_26 : zD cX2_mirrored 26 (.goto (-22)) 3 29 := ⟨by decide +kernel, rfl⟩
theorem dX2_mirrored_29 : zD cX2_mirrored 29 (.iload_n 1) 1 30 := ⟨by decide +kernel, rfl⟩
theorem dX2_mirrored_30 : zD cX2_mirrored 30 .ireturn 1 31 := ⟨by decide +kernel, rfl⟩
theorem dJ6_bitCount_0f7a4_0 : zD cJ6_bitCount_0f7a4 0 (.iload_n 0) 1 1 := ⟨by decide +kernel, rfl⟩
theorem dJ6_bitCount_0f7a4_1 : zD cJ6_bitCount_0f7a4 1 (.iload_n 0) 1 2 := ⟨by decide +kernel, rfl⟩
theorem dJ6_bitCount_0f7a4_2 : zD cJ6_bitCount_0f7a4 2 (.iconst 1) 1 3 := ⟨by decide +kernel, rfl⟩
theorem dJ6_bitCount_0f7a4_3 : zD cJ6_bitCount_0f7a4 3 .iushr 1 4 := ⟨by decide +kernel, rfl⟩
theorem dJ6_bitCount_0f7a4_4 : zD cJ6_bitCount_0f7a4 4 (.ldc_w 265) 3 7 := ⟨by decide +kernel, rfl⟩
theorem dJ6_bitCount_0f7a4_7 : zD cJ6_bitCount_0f7a4 7 .iand 1 8 := ⟨by decide +kernel, rfl⟩
theorem dJ6_bitCount_0f7a4_8 : zD cJ6_bitCount_0f7a4 8 .isub 1 9 := ⟨by decide +kernel, rfl⟩
theorem dJ6_bitCount_0f7a4_9 : zD cJ6_bitCount_0f7a4 9 (.istore_n 0) 1 10 := ⟨by decide +kernel, rfl⟩
theorem dJ6_bitCount_0f7a4_10 : zD cJ6_bitCount_0f7a4 10 (.iload_n 0) 1 11 := ⟨by decide +kernel, rfl⟩
theorem dJ6_bitCount_0f7a4_11 : zD cJ6_bitCount_0f7a4 11 (.ldc_w 266) 3 14 := ⟨by decide +kernel, rfl⟩
theorem dJ6_bitCount_0f7a4_14 : zD cJ6_bitCount_0f7a4 14 .iand 1 15 := ⟨by decide +kernel, rfl⟩
theorem dJ6_bitCount_0f7a4_15 : zD cJ6_bitCount_0f7a4 15 (.iload_n 0) 1 16 := ⟨by decide +kernel, rfl⟩
theorem dJ6_bitCount_0f7a4_16 : zD cJ6_bitCount_0f7a4 16 (.iconst 2) 1 17 := ⟨by decide +kernel, rfl⟩
theorem dJ6_bitCount_0f7a4_17 : zD cJ6_bitCount_0f7a4 17 .iushr 1 18 := ⟨by decide +kernel, rfl⟩
theorem dJ6_bitCount_0f7a4_18 : zD cJ6_bitCount_0f7a4 18 (.ldc_w 266) 3 21 := ⟨by decide +kernel, rfl⟩
theorem dJ6_bitCount_0f7a4_21 : zD cJ6_bitCount_0f7a4 21 .iand 1 22 := ⟨by decide +kernel, rfl⟩
theorem dJ6_bitCount_0f7a4_22 : zD cJ6_bitCount_0f7a4 22 .iadd 1 23 := ⟨by decide +kernel, rfl⟩
theorem dJ6_bitCount_0f7a4_23 : zD cJ6_bitCount_0f7a4 23 (.istore_n 0) 1 24 := ⟨by decide +kernel, rfl⟩
theorem dJ6_bitCount_0f7a4_24 : zD cJ6_bitCount_0f7a4 24 (.iload_n 0) 1 25 := ⟨by decide +kernel, rfl⟩
theorem dJ6_bitCount_0f7a4_25 : zD cJ6_bitCount_0f7a4 25 (.iload_n 0) 1 26 := ⟨by decide +kernel, rfl⟩
theorem dJ6_bitCount_0f7a4_26 : zD cJ6_bitCount_0f7a4 26 (.iconst 4) 1 27 := ⟨by decide +kernel, rfl⟩
theorem dJ6_bitCount_0f7a4_27 : zD cJ6_bitCount_0f7a4 27 .iushr 1 28 := ⟨by decide +kernel, rfl⟩
theorem dJ6_bitCount_0f7a4_28 : zD cJ6_bitCount_0f7a4 28 .iadd 1 29 := ⟨by decide +kernel, rfl⟩
theorem dJ6_bitCount_0f7a4_29 : zD cJ6_bitCount_0f7a4 29 (.ldc_w 267) 3 32 := ⟨by decide +kernel, rfl⟩
theorem dJ6_bitCount_0f7a4_32 : zD cJ6_bitCount_0f7a4 32 .iand 1 33 := ⟨by decide +kernel, rfl⟩
theorem dJ6_bitCount_0f7a4_33 : zD cJ6_bitCount_0f7a4 33 (.istore_n 0) 1 34 := ⟨by decide +kernel, rfl⟩
theorem dJ6_bitCount_0f7a4_34 : zD cJ6_bitCount_0f7a4 34 (.iload_n 0) 1 35 := ⟨by decide +kernel, rfl⟩
theorem dJ6_bitCount_0f7a4_35 : zD cJ6_bitCount_0f7a4 35 (.iload_n 0) 1 36 := ⟨by decide +kernel, rfl⟩
theorem dJ6_bitCount_0f7a4_36 : zD cJ6_bitCount_0f7a4 36 (.bipush 8) 2 38 := ⟨by decide +kernel, rfl⟩
theorem dJ6_bitCount_0f7a4_38 : zD cJ6_bitCount_0f7a4 38 .iushr 1 39 := ⟨by decide +kernel, rfl⟩
theorem dJ6_bitCount_0f7a4_39 : zD cJ6_bitCount_0f7a4 39 .iadd 1 40 := ⟨by decide +kernel, rfl⟩
theorem dJ6_bitCount_0f7a4_40 : zD cJ6_bitCount_0f7a4 40 (.istore_n 0) 1 41 := ⟨by decide +kernel, rfl⟩
theorem dJ6_bitCount_0f7a4_41 : zD cJ6_bitCount_0f7a4 41 (.iload_n 0) 1 42 := ⟨by decide +kernel, rfl⟩
theorem dJ6_bitCount_0f7a4_42 : zD cJ6_bitCount_0f7a4 42 (.iload_n 0) 1 43 := ⟨by decide +kernel, rfl⟩
theorem dJ6_bitCount_0f7a4_43 : zD cJ6_bitCount_0f7a4 43 (.bipush 16) 2 45 := ⟨by decide +kernel, rfl⟩
theorem dJ6_bitCount_0f7a4_45 : zD cJ6_bitCount_0f7a4 45 .iushr 1 46 := ⟨by decide +kernel, rfl⟩
theorem dJ6_bitCount_0f7a4_46 : zD cJ6_bitCount_0f7a4 46 .iadd 1 47 := ⟨by decide +kernel, rfl⟩
theorem dJ6_bitCount_0f7a4_47 : zD cJ6_bitCount_0f7a4 47 (.istore_n 0) 1 48 := ⟨by decide +kernel, rfl⟩
theorem dJ6_bitCount_0f7a4_48 : zD cJ6_bitCount_0f7a4 48 (.iload_n 0) 1 49 := ⟨by decide +kernel, rfl⟩
theorem dJ6_bitCount_0f7a4_49 : zD cJ6_bitCount_0f7a4 49 (.bipush 63) 2 51 := ⟨by decide +kernel, rfl⟩
theorem dJ6_bitCount_0f7a4_51 : zD cJ6_bitCount_0f7a4 51 .iand 1 52 := ⟨by decide +kernel, rfl⟩
theorem dJ6_bitCount_0f7a4_52 : zD cJ6_bitCount_0f7a4 52 .ireturn 1 53 := ⟨by decide +kernel, rfl⟩
theorem dJ9_abs_0f7a4_0 : zD cJ9_abs_0f7a4 0 (.iload_n 0) 1 1 := ⟨by decide +kernel, rfl⟩
theorem dJ9_abs_0f7a4_1 : zD cJ9_abs_0f7a4 1 (.ifCond .ge 8) 3 4 := ⟨by decide +kernel, rfl⟩
theorem dJ9_abs_0f7a4_4 : zD cJ9_abs_0f7a4 4 (.iload_n 0) 1 5 := ⟨by decide +kernel, rfl⟩
theorem dJ9_abs_0f7a4_5 : zD cJ9_abs_0f7a4 5 .ineg 1 6 := ⟨by decide +kernel, rfl⟩
theorem dJ9_abs_0f7a4_6 : zD cJ9_abs_0f7a4 6 (.goto 4) 3 9 := ⟨by decide +kernel, rfl⟩
theorem dJ9_abs_0f7a4_9 : zD cJ9_abs_0f7a4 9 (.iload_n 0) 1 10 := ⟨by decide +kernel, rfl⟩
theorem dJ9_abs_0f7a4_10 : zD cJ9_abs_0f7a4 10 .ireturn 1 11 := ⟨by decide +kernel, rfl⟩
theorem dJ9_max_7cf53_0 : zD cJ9_max_7cf53 0 (.iload_n 0) 1 1 := ⟨by decide +kernel, rfl⟩
theorem dJ9_max_7cf53_1 : zD cJ9_max_7cf53 1 (.iload_n 1) 1 2 := ⟨by decide +kernel, rfl⟩
theorem dJ9_max_7cf53_2 : zD cJ9_max_7cf53 2 (.if_icmp .lt 7) 3 5 := ⟨by decide +kernel, rfl⟩
theorem dJ9_max_7cf53_5 : zD cJ9_max_7cf53 5 (.iload_n 0) 1 6 := ⟨by decide +kernel, rfl⟩
theorem dJ9_max_7cf53_6 : zD cJ9_max_7cf53 6 (.goto 4) 3 9 := ⟨by decide +kernel, rfl⟩
theorem dJ9_max_7cf53_9 : zD cJ9_max_7cf53 9 (.iload_n 1) 1 10 := ⟨by decide +kernel, rfl⟩
theorem dJ9_max_7cf53_10 : zD cJ9_max_7cf53 10 .ireturn 1 11 := ⟨by decide +kernel, rfl⟩
theorem dJ9_min_7cf53_0 : zD cJ9_min_7cf53 0 (.iload_n 0) 1 1 := ⟨by decide +kernel, rfl⟩
theorem dJ9_min_7cf53_1 : zD cJ9_min_7cf53 1 (.iload_n 1) 1 2 := ⟨by decide +kernel, rfl⟩
theorem dJ9_min_7cf53_2 : zD cJ9_min_7cf53 2 (.if_icmp .gt 7) 3 5 := ⟨by decide +kernel, rfl⟩
theorem dJ9_min_7cf53_5 : zD cJ9_min_7cf53 5 (.iload_n 0) 1 6 := ⟨by decide +kernel, rfl⟩
theorem dJ9_min_7cf53_6 : zD cJ9_min_7cf53 6 (.goto 4) 3 9 := ⟨by decide +kernel, rfl⟩
theorem dJ9_min_7cf53_9 : zD cJ9_min_7cf53 9 (.iload_n 1) 1 10 := ⟨by decide +kernel, rfl⟩
theorem dJ9_min_7cf53_10 : zD cJ9_min_7cf53 10 .ireturn 1 11 := ⟨by decide +kernel, rfl⟩
end
section
theorem dX3_init_0 : zD cX3_init 0 (.aload_n 0) 1 1 := ⟨by decide +kernel, rfl⟩
theorem dX3_init_1 : zD cX3_init 1 (.invokespecial 1) 3 4 := ⟨by decide +kernel, rfl⟩
theorem dX3_init_4 : zD cX3_init 4 (.aload_n 0) 1 5 := ⟨by decide +kernel, rfl⟩
theorem dX3_init_5 : zD cX3_init 5 (.aload_n 1) 1 6 := ⟨by decide +kernel, rfl⟩
theorem dX3_init_6 : zD cX3_init 6 (.putfield 7) 3 9 := ⟨by decide +kernel, rfl⟩
theorem dX3_init_9 : zD cX3_init 9 .return_ 1 10 := ⟨by decide +kernel, rfl⟩
theorem dX3_partOf_0 : zD cX3_partOf 0 (.aload_n 0) 1 1 := ⟨by decide +kernel, rfl⟩
theorem dX3_partOf_1 : zD cX3_partOf 1 (.iconst 1) 1 2 := ⟨by decide +kernel, rfl⟩
theorem dX3_partOf_2 : zD cX3_partOf 2 (.iload_n 1) 1 3 := ⟨by decide +kernel, rfl⟩
theorem dX3_partOf_3 : zD cX3_partOf 3 .ishl 1 4 := ⟨by decide +kernel, rfl⟩
theorem dX3_partOf_4 : zD cX3_partOf 4 (.aload_n 0) 1 5 := ⟨by decide +kernel, rfl⟩
theorem dX3_partOf_5 : zD cX3_partOf 5 (.getfield 7) 3 8 := ⟨by decide +kernel, rfl⟩
theorem dX3_partOf_8 : zD cX3_partOf 8 (.invokevirtual 13) 3 11 := ⟨by decide +kernel, rfl⟩
theorem dX3_partOf_11 : zD cX3_partOf 11 (.invokevirtual 19) 3 14 := ⟨by decide +kernel, rfl⟩
theorem dX3_partOf_14 : zD cX3_partOf 14 .ireturn 1 15 := ⟨by decide +kernel, rfl⟩
theorem dX3_parts_0 : zD cX3_parts 0 (.iconst 0) 1 1 := ⟨by decide +kernel, rfl⟩
theorem dX3_parts_1 : zD cX3_parts 1 (.istore_n 1) 1 2 := ⟨by decide +kernel, rfl⟩
theorem dX3_parts_2 : zD cX3_parts 2 (.iconst 0) 1 3 := ⟨by decide +kernel, rfl⟩
theorem dX3_parts_3 : zD cX3_parts 3 (.istore_n 2) 1 4 := ⟨by decide +kernel, rfl⟩
theorem dX3_parts_4 : zD cX3_parts 4 (.iconst 0) 1 5 := ⟨by decide +kernel, rfl⟩
theorem dX3_parts_5 : zD cX3_parts 5 (.istore_n 3) 1 6 := ⟨by decide +kernel, rfl⟩
theorem dX3_parts_6 : zD cX3_parts 6 (.iload_n 3) 1 7 := ⟨by decide +kernel, rfl⟩
theorem dX3_parts_7 : zD cX3_parts 7 (.aload_n 0) 1 8 := ⟨by decide +kernel, rfl⟩
theorem dX3_parts_8 : zD cX3_parts 8 (.getfield 7) 3 11 := ⟨by decide +kernel, rfl⟩
theorem dX3_parts_11 : zD cX3_parts 11 (.getfield 23) 3 14 := ⟨by decide +kernel, rfl⟩
theorem dX3_parts_14 : zD cX3_parts 14 (.if_icmp .ge 28) 3 17 := ⟨by decide +kernel, rfl⟩
theorem dX3_parts_17 : zD cX3_parts 17 (.iload_n 2) 1 18 := ⟨by decide +kernel, rfl⟩
theorem dX3_parts_18 : zD cX3_parts 18 (.iload_n 3) 1 19 := ⟨by decide +kernel, rfl⟩
theorem dX3_parts_19 : zD cX3_parts 19 .ishr 1 20 := ⟨by decide +kernel, rfl⟩
theorem dX3_parts_20 : zD cX3_parts 20 (.iconst 1) 1 21 := ⟨by decide +kernel, rfl⟩
theorem dX3_parts_21 : zD cX3_parts 21 .iand 1 22 := ⟨by decide +kernel, rfl⟩
theorem dX3_parts_22 : zD cX3_parts 22 (.ifCond .ne 14) 3 25 := ⟨by decide +kernel, rfl⟩
theorem dX3_parts_25 : zD cX3_parts 25 (.iload_n 2) 1 26 := ⟨by decide +kernel, rfl⟩
theorem dX3_parts_26 : zD cX3_parts 26 (.aload_n 0) 1 27 := ⟨by decide +kernel, rfl⟩
theorem dX3_parts_27 : zD cX3_parts 27 (.iload_n 3) 1 28 := ⟨by decide +kernel, rfl⟩
theorem dX3_parts_28 : zD cX3_parts 28 (.invokevirtual 27) 3 31 := ⟨by decide +kernel, rfl⟩
theorem dX3_parts_31 : zD cX3_parts 31 .ior 1 32 := ⟨by decide +kernel, rfl⟩
theorem dX3_parts_32 : zD cX3_parts 32 (.istore_n 2) 1 33 := ⟨by decide +kernel, rfl⟩
theorem dX3_parts_33 : zD cX3_parts 33 (.iinc 1 1) 3 36 := ⟨by decide +kernel, rfl⟩
theorem dX3_parts_36 : zD cX3_parts 36 (.iinc 3 1) 3 39 := ⟨by decide +kernel, rfl⟩
theorem dX3_parts_39 : zD cX3_parts 39 (.goto (-33)) 3 42 := ⟨by decide +kernel, rfl⟩
theorem dX3_parts_42 : zD cX3_parts 42 (.iload_n 1) 1 43 := ⟨by decide +kernel, rfl⟩
theorem dX3_parts_43 : zD cX3_parts 43 .ireturn 1 44 := ⟨by decide +kernel, rfl⟩
theorem dX3_oddParts_0 : zD cX3_oddParts 0 (.iconst 0) 1 1 := ⟨by decide +kernel, rfl⟩
theorem dX3_oddParts_1 : zD cX3_oddParts 1 (.istore_n 1) 1 2 := ⟨by decide +kernel, rfl⟩
theorem dX3_oddParts_2 : zD cX3_oddParts 2 (.iconst 0) 1 3 := ⟨by decide +kernel, rfl⟩
theorem dX3_oddParts_3 : zD cX3_oddParts 3 (.istore_n 2) 1 4 := ⟨by decide +kernel, rfl⟩
theorem dX3_oddParts_4 : zD cX3_oddParts 4 (.iconst 0) 1 5 := ⟨by decide +kernel, rfl⟩
theorem dX3_oddParts_5 : zD cX3_oddParts 5 (.istore_n 3) 1 6 := ⟨by decide +kernel, rfl⟩
theorem dX3_oddParts_6 : zD cX3_oddParts 6 (.iload_n 3) 1 7 := ⟨by decide +kernel, rfl⟩
theorem dX3_oddParts_7 : zD cX3_oddParts 7 (.aload_n 0) 1 8 := ⟨by decide +kernel, rfl⟩
theorem dX3_oddParts_8 : zD cX3_oddParts 8 (.getfield 7) 3 11 := ⟨by decide +kernel, rfl⟩
theorem dX3_oddParts_11 : zD cX3_oddParts 11 (.getfield 23) 3 14 := ⟨by decide +kernel, rfl⟩
theorem dX3_oddParts_14 : zD cX3_oddParts 14 (.if_icmp .ge 36) 3 17 := ⟨by decide +kernel, rfl⟩
theorem dX3_oddParts_17 : zD cX3_oddParts 17 (.iload_n 2) 1 18 := ⟨by decide +kernel, rfl⟩
theorem dX3_oddParts_18 : zD cX3_oddParts 18 (.iload_n 3) 1 19 := ⟨by decide +kernel, rfl⟩
theorem dX3_oddParts_19 : zD cX3_oddParts 19 .ishr 1 20 := ⟨by decide +kernel, rfl⟩
theorem dX3_oddParts_20 : zD cX3_oddParts 20 (.iconst 1) 1 21 := ⟨by decide +kernel, rfl⟩
theorem dX3_oddParts_21 : zD cX3_oddParts 21 .iand 1 22 := ⟨by decide +kernel, rfl⟩
theorem dX3_oddParts_22 : zD cX3_oddParts 22 (.ifCond .ne 22) 3 25 := ⟨by decide +kernel, rfl⟩
theorem dX3_oddParts_25 : zD cX3_oddParts 25 (.aload_n 0) 1 26 := ⟨by decide +kernel, rfl⟩
theorem dX3_oddParts_26 : zD cX3_oddParts 26 (.iload_n 3) 1 27 := ⟨by decide +kernel, rfl⟩
theorem dX3_oddParts_27 : zD cX3_oddParts 27 (.invokevirtual 31) 3 30 := ⟨by decide +kernel, rfl⟩
theorem dX3_oddParts_30 : zD cX3_oddParts 30 (.ifCond .eq 14) 3 33 := ⟨by decide +kernel, rfl⟩
theorem dX3_oddParts_33 : zD cX3_oddParts 33 (.iload_n 2) 1 34 := ⟨by decide +kernel, rfl⟩
theorem dX3_oddParts_34 : zD cX3_oddParts 34 (.aload_n 0) 1 35 := ⟨by decide +kernel, rfl⟩
theorem dX3_oddParts_35 : zD cX3_oddParts 35 (.iload_n 3) 1 36 := ⟨by decide +kernel, rfl⟩
theorem dX3_oddParts_36 : zD cX3_oddParts 36 (.invokevirtual 27) 3 39 := ⟨by decide +kernel, rfl⟩
theorem dX3_oddParts_39 : zD cX3_oddParts 39 .ior 1 40 := ⟨by decide +kernel, rfl⟩
theorem dX3_oddParts_40 : zD cX3_oddParts 40 (.istore_n 2) 1 41 := ⟨by decide +kernel, rfl⟩
theorem dX3_oddParts_41 : zD cX3_oddParts 41 (.iinc 1 1) 3 44 := ⟨by decide +kernel, rfl⟩
theorem dX3_oddParts_44 : zD cX3_oddParts 44 (.iinc 3 1) 3 47 := ⟨by decide +kernel, rfl⟩
theorem dX3_oddParts_47 : zD cX3_oddParts 47 (.goto (-41)) 3 50 := ⟨by decide +kernel, rfl⟩
theorem dX3_oddParts_50 : zD cX3_oddParts 50 (.iload_n 1) 1 51 := ⟨by decide +kernel, rfl⟩
theorem dX3_oddParts_51 : zD cX3_oddParts 51 .ireturn 1 52 := ⟨by decide +kernel, rfl⟩
theorem dX3_shortestOddRing_0 : zD cX3_shortestOddRing 0 (.iconst 0) 1 1 := ⟨by decide +kernel, rfl⟩
theorem dX3_shortestOddRing_1 : zD cX3_shortestOddRing 1 (.istore_n 1) 1 2 := ⟨by decide +kernel, rfl⟩
theorem dX3_shortestOddRing_2 : zD cX3_shortestOddRing 2 (.iconst 0) 1 3 := ⟨by decide +kernel, rfl⟩
theorem dX3_shortestOddRing_3 : zD cX3_shortestOddRing 3 (.istore_n 2) 1 4 := ⟨by decide +kernel, rfl⟩
theorem dX3_shortestOddRing_4 : zD cX3_shortestOddRing 4 (.iload_n 2) 1 5 := ⟨by decide +kernel, rfl⟩
theorem dX3_shortestOddRing_5 : zD cX3_shortestOddRing 5 (.aload_n 0) 1 6 := ⟨by decide +kernel, rfl⟩
theorem dX3_shortestOddRing_6 : zD cX3_shortestOddRing 6 (.getfield 7) 3 9 := ⟨by decide +kernel, rfl⟩
theorem dX3_shortestOddRing_9 : zD cX3_shortestOddRing 9 (.getfield 23) 3 12 := ⟨by decide +kernel, rfl⟩
theorem dX3_shortestOddRing_12 : zD cX3_shortestOddRing 12 (.if_icmp .ge 30) 3 15 := ⟨by decide +kernel, rfl⟩
theorem dX3_shortestOddRing_15 : zD cX3_shortestOddRing 15 (.aload_n 0) 1 16 := ⟨by decide +kernel, rfl⟩
theorem dX3_shortestOddRing_16 : zD cX3_shortestOddRing 16 (.iload_n 2) 1 17 := ⟨by decide +kernel, rfl⟩
theorem dX3_shortestOddRing_17 : zD cX3_shortestOddRing 17 (.invokevirtual 31) 3 20 := ⟨by decide +kernel, rfl⟩
theorem dX3_shortestOddRing_20 : zD cX3_shortestOddRing 20 (.istore_n 3) 1 21 := ⟨by decide +kernel, rfl⟩
theorem dX3_shortestOddRing_21 : zD cX3_shortestOddRing 21 (.iload_n 3) 1 22 := ⟨by decide +kernel, rfl⟩
theorem dX3_shortestOddRing_22 : zD cX3_shortestOddRing 22 (.ifCond .eq 14) 3 25 := ⟨by decide +kernel, rfl⟩
theorem dX3_shortestOddRing_25 : zD cX3_shortestOddRing 25 (.iload_n 1) 1 26 := ⟨by decide +kernel, rfl⟩
theorem dX3_shortestOddRing_26 : zD cX3_shortestOddRing 26 (.ifCond .eq 8) 3 29 := ⟨by decide +kernel, rfl⟩
theorem dX3_shortestOddRing_29 : zD cX3_shortestOddRing 29 (.iload_n 3) 1 30 := ⟨by decide +kernel, rfl⟩
theorem dX3_shortestOddRing_30 : zD cX3_shortestOddRing 30 (.iload_n 1) 1 31 := ⟨by decide +kernel, rfl⟩
theorem dX3_shortestOddRing_31 : zD cX3_shortestOddRing 31 (.if_icmp .ge 5) 3 34 := ⟨by decide +kernel, rfl⟩
theorem dX3_shortestOddRing_34 : zD cX3_shortestOddRing 34 (.iload_n 3) 1 35 := ⟨by decide +kernel, rfl⟩
theorem dX3_shortestOddRing_35 : zD cX3_shortestOddRing 35 (.istore_n 1) 1 36 := ⟨by decide +kernel, rfl⟩
theorem dX3_shortestOddRing_36 : zD cX3_shortestOddRing 36 (.iinc 2 1) 3 39 := ⟨by decide +kernel, rfl⟩
theorem dX3_shortestOddRing_39 : zD cX3_shortestOddRing 39 (.goto (-35)) 3 42 := ⟨by decide +kernel, rfl⟩
theorem dX3_shortestOddRing_42 : zD cX3_shortestOddRing 42 (.iload_n 1) 1 43 := ⟨by decide +kernel, rfl⟩
theorem dX3_shortestOddRing_43 : zD cX3_shortestOddRing 43 .ireturn 1 44 := ⟨by decide +kernel, rfl⟩
theorem dX3_core_0 : zD cX3_core 0 (.aload_n 0) 1 1 := ⟨by decide +kernel, rfl⟩
theorem dX3_core_1 : zD cX3_core 1 (.getfield 7) 3 4 := ⟨by decide +kernel, rfl⟩
theorem dX3_core_4 : zD cX3_core 4 (.invokevirtual 13) 3 7 := ⟨by decide +kernel, rfl⟩
theorem dX3_core_7 : zD cX3_core 7 (.istore_n 1) 1 8 := ⟨by decide +kernel, rfl⟩
theorem dX3_core_8 : zD cX3_core 8 (.iconst 0) 1 9 := ⟨by decide +kernel, rfl⟩
theorem dX3_core_9 : zD cX3_core 9 (.istore_n 2) 1 10 := ⟨by decide +kernel, rfl⟩
theorem dX3_core_10 : zD cX3_core 10 (.iload_n 2) 1 11 := ⟨by decide +kernel, rfl⟩
theorem dX3_core_11 : zD cX3_core 11 (.aload_n 0) 1 12 := ⟨by decide +kernel, rfl⟩
theorem dX3_core_12 : zD cX3_core 12 (.getfield 7) 3 15 := ⟨by decide +kernel, rfl⟩
theorem dX3_core_15 : zD cX3_core 15 (.getfield 23) 3 18 := ⟨by decide +kernel, rfl⟩
theorem dX3_core_18 : zD cX3_core 18 (.if_icmp .ge 54) 3 21 := ⟨by decide +kernel, rfl⟩
theorem dX3_core_21 : zD cX3_core 21 (.iconst 0) 1 22 := ⟨by decide +kernel, rfl⟩
theorem dX3_core_22 : zD cX3_core 22 (.istore_n 3) 1 23 := ⟨by decide +kernel, rfl⟩
theorem dX3_core_23 : zD cX3_core 23 (.iload_n 3) 1 24 := ⟨by decide +kernel, rfl⟩
theorem dX3_core_24 : zD cX3_core 24 (.aload_n 0) 1 25 := ⟨by decide +kernel, rfl⟩
theorem dX3_core_25 : zD cX3_core 25 (.getfield 7) 3 28 := ⟨by decide +kernel, rfl⟩
theorem dX3_core_28 : zD cX3_core 28 (.getfield 23) 3 31 := ⟨by decide +kernel, rfl⟩
theorem dX3_core_31 : zD cX3_core 31 (.if_icmp .ge 35) 3 34 := ⟨by decide +kernel, rfl⟩
theorem dX3_core_34 : zD cX3_core 34 (.aload_n 0) 1 35 := ⟨by decide +kernel, rfl⟩
theorem dX3_core_35 : zD cX3_core 35 (.getfield 7) 3 38 := ⟨by decide +kernel, rfl⟩
theorem dX3_core_38 : zD cX3_core 38 (.getfield 34) 3 41 := ⟨by decide +kernel, rfl⟩
theorem dX3_core_41 : zD cX3_core 41 (.iload_n 3) 1 42 := ⟨by decide +kernel, rfl⟩
theorem dX3_core_42 : zD cX3_core 42 .iaload 1 43 := ⟨by decide +kernel, rfl⟩
theorem dX3_core_43 : zD cX3_core 43 (.iload_n 1) 1 44 := ⟨by decide +kernel, rfl⟩
theorem dX3_core_44 : zD cX3_core 44 .iand 1 45 := ⟨by decide +kernel, rfl⟩
theorem dX3_core_45 : zD cX3_core 45 (.invokestatic 38) 3 48 := ⟨by decide +kernel, rfl⟩
theorem dX3_core_48 : zD cX3_core 48 (.iconst 1) 1 49 := ⟨by decide +kernel, rfl⟩
theorem dX3_core_49 : zD cX3_core 49 (.if_icmp .gt 11) 3 52 := ⟨by decide +kernel, rfl⟩
theorem dX3_core_52 : zD cX3_core 52 (.iload_n 1) 1 53 := ⟨by decide +kernel, rfl⟩
theorem dX3_core_53 : zD cX3_core 53 (.iconst 1) 1 54 := ⟨by decide +kernel, rfl⟩
theorem dX3_core_54 : zD cX3_core 54 (.iload_n 3) 1 55 := ⟨by decide +kernel, rfl⟩
theorem dX3_core_55 : zD cX3_core 55 .ishl 1 56 := ⟨by decide +kernel, rfl⟩
theorem dX3_core_56 : zD cX3_core 56 (.iconst (-1)) 1 57 := ⟨by decide +kernel, rfl⟩
theorem dX3_core_57 : zD cX3_core 57 .ixor 1 58 := ⟨by decide +kernel, rfl⟩
theorem dX3_core_58 : zD cX3_core 58 .iand 1 59 := ⟨by decide +kernel, rfl⟩
theorem dX3_core_59 : zD cX3_core 59 (.istore_n 1) 1 60 := ⟨by decide +kernel, rfl⟩
theorem dX3_core_60 : zD cX3_core 60 (.iinc 3 1) 3 63 := ⟨by decide +kernel, rfl⟩
theorem dX3_core_63 : zD cX3_core 63 (.goto (-40)) 3 66 := ⟨by decide +kernel, rfl⟩
theorem dX3_core_66 : zD cX3_core 66 (.iinc 2 1) 3 69 := ⟨by decide +kernel, rfl⟩
theorem dX3_core_69 : zD cX3_core 69 (.goto (-59)) 3 72 := ⟨by decide +kernel, rfl⟩
theorem dX3_core_72 : zD cX3_core 72 (.iload_n 1) 1 73 := ⟨by decide +kernel, rfl⟩
theorem dX3_core_73 : zD cX3_core 73 .ireturn 1 74 := ⟨by decide +kernel, rfl⟩
theorem dX3_bridges_0 : zD cX3_bridges 0 (.iconst 0) 1 1 := ⟨by decide +kernel, rfl⟩
theorem dX3_bridges_1 : zD cX3_bridges 1 (.istore_n 1) 1 2 := ⟨by decide +kernel, rfl⟩
theorem dX3_bridges_2 : zD cX3_bridges 2 (.iconst 0) 1 3 := ⟨by decide +kernel, rfl⟩
theorem dX3_bridges_3 : zD cX3_bridges 3 (.istore_n 2) 1 4 := ⟨by decide +kernel, rfl⟩
theorem dX3_bridges_4 : zD cX3_bridges 4 (.iload_n 2) 1 5 := ⟨by decide +kernel, rfl⟩
theorem dX3_bridges_5 : zD cX3_bridges 5 (.aload_n 0) 1 6 := ⟨by decide +kernel, rfl⟩
theorem dX3_bridges_6 : zD cX3_bridges 6 (.getfield 7) 3 9 := ⟨by decide +kernel, rfl⟩
theorem dX3_bridges_9 : zD cX3_bridges 9 (.getfield 23) 3 12 := ⟨by decide +kernel, rfl⟩
theorem dX3_bridges_12 : zD cX3_bridges 12 (.if_icmp .ge 58) 3 15 := ⟨by decide +kernel, rfl⟩
theorem dX3_bridges_15 : zD cX3_bridges 15 (.iload_n 2) 1 16 := ⟨by decide +kernel, rfl⟩
theorem dX3_bridges_16 : zD cX3_bridges 16 (.iconst 1) 1 17 := ⟨by decide +kernel, rfl⟩
theorem dX3_bridges_17 : zD cX3_bridges 17 .iadd 1 18 := ⟨by decide +kernel, rfl⟩
theorem dX3_bridges_18 : zD cX3_bridges 18 (.istore_n 3) 1 19 := ⟨by decide +kernel, rfl⟩
theorem dX3_bridges_19 : zD cX3_bridges 19 (.iload_n 3) 1 20 := ⟨by decide +kernel, rfl⟩
theorem dX3_bridges_20 : zD cX3_bridges 20 (.aload_n 0) 1 21 := ⟨by decide +kernel, rfl⟩
theorem dX3_bridges_21 : zD cX3_bridges 21 (.getfield 7) 3 24 := ⟨by decide +kernel, rfl⟩
theorem dX3_bridges_24 : zD cX3_bridges 24 (.getfield 23) 3 27 := ⟨by decide +kernel, rfl⟩
theorem dX3_bridges_27 : zD cX3_bridges 27 (.if_icmp .ge 37) 3 30 := ⟨by decide +kernel, rfl⟩
theorem dX3_bridges_30 : zD cX3_bridges 30 (.aload_n 0) 1 31 := ⟨by decide +kernel, rfl⟩
theorem dX3_bridges_31 : zD cX3_bridges 31 (.getfield 7) 3 34 := ⟨by decide +kernel, rfl⟩
theorem dX3_bridges_34 : zD cX3_bridges 34 (.getfield 34) 3 37 := ⟨by decide +kernel, rfl⟩
theorem dX3_bridges_37 : zD cX3_bridges 37 (.iload_n 2) 1 38 := ⟨by decide +kernel, rfl⟩
theorem dX3_bridges_38 : zD cX3_bridges 38 .iaload 1 39 := ⟨by decide +kernel, rfl⟩
theorem dX3_bridges_39 : zD cX3_bridges 39 (.iload_n 3) 1 40 := ⟨by decide +kernel, rfl⟩
theorem dX3_bridges_40 : zD cX3_bridges 40 .ishr 1 41 := ⟨by decide +kernel, rfl⟩
theorem dX3_bridges_41 : zD cX3_bridges 41 (.iconst 1) 1 42 := ⟨by decide +kernel, rfl⟩
theorem dX3_bridges_42 : zD cX3_bridges 42 .iand 1 43 := ⟨by decide +kernel, rfl⟩
theorem dX3_bridges_43 : zD cX3_bridges 43 (.ifCond .eq 15) 3 46 := ⟨by decide +kernel, rfl⟩
theorem dX3_bridges_46 : zD cX3_bridges 46 (.aload_n 0) 1 47 := ⟨by decide +kernel, rfl⟩
theorem dX3_bridges_47 : zD cX3_bridges 47 (.iload_n 2) 1 48 := ⟨by decide +kernel, rfl⟩
theorem dX3_bridges_48 : zD cX3_bridges 48 (.iload_n 3) 1 49 := ⟨by decide +kernel, rfl⟩
theorem dX3_bridges_49 : zD cX3_bridges 49 (.invokevirtual 43) 3 52 := ⟨by decide +kernel, rfl⟩
theorem dX3_bridges_52 : zD cX3_bridges 52 (.ifCond .eq 6) 3 55 := ⟨by decide +kernel, rfl⟩
theorem dX3_bridges_55 : zD cX3_bridges 55 (.iinc 1 1) 3 58 := ⟨by decide +kernel, rfl⟩
theorem dX3_bridges_58 : zD cX3_bridges 58 (.iinc 3 1) 3 61 := ⟨by decide +kernel, rfl⟩
theorem dX3_bridges_61 : zD cX3_bridges 61 (.goto (-42)) 3 64 := ⟨by decide +kernel, rfl⟩
theorem dX3_bridges_64 : zD cX3_bridges 64 (.iinc 2 1) 3 67 := ⟨by decide +kernel, rfl⟩
theorem dX3_bridges_67 : zD cX3_bridges 67 (.goto (-63)) 3 70 := ⟨by decide +kernel, rfl⟩
theorem dX3_bridges_70 : zD cX3_bridges 70 (.iload_n 1) 1 71 := ⟨by decide +kernel, rfl⟩
theorem dX3_bridges_71 : zD cX3_bridges 71 .ireturn 1 72 := ⟨by decide +kernel, rfl⟩
theorem dX3_hinges_0 : zD cX3_hinges 0 (.iconst 0) 1 1 := ⟨by decide +kernel, rfl⟩
theorem dX3_hinges_1 : zD cX3_hinges 1 (.istore_n 1) 1 2 := ⟨by decide +kernel, rfl⟩
theorem dX3_hinges_2 : zD cX3_hinges 2 (.iconst 0) 1 3 := ⟨by decide +kernel, rfl⟩
theorem dX3_hinges_3 : zD cX3_hinges 3 (.istore_n 2) 1 4 := ⟨by decide +kernel, rfl⟩
theorem dX3_hinges_4 : zD cX3_hinges 4 (.iload_n 2) 1 5 := ⟨by decide +kernel, rfl⟩
theorem dX3_hinges_5 : zD cX3_hinges 5 (.aload_n 0) 1 6 := ⟨by decide +kernel, rfl⟩
theorem dX3_hinges_6 : zD cX3_hinges 6 (.getfield 7) 3 9 := ⟨by decide +kernel, rfl⟩
theorem dX3_hinges_9 : zD cX3_hinges 9 (.getfield 23) 3 12 := ⟨by decide +kernel, rfl⟩
theorem dX3_hinges_12 : zD cX3_hinges 12 (.if_icmp .ge 23) 3 15 := ⟨by decide +kernel, rfl⟩
theorem dX3_hinges_15 : zD cX3_hinges 15 (.aload_n 0) 1 16 := ⟨by decide +kernel, rfl⟩
theorem dX3_hinges_16 : zD cX3_hinges 16 (.iload_n 2) 1 17 := ⟨by decide +kernel, rfl⟩
theorem dX3_hinges_17 : zD cX3_hinges 17 (.invokevirtual 47) 3 20 := ⟨by decide +kernel, rfl⟩
theorem dX3_hinges_20 : zD cX3_hinges 20 (.ifCond .eq 9) 3 23 := ⟨by decide +kernel, rfl⟩
theorem dX3_hinges_23 : zD cX3_hinges 23 (.iload_n 1) 1 24 := ⟨by decide +kernel, rfl⟩
theorem dX3_hinges_24 : zD cX3_hinges 24 (.iconst 1) 1 25 := ⟨by decide +kernel, rfl⟩
theorem dX3_hinges_25 : zD cX3_hinges 25 (.iload_n 2) 1 26 := ⟨by decide +kernel, rfl⟩
theorem dX3_hinges_26 : zD cX3_hinges 26 .ishl 1 27 := ⟨by decide +kernel, rfl⟩
theorem dX3_hinges_27 : zD cX3_hinges 27 .ior 1 28 := ⟨by decide +kernel, rfl⟩
theorem dX3_hinges_28 : zD cX3_hinges 28 (.istore_n 1) 1 29 := ⟨by decide +kernel, rfl⟩
theorem dX3_hinges_29 : zD cX3_hinges 29 (.iinc 2 1) 3 32 := ⟨by decide +kernel, rfl⟩
theorem dX3_hinges_32 : zD cX3_hinges 32 (.goto (-28)) 3 35 := ⟨by decide +kernel, rfl⟩
theorem dX3_hinges_35 : zD cX3_hinges 35 (.iload_n 1) 1 36 := ⟨by decide +kernel, rfl⟩
theorem dX3_hinges_36 : zD cX3_hinges 36 .ireturn 1 37 := ⟨by decide +kernel, rfl⟩
theorem dX3_isBridge_0 : zD cX3_isBridge 0 (.aload_n 0) 1 1 := ⟨by decide +kernel, rfl⟩
theorem dX3_isBridge_1 : zD cX3_isBridge 1 (.aload_n 0) 1 2 := ⟨by decide +kernel, rfl⟩
theorem dX3_isBridge_2 : zD cX3_isBridge 2 (.getfield 7) 3 5 := ⟨by decide +kernel, rfl⟩
theorem dX3_isBridge_5 : zD cX3_isBridge 5 (.getfield 34) 3 8 := ⟨by decide +kernel, rfl⟩
theorem dX3_isBridge_8 : zD cX3_isBridge 8 (.iload_n 1) 1 9 := ⟨by decide +kernel, rfl⟩
theorem dX3_isBridge_9 : zD cX3_isBridge 9 .iaload 1 10 := ⟨by decide +kernel, rfl⟩
theorem dX3_isBridge_10 : zD cX3_isBridge 10 (.iconst 1) 1 11 := ⟨by decide +kernel, rfl⟩
theorem dX3_isBridge_11 : zD cX3_isBridge 11 (.iload_n 2) 1 12 := ⟨by decide +kernel, rfl⟩
theorem dX3_isBridge_12 : zD cX3_isBridge 12 .ishl 1 13 := ⟨by decide +kernel, rfl⟩
theorem dX3_isBridge_13 : zD cX3_isBridge 13 (.iconst (-1)) 1 14 := ⟨by decide +kernel, rfl⟩
theorem dX3_isBridge_14 : zD cX3_isBridge 14 .ixor 1 15 := ⟨by decide +kernel, rfl⟩
theorem dX3_isBridge_15 : zD cX3_isBridge 15 .iand 1 16 := ⟨by decide +kernel, rfl⟩
theorem dX3_isBridge_16 : zD cX3_isBridge 16 (.aload_n 0) 1 17 := ⟨by decide +kernel, rfl⟩
theorem dX3_isBridge_17 : zD cX3_isBridge 17 (.getfield 7) 3 20 := ⟨by decide +kernel, rfl⟩
theorem dX3_isBridge_20 : zD cX3_isBridge 20 (.invokevirtual 13) 3 23 := ⟨by decide +kernel, rfl⟩
theorem dX3_isBridge_23 : zD cX3_isBridge 23 (.iconst 1) 1 24 := ⟨by decide +kernel, rfl⟩
theorem dX3_isBridge_24 : zD cX3_isBridge 24 (.iload_n 1) 1 25 := ⟨by decide +kernel, rfl⟩
theorem dX3_isBridge_25 : zD cX3_isBridge 25 .ishl 1 26 := ⟨by decide +kernel, rfl⟩
theorem dX3_isBridge_26 : zD cX3_isBridge 26 (.iconst (-1)) 1 27 := ⟨by decide +kernel, rfl⟩
theorem dX3_isBridge_27 : zD cX3_isBridge 27 .ixor 1 28 := ⟨by decide +kernel, rfl⟩
theorem dX3_isBridge_28 : zD cX3_isBridge 28 .iand 1 29 := ⟨by decide +kernel, rfl⟩
theorem dX3_isBridge_29 : zD cX3_isBridge 29 (.invokevirtual 19) 3 32 := ⟨by decide +kernel, rfl⟩
theorem dX3_isBridge_32 : zD cX3_isBridge 32 (.istore_n 3) 1 33 := ⟨by decide +kernel, rfl⟩
theorem dX3_isBridge_33 : zD cX3_isBridge 33 (.iload_n 3) 1 34 := ⟨by decide +kernel, rfl⟩
theorem dX3_isBridge_34 : zD cX3_isBridge 34 (.iload_n 2) 1 35 := ⟨by decide +kernel, rfl⟩
theorem dX3_isBridge_35 : zD cX3_isBridge 35 .ishr 1 36 := ⟨by decide +kernel, rfl⟩
theorem dX3_isBridge_36 : zD cX3_isBridge 36 (.iconst 1) 1 37 := ⟨by decide +kernel, rfl⟩
theorem dX3_isBridge_37 : zD cX3_isBridge 37 .iand 1 38 := ⟨by decide +kernel, rfl⟩
theorem dX3_isBridge_38 : zD cX3_isBridge 38 (.ifCond .ne 7) 3 41 := ⟨by decide +kernel, rfl⟩
theorem dX3_isBridge_41 : zD cX3_isBridge 41 (.iconst 1) 1 42 := ⟨by decide +kernel, rfl⟩
theorem dX3_isBridge_42 : zD cX3_isBridge 42 (.goto 4) 3 45 := ⟨by decide +kernel, rfl⟩
theorem dX3_isBridge_45 : zD cX3_isBridge 45 (.iconst 0) 1 46 := ⟨by decide +kernel, rfl⟩
theorem dX3_isBridge_46 : zD cX3_isBridge 46 .ireturn 1 47 := ⟨by decide +kernel, rfl⟩
theorem dX3_isHinge_0 : zD cX3_isHinge 0 (.aload_n 0) 1 1 := ⟨by decide +kernel, rfl⟩
theorem dX3_isHinge_1 : zD cX3_isHinge 1 (.iload_n 1) 1 2 := ⟨by decide +kernel, rfl⟩
theorem dX3_isHinge_2 : zD cX3_isHinge 2 (.invokevirtual 27) 3 5 := ⟨by decide +kernel, rfl⟩
theorem dX3_isHinge_5 : zD cX3_isHinge 5 (.iconst 1) 1 6 := ⟨by decide +kernel, rfl⟩
theorem dX3_isHinge_6 : zD cX3_isHinge 6 (.iload_n 1) 1 7 := ⟨by decide +kernel, rfl⟩
theorem dX3_isHinge_7 : zD cX3_isHinge 7 .ishl 1 8 := ⟨by decide +kernel, rfl⟩
theorem dX3_isHinge_8 : zD cX3_isHinge 8 (.iconst (-1)) 1 9 := ⟨by decide +kernel, rfl⟩
theorem dX3_isHinge_9 : zD cX3_isHinge 9 .ixor 1 10 := ⟨by decide +kernel, rfl⟩
theorem dX3_isHinge_10 : zD cX3_isHinge 10 .iand 1 11 := ⟨by decide +kernel, rfl⟩
theorem dX3_isHinge_11 : zD cX3_isHinge 11 (.istore_n 2) 1 12 := ⟨by decide +kernel, rfl⟩
theorem dX3_isHinge_12 : zD cX3_isHinge 12 (.iload_n 2) 1 13 := ⟨by decide +kernel, rfl⟩
theorem dX3_isHinge_13 : zD cX3_isHinge 13 (.iload_n 2) 1 14 := ⟨by decide +kernel, rfl⟩
theorem dX3_isHinge_14 : zD cX3_isHinge 14 .ineg 1 15 := ⟨by decide +kernel, rfl⟩
theorem dX3_isHinge_15 : zD cX3_isHinge 15 .iand 1 16 := ⟨by decide +kernel, rfl⟩
theorem dX3_isHinge_16 : zD cX3_isHinge 16 (.istore_n 3) 1 17 := ⟨by decide +kernel, rfl⟩
theorem dX3_isHinge_17 : zD cX3_isHinge 17 (.aload_n 0) 1 18 := ⟨by decide +kernel, rfl⟩
theorem dX3_isHinge_18 : zD cX3_isHinge 18 (.iload_n 3) 1 19 := ⟨by decide +kernel, rfl⟩
theorem dX3_isHinge_19 : zD cX3_isHinge 19 (.iload_n 2) 1 20 := ⟨by decide +kernel, rfl⟩
theorem dX3_isHinge_20 : zD cX3_isHinge 20 (.invokevirtual 19) 3 23 := ⟨by decide +kernel, rfl⟩
theorem dX3_isHinge_23 : zD cX3_isHinge 23 (.iload_n 2) 1 24 := ⟨by decide +kernel, rfl⟩
theorem dX3_isHinge_24 : zD cX3_isHinge 24 (.if_icmp .eq 7) 3 27 := ⟨by decide +kernel, rfl⟩
theorem dX3_isHinge_27 : zD cX3_isHinge 27 (.iconst 1) 1 28 := ⟨by decide +kernel, rfl⟩
theorem dX3_isHinge_28 : zD cX3_isHinge 28 (.goto 4) 3 31 := ⟨by decide +kernel, rfl⟩
theorem dX3_isHinge_31 : zD cX3_isHinge 31 (.iconst 0) 1 32 := ⟨by decide +kernel, rfl⟩
theorem dX3_isHinge_32 : zD cX3_isHinge 32 .ireturn 1 33 := ⟨by decide +kernel, rfl⟩
theorem dX3_oddWalkFrom_0 : zD cX3_oddWalkFrom 0 (.iconst 1) 1 1 := ⟨by decide +kernel, rfl⟩
theorem dX3_oddWalkFrom_1 : zD cX3_oddWalkFrom 1 (.iload_n 1) 1 2 := ⟨by decide +kernel, rfl⟩
theorem dX3_oddWalkFrom_2 : zD cX3_oddWalkFrom 2 .ishl 1 3 := ⟨by decide +kernel, rfl⟩
theorem dX3_oddWalkFrom_3 : zD cX3_oddWalkFrom 3 (.istore_n 2) 1 4 := ⟨by decide +kernel, rfl⟩
theorem dX3_oddWalkFrom_4 : zD cX3_oddWalkFrom 4 (.iconst 1) 1 5 := ⟨by decide +kernel, rfl⟩
theorem dX3_oddWalkFrom_5 : zD cX3_oddWalkFrom 5 (.istore_n 3) 1 6 := ⟨by decide +kernel, rfl⟩
theorem dX3_oddWalkFrom_6 : zD cX3_oddWalkFrom 6 (.iload_n 3) 1 7 := ⟨by decide +kernel, rfl⟩
theorem dX3_oddWalkFrom_7 : zD cX3_oddWalkFrom 7 (.aload_n 0) 1 8 := ⟨by decide +kernel, rfl⟩
theorem dX3_oddWalkFrom_8 : zD cX3_oddWalkFrom 8 (.getfield 7) 3 11 := ⟨by decide +kernel, rfl⟩
theorem dX3_oddWalkFrom_11 : zD cX3_oddWalkFrom 11 (.getfield 23) 3 14 := ⟨by decide +kernel, rfl⟩
theorem dX3_oddWalkFrom_14 : zD cX3_oddWalkFrom 14 (.if_icmp .gt 39) 3 17 := ⟨by decide +kernel, rfl⟩
theorem dX3_oddWalkFrom_17 : zD cX3_oddWalkFrom 17 (.aload_n 0) 1 18 := ⟨by decide +kernel, rfl⟩
theorem dX3_oddWalkFrom_18 : zD cX3_oddWalkFrom 18 (.aload_n 0) 1 19 := ⟨by decide +kernel, rfl⟩
theorem dX3_oddWalkFrom_19 : zD cX3_oddWalkFrom 19 (.getfield 7) 3 22 := ⟨by decide +kernel, rfl⟩
theorem dX3_oddWalkFrom_22 : zD cX3_oddWalkFrom 22 (.getfield 51) 3 25 := ⟨by decide +kernel, rfl⟩
theorem dX3_oddWalkFrom_25 : zD cX3_oddWalkFrom 25 (.iload_n 2) 1 26 := ⟨by decide +kernel, rfl⟩
theorem dX3_oddWalkFrom_26 : zD cX3_oddWalkFrom 26 (.invokevirtual 54) 3 29 := ⟨by decide +kernel, rfl⟩
theorem dX3_oddWalkFrom_29 : zD cX3_oddWalkFrom 29 (.istore_n 2) 1 30 := ⟨by decide +kernel, rfl⟩
theorem dX3_oddWalkFrom_30 : zD cX3_oddWalkFrom 30 (.iload_n 3) 1 31 := ⟨by decide +kernel, rfl⟩
theorem dX3_oddWalkFrom_31 : zD cX3_oddWalkFrom 31 (.iconst 1) 1 32 := ⟨by decide +kernel, rfl⟩
theorem dX3_oddWalkFrom_32 : zD cX3_oddWalkFrom 32 .iand 1 33 := ⟨by decide +kernel, rfl⟩
theorem dX3_oddWalkFrom_33 : zD cX3_oddWalkFrom 33 (.iconst 1) 1 34 := ⟨by decide +kernel, rfl⟩
theorem dX3_oddWalkFrom_34 : zD cX3_oddWalkFrom 34 (.if_icmp .ne 13) 3 37 := ⟨by decide +kernel, rfl⟩
theorem dX3_oddWalkFrom_37 : zD cX3_oddWalkFrom 37 (.iload_n 2) 1 38 := ⟨by decide +kernel, rfl⟩
theorem dX3_oddWalkFrom_38 : zD cX3_oddWalkFrom 38 (.iload_n 1) 1 39 := ⟨by decide +kernel, rfl⟩
theorem dX3_oddWalkFrom_39 : zD cX3_oddWalkFrom 39 .ishr 1 40 := ⟨by decide +kernel, rfl⟩
theorem dX3_oddWalkFrom_40 : zD cX3_oddWalkFrom 40 (.iconst 1) 1 41 := ⟨by decide +kernel, rfl⟩
theorem dX3_oddWalkFrom_41 : zD cX3_oddWalkFrom 41 .iand 1 42 := ⟨by decide +kernel, rfl⟩
theorem dX3_oddWalkFrom_42 : zD cX3_oddWalkFrom 42 (.ifCond .eq 5) 3 45 := ⟨by decide +kernel, rfl⟩
theorem dX3_oddWalkFrom_45 : zD cX3_oddWalkFrom 45 (.iload_n 3) 1 46 := ⟨by decide +kernel, rfl⟩
theorem dX3_oddWalkFrom_46 : zD cX3_oddWalkFrom 46 .ireturn 1 47 := ⟨by decide +kernel, rfl⟩
theorem dX3_oddWalkFrom_47 : zD cX3_oddWalkFrom 47 (.iinc 3 1) 3 50 := ⟨by decide +kernel, rfl⟩
theorem dX3_oddWalkFrom_50 : zD cX3_oddWalkFrom 50 (.goto (-44)) 3 53 := ⟨by decide +kernel, rfl⟩
theorem dX3_oddWalkFrom_53 : zD cX3_oddWalkFrom 53 (.iconst 0) 1 54 := ⟨by decide +kernel, rfl⟩
theorem dX3_oddWalkFrom_54 : zD cX3_oddWalkFrom 54 .ireturn 1 55 := ⟨by decide +kernel, rfl⟩
theorem dX3_reached_0 : zD cX3_reached 0 (.iload_n 1) 1 1 := ⟨by decide +kernel, rfl⟩
theorem dX3_reached_1 : zD cX3_reached 1 (.iload_n 2) 1 2 := ⟨by decide +kernel, rfl⟩
theorem dX3_reached_2 : zD cX3_reached 2 .iand 1 3 := ⟨by decide +kernel, rfl⟩
theorem dX3_reached_3 : zD cX3_reached 3 (.istore_n 3) 1 4 := ⟨by decide +kernel, rfl⟩
theorem dX3_reached_4 : zD cX3_reached 4 (.iconst 0) 1 5 := ⟨by decide +kernel, rfl⟩
theorem dX3_reached_5 : zD cX3_reached 5 (.istore 4) 2 7 := ⟨by decide +kernel, rfl⟩
theorem dX3_reached_7 : zD cX3_reached 7 (.iload 4) 2 9 := ⟨by decide +kernel, rfl⟩
theorem dX3_reached_9 : zD cX3_reached 9 (.aload_n 0) 1 10 := ⟨by decide +kernel, rfl⟩
theorem dX3_reached_10 : zD cX3_reached 10 (.getfield 7) 3 13 := ⟨by decide +kernel, rfl⟩
theorem dX3_reached_13 : zD cX3_reached 13 (.getfield 23) 3 16 := ⟨by decide +kernel, rfl⟩
theorem dX3_reached_16 : zD cX3_reached 16 (.if_icmp .ge 38) 3 19 := ⟨by decide +kernel, rfl⟩
theorem dX3_reached_19 : zD cX3_reached 19 (.iload_n 3) 1 20 := ⟨by decide +kernel, rfl⟩
theorem dX3_reached_20 : zD cX3_reached 20 (.aload_n 0) 1 21 := ⟨by decide +kernel, rfl⟩
theorem dX3_reached_21 : zD cX3_reached 21 (.aload_n 0) 1 22 := ⟨by decide +kernel, rfl⟩
theorem dX3_reached_22 : zD cX3_reached 22 (.getfield 7) 3 25 := ⟨by decide +kernel, rfl⟩
theorem dX3_reached_25 : zD cX3_reached 25 (.getfield 34) 3 28 := ⟨by decide +kernel, rfl⟩
theorem dX3_reached_28 : zD cX3_reached 28 (.iload_n 3) 1 29 := ⟨by decide +kernel, rfl⟩
theorem dX3_reached_29 : zD cX3_reached 29 (.invokevirtual 54) 3 32 := ⟨by decide +kernel, rfl⟩
theorem dX3_reached_32 : zD cX3_reached 32 (.iload_n 2) 1 33 := ⟨by decide +kernel, rfl⟩
theorem dX3_reached_33 : zD cX3_reached 33 .iand 1 34 := ⟨by decide +kernel, rfl⟩
theorem dX3_reached_34 : zD cX3_reached 34 .ior 1 35 := ⟨by decide +kernel, rfl⟩
theorem dX3_reached_35 : zD cX3_reached 35 (.istore 5) 2 37 := ⟨by decide +kernel, rfl⟩
theorem dX3_reached_37 : zD cX3_reached 37 (.iload 5) 2 39 := ⟨by decide +kernel, rfl⟩
theorem dX3_reached_39 : zD cX3_reached 39 (.iload_n 3) 1 40 := ⟨by decide +kernel, rfl⟩
theorem dX3_reached_40 : zD cX3_reached 40 (.if_icmp .ne 5) 3 43 := ⟨by decide +kernel, rfl⟩
theorem dX3_reached_43 : zD cX3_reached 43 (.iload_n 3) 1 44 := ⟨by decide +kernel, rfl⟩
theorem dX3_reached_44 : zD cX3_reached 44 .ireturn 1 45 := ⟨by decide +kernel, rfl⟩
theorem dX3_reached_45 : zD cX3_reached 45 (.iload 5) 2 47 := ⟨by decide +kernel, rfl⟩
theorem dX3_reached_47 : zD cX3_reached 47 (.istore_n 3) 1 48 := ⟨by decide +kernel, rfl⟩
theorem dX3_reached_48 : zD cX3_reached 48 (.iinc 4 1) 3 51 := ⟨by decide +kernel, rfl⟩
theorem dX3_reached_51 : zD cX3_reached 51 (.goto (-44)) 3 54 := ⟨by decide +kernel, rfl⟩
theorem dX3_reached_54 : zD cX3_reached 54 (.iload_n 3) 1 55 := ⟨by decide +kernel, rfl⟩
theorem dX3_reached_55 : zD cX3_reached 55 .ireturn 1 56 := ⟨by decide +kernel, rfl⟩
theorem dX3_neighbours_0 : zD cX3_neighbours 0 (.iconst 0) 1 1 := ⟨by decide +kernel, rfl⟩
theorem dX3_neighbours_1 : zD cX3_neighbours 1 (.istore_n 3) 1 2 := ⟨by decide +kernel, rfl⟩
theorem dX3_neighbours_2 : zD cX3_neighbours 2 (.iconst 0) 1 3 := ⟨by decide +kernel, rfl⟩
theorem dX3_neighbours_3 : zD cX3_neighbours 3 (.istore 4) 2 5 := ⟨by decide +kernel, rfl⟩
theorem dX3_neighbours_5 : zD cX3_neighbours 5 (.iload 4) 2 7 := ⟨by decide +kernel, rfl⟩
theorem dX3_neighbours_7 : zD cX3_neighbours 7 (.aload_n 0) 1 8 := ⟨by decide +kernel, rfl⟩
theorem dX3_neighbours_8 : zD cX3_neighbours 8 (.getfield 7) 3 11 := ⟨by decide +kernel, rfl⟩
theorem dX3_neighbours_11 : zD cX3_neighbours 11 (.getfield 23) 3 14 := ⟨by decide +kernel, rfl⟩
theorem dX3_neighbours_14 : zD cX3_neighbours 14 (.if_icmp .ge 32) 3 17 := ⟨by decide +kernel, rfl⟩
theorem dX3_neighbours_17 : zD cX3_neighbours 17 (.iload 4) 2 19 := ⟨by decide +kernel, rfl⟩
theorem dX3_neighbours_19 : zD cX3_neighbours 19 (.aload_n 1) 1 20 := ⟨by decide +kernel, rfl⟩
theorem dX3_neighbours_20 : zD cX3_neighbours 20 .arraylength 1 21 := ⟨by decide +kernel, rfl⟩
theorem dX3_neighbours_21 : zD cX3_neighbours 21 (.if_icmp .ge 25) 3 24 := ⟨by decide +kernel, rfl⟩
theorem dX3_neighbours_24 : zD cX3_neighbours 24 (.iload_n 2) 1 25 := ⟨by decide +kernel, rfl⟩
theorem dX3_neighbours_25 : zD cX3_neighbours 25 (.iload 4) 2 27 := ⟨by decide +kernel, rfl⟩
theorem dX3_neighbours_27 : zD cX3_neighbours 27 .ishr 1 28 := ⟨by decide +kernel, rfl⟩
theorem dX3_neighbours_28 : zD cX3_neighbours 28 (.iconst 1) 1 29 := ⟨by decide +kernel, rfl⟩
theorem dX3_neighbours_29 : zD cX3_neighbours 29 .iand 1 30 := ⟨by decide +kernel, rfl⟩
theorem dX3_neighbours_30 : zD cX3_neighbours 30 (.ifCond .eq 10) 3 33 := ⟨by decide +kernel, rfl⟩
theorem dX3_neighbours_33 : zD cX3_neighbours 33 (.iload_n 3) 1 34 := ⟨by decide +kernel, rfl⟩
theorem dX3_neighbours_34 : zD cX3_neighbours 34 (.aload_n 1) 1 35 := ⟨by decide +kernel, rfl⟩
theorem dX3_neighbours_35 : zD cX3_neighbours 35 (.iload 4) 2 37 := ⟨by decide +kernel, rfl⟩
theorem dX3_neighbours_37 : zD cX3_neighbours 37 .iaload 1 38 := ⟨by decide +kernel, rfl⟩
theorem dX3_neighbours_38 : zD cX3_neighbours 38 .ior 1 39 := ⟨by decide +kernel, rfl⟩
theorem dX3_neighbours_39 : zD cX3_neighbours 39 (.istore_n 3) 1 40 := ⟨by decide +kernel, rfl⟩
theorem dX3_neighbours_40 : zD cX3_neighbours 40 (.iinc 4 1) 3 43 := ⟨by decide +kernel, rfl⟩
theorem dX3_neighbours_43 : zD cX3_neighbours 43 (.goto (-38)) 3 46 := ⟨by decide +kernel, rfl⟩
theorem dX3_neighbours_46 : zD cX3_neighbours 46 (.iload_n 3) 1 47 := ⟨by decide +kernel, rfl⟩
theorem dX3_neighbours_47 : zD cX3_neighbours 47 .ireturn 1 48 := ⟨by decide +kernel, rfl⟩
theorem dX4_init_0 : zD cX4_init 0 (.aload_n 0) 1 1 := ⟨by decide +kernel, rfl⟩
theorem dX4_init_1 : zD cX4_init 1 (.invokespecial 3) 3 4 := ⟨by decide +kernel, rfl⟩
theorem dX4_init_4 : zD cX4_init 4 (.aload_n 0) 1 5 := ⟨by decide +kernel, rfl⟩
theorem dX4_init_5 : zD cX4_init 5 (.bipush 14) 2 7 := ⟨by decide +kernel, rfl⟩
theorem dX4_init_7 : zD cX4_init 7 (.newarray .int) 2 9 := ⟨by decide +kernel, rfl⟩
theorem dX4_init_9 : zD cX4_init 9 (.putfield 9) 3 12 := ⟨by decide +kernel, rfl⟩
theorem dX4_init_12 : zD cX4_init 12 (.aload_n 0) 1 13 := ⟨by decide +kernel, rfl⟩
theorem dX4_init_13 : zD cX4_init 13 (.bipush 14) 2 15 := ⟨by decide +kernel, rfl⟩
theorem dX4_init_15 : zD cX4_init 15 (.newarray .int) 2 17 := ⟨by decide +kernel, rfl⟩
theorem dX4_init_17 : zD cX4_init 17 (.putfield 15) 3 20 := ⟨by decide +kernel, rfl⟩
theorem dX4_init_20 : zD cX4_init 20 (.aload_n 0) 1 21 := ⟨by decide +kernel, rfl⟩
theorem dX4_init_21 : zD cX4_init 21 (.bipush 14) 2 23 := ⟨by decide +kernel, rfl⟩
theorem dX4_init_23 : zD cX4_init 23 (.newarray .int) 2 25 := ⟨by decide +kernel, rfl⟩
theorem dX4_init_25 : zD cX4_init 25 (.putfield 18) 3 28 := ⟨by decide +kernel, rfl⟩
theorem dX4_init_28 : zD cX4_init 28 (.aload_n 0) 1 29 := ⟨by decide +kernel, rfl⟩
theorem dX4_init_29 : zD cX4_init 29 (.bipush 14) 2 31 := ⟨by decide +kernel, rfl⟩
theorem dX4_init_31 : zD cX4_init 31 (.newarray .int) 2 33 := ⟨by decide +kernel, rfl⟩
theorem dX4_init_33 : zD cX4_init 33 (.putfield 21) 3 36 := ⟨by decide +kernel, rfl⟩
theorem dX4_init_36 : zD cX4_init 36 (.aload_n 0) 1 37 := ⟨by decide +kernel, rfl⟩
theorem dX4_init_37 : zD cX4_init 37 (.bipush 14) 2 39 := ⟨by decide +kernel, rfl⟩
theorem dX4_init_39 : zD cX4_init 39 (.newarray .int) 2 41 := ⟨by decide +kernel, rfl⟩
theorem dX4_init_41 : zD cX4_init 41 (.putfield 24) 3 44 := ⟨by decide +kernel, rfl⟩
theorem dX4_init_44 : zD cX4_init 44 (.aload_n 0) 1 45 := ⟨by decide +kernel, rfl⟩
theorem dX4_init_45 : zD cX4_init 45 (.bipush 14) 2 47 := ⟨by decide +kernel, rfl⟩
theorem dX4_init_47 : zD cX4_init 47 (.newarray .int) 2 49 := ⟨by decide +kernel, rfl⟩
theorem dX4_init_49 : zD cX4_init 49 (.putfield 27) 3 52 := ⟨by decide +kernel, rfl⟩
theorem dX4_init_52 : zD cX4_init 52 (.aload_n 0) 1 53 := ⟨by decide +kernel, rfl⟩
theorem dX4_init_53 : zD cX4_init 53 (.bipush 14) 2 55 := ⟨by decide +kernel, rfl⟩
theorem dX4_init_55 : zD cX4_init 55 (.newarray .int) 2 57 := ⟨by decide +kernel, rfl⟩
theorem dX4_init_57 : zD cX4_init 57 (.putfield 30) 3 60 := ⟨by decide +kernel, rfl⟩
theorem dX4_init_60 : zD cX4_init 60 (.aload_n 0) 1 61 := ⟨by decide +kernel, rfl⟩
theorem dX4_init_61 : zD cX4_init 61 (.bipush 14) 2 63 := ⟨by decide +kernel, rfl⟩
theorem dX4_init_63 : zD cX4_init 63 (.newarray .int) 2 65 := ⟨by decide +kernel, rfl⟩
theorem dX4_init_65 : zD cX4_init 65 (.putfield 33) 3 68 := ⟨by decide +kernel, rfl⟩
theorem dX4_init_68 : zD cX4_init 68 (.aload_n 0) 1 69 := ⟨by decide +kernel, rfl⟩
theorem dX4_init_69 : zD cX4_init 69 (.iconst 0) 1 70 := ⟨by decide +kernel, rfl⟩
theorem dX4_init_70 : zD cX4_init 70 (.putfield 36) 3 73 := ⟨by decide +kernel, rfl⟩
theorem dX4_init_73 : zD cX4_init 73 (.aload_n 0) 1 74 := ⟨by decide +kernel, rfl⟩
theorem dX4_init_74 : zD cX4_init 74 (.iconst 0) 1 75 := ⟨by decide +kernel, rfl⟩
theorem dX4_init_75 : zD cX4_init 75 (.putfield 40) 3 78 := ⟨by decide +kernel, rfl⟩
theorem dX4_init_78 : zD cX4_init 78 (.aload_n 0) 1 79 := ⟨by decide +kernel, rfl⟩
theorem dX4_init_79 : zD cX4_init 79 (.iconst 0) 1 80 := ⟨by decide +kernel, rfl⟩
theorem dX4_init_80 : zD cX4_init 80 (.putfield 43) 3 83 := ⟨by decide +kernel, rfl⟩
theorem dX4_init_83 : zD cX4_init 83 .return_ 1 84 := ⟨by decide +kernel, rfl⟩
theorem dX4_lay_0 : zD cX4_lay 0 (.aload_n 0) 1 1 := ⟨by decide +kernel, rfl⟩
theorem dX4_lay_1 : zD cX4_lay 1 (.iconst 0) 1 2 := ⟨by decide +kernel, rfl⟩
theorem dX4_lay_2 : zD cX4_lay 2 (.putfield 36) 3 5 := ⟨by decide +kernel, rfl⟩
theorem dX4_lay_5 : zD cX4_lay 5 (.aload_n 0) 1 6 := ⟨by decide +kernel, rfl⟩
theorem dX4_lay_6 : zD cX4_lay 6 (.aload_n 1) 1 7 := ⟨by decide +kernel, rfl⟩
theorem dX4_lay_7 : zD cX4_lay 7 (.getfield 46) 3 10 := ⟨by decide +kernel, rfl⟩
theorem dX4_lay_10 : zD cX4_lay 10 (.putfield 40) 3 13 := ⟨by decide +kernel, rfl⟩
theorem dX4_lay_13 : zD cX4_lay 13 (.aload_n 0) 1 14 := ⟨by decide +kernel, rfl⟩
theorem dX4_lay_14 : zD cX4_lay 14 (.aload_n 1) 1 15 := ⟨by decide +kernel, rfl⟩
theorem dX4_lay_15 : zD cX4_lay 15 (.getfield 49) 3 18 := ⟨by decide +kernel, rfl⟩
theorem dX4_lay_18 : zD cX4_lay 18 (.putfield 43) 3 21 := ⟨by decide +kernel, rfl⟩
theorem dX4_lay_21 : zD cX4_lay 21 (.iconst 0) 1 22 := ⟨by decide +kernel, rfl⟩
theorem dX4_lay_22 : zD cX4_lay 22 (.istore_n 2) 1 23 := ⟨by decide +kernel, rfl⟩
theorem dX4_lay_23 : zD cX4_lay 23 (.iload_n 2) 1 24 := ⟨by decide +kernel, rfl⟩
theorem dX4_lay_24 : zD cX4_lay 24 (.aload_n 1) 1 25 := ⟨by decide +kernel, rfl⟩
theorem dX4_lay_25 : zD cX4_lay 25 (.getfield 50) 3 28 := ⟨by decide +kernel, rfl⟩
theorem dX4_lay_28 : zD cX4_lay 28 (.if_icmp .ge 85) 3 31 := ⟨by decide +kernel, rfl⟩
theorem dX4_lay_31 : zD cX4_lay 31 (.aload_n 1) 1 32 := ⟨by decide +kernel, rfl⟩
theorem dX4_lay_32 : zD cX4_lay 32 (.getfield 53) 3 35 := ⟨by decide +kernel, rfl⟩
theorem dX4_lay_35 : zD cX4_lay 35 (.iload_n 2) 1 36 := ⟨by decide +kernel, rfl⟩
theorem dX4_lay_36 : zD cX4_lay 36 .iaload 1 37 := ⟨by decide +kernel, rfl⟩
theorem dX4_lay_37 : zD cX4_lay 37 (.istore_n 3) 1 38 := ⟨by decide +kernel, rfl⟩
theorem dX4_lay_38 : zD cX4_lay 38 (.aload_n 1) 1 39 := ⟨by decide +kernel, rfl⟩
theorem dX4_lay_39 : zD cX4_lay 39 (.getfield 54) 3 42 := ⟨by decide +kernel, rfl⟩
theorem dX4_lay_42 : zD cX4_lay 42 (.iload_n 2) 1 43 := ⟨by decide +kernel, rfl⟩
theorem dX4_lay_43 : zD cX4_lay 43 .iaload 1 44 := ⟨by decide +kernel, rfl⟩
theorem dX4_lay_44 : zD cX4_lay 44 (.istore 4) 2 46 := ⟨by decide +kernel, rfl⟩
theorem dX4_lay_46 : zD cX4_lay 46 (.iconst 0) 1 47 := ⟨by decide +kernel, rfl⟩
theorem dX4_lay_47 : zD cX4_lay 47 (.istore 5) 2 49 := ⟨by decide +kernel, rfl⟩
theorem dX4_lay_49 : zD cX4_lay 49 (.iload 5) 2 51 := ⟨by decide +kernel, rfl⟩
theorem dX4_lay_51 : zD cX4_lay 51 (.iconst 2) 1 52 := ⟨by decide +kernel, rfl⟩
theorem dX4_lay_52 : zD cX4_lay 52 (.if_icmp .ge 42) 3 55 := ⟨by decide +kernel, rfl⟩
theorem dX4_lay_55 : zD cX4_lay 55 (.iload 4) 2 57 := ⟨by decide +kernel, rfl⟩
theorem dX4_lay_57 : zD cX4_lay 57 (.ifCond .eq 37) 3 60 := ⟨by decide +kernel, rfl⟩
theorem dX4_lay_60 : zD cX4_lay 60 (.iload 4) 2 62 := ⟨by decide +kernel, rfl⟩
theorem dX4_lay_62 : zD cX4_lay 62 (.invokestatic 57) 3 65 := ⟨by decide +kernel, rfl⟩
theorem dX4_lay_65 : zD cX4_lay 65 (.istore 6) 2 67 := ⟨by decide +kernel, rfl⟩
theorem dX4_lay_67 : zD cX4_lay 67 (.aload_n 0) 1 68 := ⟨by decide +kernel, rfl⟩
theorem dX4_lay_68 : zD cX4_lay 68 (.aload_n 1) 1 69 := ⟨by decide +kernel, rfl⟩
theorem dX4_lay_69 : zD cX4_lay 69 (.iload_n 2) 1 70 := ⟨by decide +kernel, rfl⟩
theorem dX4_lay_70 : zD cX4_lay 70 (.iload_n 3) 1 71 := ⟨by decide +kernel, rfl⟩
theorem dX4_lay_71 : zD cX4_lay 71 (.iload 6) 2 73 := ⟨by decide +kernel, rfl⟩
theorem dX4_lay_73 : zD cX4_lay 73 (.invokevirtual 61) 3 76 := ⟨by decide +kernel, rfl⟩
theorem dX4_lay_76 : zD cX4_lay 76 (.iload 6) 2 78 := ⟨by decide +kernel, rfl⟩
theorem dX4_lay_78 : zD cX4_lay 78 (.iconst 1) 1 79 := ⟨by decide +kernel, rfl⟩
theorem dX4_lay_79 : zD cX4_lay 79 .iadd 1 80 := ⟨by decide +kernel, rfl⟩
theorem dX4_lay_80 : zD cX4_lay 80 (.istore_n 3) 1 81 := ⟨by decide +kernel, rfl⟩
theorem dX4_lay_81 : zD cX4_lay 81 (.iload 4) 2 83 := ⟨by decide +kernel, rfl⟩
theorem dX4_lay_83 : zD cX4_lay 83 (.invokestatic 65) 3 86 := ⟨by decide +kernel, rfl⟩
theorem dX4_lay_86 : zD cX4_lay 86 (.istore 4) 2 88 := ⟨by decide +kernel, rfl⟩
theorem dX4_lay_88 : zD cX4_lay 88 (.iinc 5 1) 3 91 := ⟨by decide +kernel, rfl⟩
theorem dX4_lay_91 : zD cX4_lay 91 (.goto (-42)) 3 94 := ⟨by decide +kernel, rfl⟩
theorem dX4_lay_94 : zD cX4_lay 94 (.aload_n 0) 1 95 := ⟨by decide +kernel, rfl⟩
theorem dX4_lay_95 : zD cX4_lay 95 (.aload_n 1) 1 96 := ⟨by decide +kernel, rfl⟩
theorem dX4_lay_96 : zD cX4_lay 96 (.iload_n 2) 1 97 := ⟨by decide +kernel, rfl⟩
theorem dX4_lay_97 : zD cX4_lay 97 (.iload_n 3) 1 98 := ⟨by decide +kernel, rfl⟩
theorem dX4_lay_98 : zD cX4_lay 98 (.aload_n 1) 1 99 := ⟨by decide +kernel, rfl⟩
theorem dX4_lay_99 : zD cX4_lay 99 (.getfield 68) 3 102 := ⟨by decide +kernel, rfl⟩
theorem dX4_lay_102 : zD cX4_lay 102 (.iload_n 2) 1 103 := ⟨by decide +kernel, rfl⟩
theorem dX4_lay_103 : zD cX4_lay 103 .iaload 1 104 := ⟨by decide +kernel, rfl⟩
theorem dX4_lay_104 : zD cX4_lay 104 (.invokevirtual 61) 3 107 := ⟨by decide +kernel, rfl⟩
theorem dX4_lay_107 : zD cX4_lay 107 (.iinc 2 1) 3 110 := ⟨by decide +kernel, rfl⟩
theorem dX4_lay_110 : zD cX4_lay 110 (.goto (-87)) 3 113 := ⟨by decide +kernel, rfl⟩
theorem dX4_lay_113 : zD cX4_lay 113 (.aload_n 0) 1 114 := ⟨by decide +kernel, rfl⟩
theorem dX4_lay_114 : zD cX4_lay 114 (.aload_n 1) 1 115 := ⟨by decide +kernel, rfl⟩
theorem dX4_lay_115 : zD cX4_lay 115 (.getfield 69) 3 118 := ⟨by decide +kernel, rfl⟩
theorem dX4_lay_118 : zD cX4_lay 118 (.aload_n 1) 1 119 := ⟨by decide +kernel, rfl⟩
theorem dX4_lay_119 : zD cX4_lay 119 (.getfield 69) 3 122 := ⟨by decide +kernel, rfl⟩
theorem dX4_lay_122 : zD cX4_lay 122 .imul 1 123 := ⟨by decide +kernel, rfl⟩
theorem dX4_lay_123 : zD cX4_lay 123 (.invokevirtual 72) 3 126 := ⟨by decide +kernel, rfl⟩
theorem dX4_lay_126 : zD cX4_lay 126 .return_ 1 127 := ⟨by decide +kernel, rfl⟩
theorem dX4_has_0 : zD cX4_has 0 (.iload_n 1) 1 1 := ⟨by decide +kernel, rfl⟩
theorem dX4_has_1 : zD cX4_has 1 (.ifCond .lt 21) 3 4 := ⟨by decide +kernel, rfl⟩
theorem dX4_has_4 : zD cX4_has 4 (.iload_n 1) 1 5 := ⟨by decide +kernel, rfl⟩
theorem dX4_has_5 : zD cX4_has 5 (.aload_n 0) 1 6 := ⟨by decide +kernel, rfl⟩
theorem dX4_has_6 : zD cX4_has 6 (.getfield 36) 3 9 := ⟨by decide +kernel, rfl⟩
theorem dX4_has_9 : zD cX4_has 9 (.if_icmp .ge 13) 3 12 := ⟨by decide +kernel, rfl⟩
theorem dX4_has_12 : zD cX4_has 12 (.iload_n 1) 1 13 := ⟨by decide +kernel, rfl⟩
theorem dX4_has_13 : zD cX4_has 13 (.bipush 14) 2 15 := ⟨by decide +kernel, rfl⟩
theorem dX4_has_15 : zD cX4_has 15 (.if_icmp .ge 7) 3 18 := ⟨by decide +kernel, rfl⟩
theorem dX4_has_18 : zD cX4_has 18 (.iconst 1) 1 19 := ⟨by decide +kernel, rfl⟩
theorem dX4_has_19 : zD cX4_has 19 (.goto 4) 3 22 := ⟨by decide +kernel, rfl⟩
theorem dX4_has_22 : zD cX4_has 22 (.iconst 0) 1 23 := ⟨by decide +kernel, rfl⟩
theorem dX4_has_23 : zD cX4_has 23 .ireturn 1 24 := ⟨by decide +kernel, rfl⟩
theorem dX4_all_0 : zD cX4_all 0 (.iconst 1) 1 1 := ⟨by decide +kernel, rfl⟩
theorem dX4_all_1 : zD cX4_all 1 (.aload_n 0) 1 2 := ⟨by decide +kernel, rfl⟩
theorem dX4_all_2 : zD cX4_all 2 (.getfield 36) 3 5 := ⟨by decide +kernel, rfl⟩
theorem dX4_all_5 : zD cX4_all 5 .ishl 1 6 := ⟨by decide +kernel, rfl⟩
theorem dX4_all_6 : zD cX4_all 6 (.iconst 1) 1 7 := ⟨by decide +kernel, rfl⟩
theorem dX4_all_7 : zD cX4_all 7 .isub 1 8 := ⟨by decide +kernel, rfl⟩
theorem dX4_all_8 : zD cX4_all 8 .ireturn 1 9 := ⟨by decide +kernel, rfl⟩
theorem dX4_gapOf_0 : zD cX4_gapOf 0 (.aload_n 0) 1 1 := ⟨by decide +kernel, rfl⟩
theorem dX4_gapOf_1 : zD cX4_gapOf 1 (.iload_n 1) 1 2 := ⟨by decide +kernel, rfl⟩
theorem dX4_gapOf_2 : zD cX4_gapOf 2 (.invokevirtual 76) 3 5 := ⟨by decide +kernel, rfl⟩
theorem dX4_gapOf_5 : zD cX4_gapOf 5 (.ifCond .eq 11) 3 8 := ⟨by decide +kernel, rfl⟩
theorem dX4_gapOf_8 : zD cX4_gapOf 8 (.aload_n 0) 1 9 := ⟨by decide +kernel, rfl⟩
theorem dX4_gapOf_9 : zD cX4_gapOf 9 (.iload_n 2) 1 10 := ⟨by decide +kernel, rfl⟩
theorem dX4_gapOf_10 : zD cX4_gapOf 10 (.invokevirtual 76) 3 13 := ⟨by decide +kernel, rfl⟩
theorem dX4_gapOf_13 : zD cX4_gapOf 13 (.ifCond .ne 5) 3 16 := ⟨by decide +kernel, rfl⟩
theorem dX4_gapOf_16 : zD cX4_gapOf 16 (.iconst 0) 1 17 := ⟨by decide +kernel, rfl⟩
theorem dX4_gapOf_17 : zD cX4_gapOf 17 .ireturn 1 18 := ⟨by decide +kernel, rfl⟩
theorem dX4_gapOf_18 : zD cX4_gapOf 18 (.aload_n 0) 1 19 := ⟨by decide +kernel, rfl⟩
theorem dX4_gapOf_19 : zD cX4_gapOf 19 (.getfield 15) 3 22 := ⟨by decide +kernel, rfl⟩
theorem dX4_gapOf_22 : zD cX4_gapOf 22 (.iload_n 1) 1 23 := ⟨by decide +kernel, rfl⟩
theorem dX4_gapOf_23 : zD cX4_gapOf 23 .iaload 1 24 := ⟨by decide +kernel, rfl⟩
theorem dX4_gapOf_24 : zD cX4_gapOf 24 (.aload_n 0) 1 25 := ⟨by decide +kernel, rfl⟩
theorem dX4_gapOf_25 : zD cX4_gapOf 25 (.getfield 18) 3 28 := ⟨by decide +kernel, rfl⟩
theorem dX4_gapOf_28 : zD cX4_gapOf 28 (.iload_n 1) 1 29 := ⟨by decide +kernel, rfl⟩
theorem dX4_gapOf_29 : zD cX4_gapOf 29 .iaload 1 30 := ⟨by decide +kernel, rfl⟩
theorem dX4_gapOf_30 : zD cX4_gapOf 30 (.aload_n 0) 1 31 := ⟨by decide +kernel, rfl⟩
theorem dX4_gapOf_31 : zD cX4_gapOf 31 (.getfield 15) 3 34 := ⟨by decide +kernel, rfl⟩
theorem dX4_gapOf_34 : zD cX4_gapOf 34 (.iload_n 2) 1 35 := ⟨by decide +kernel, rfl⟩
theorem dX4_gapOf_35 : zD cX4_gapOf 35 .iaload 1 36 := ⟨by decide +kernel, rfl⟩
theorem dX4_gapOf_36 : zD cX4_gapOf 36 (.aload_n 0) 1 37 := ⟨by decide +kernel, rfl⟩
theorem dX4_gapOf_37 : zD cX4_gapOf 37 (.getfield 18) 3 40 := ⟨by decide +kernel, rfl⟩
theorem dX4_gapOf_40 : zD cX4_gapOf 40 (.iload_n 2) 1 41 := ⟨by decide +kernel, rfl⟩
theorem dX4_gapOf_41 : zD cX4_gapOf 41 .iaload 1 42 := ⟨by decide +kernel, rfl⟩
theorem dX4_gapOf_42 : zD cX4_gapOf 42 (.invokestatic 80) 3 45 := ⟨by decide +kernel, rfl⟩
theorem dX4_gapOf_45 : zD cX4_gapOf 45 (.istore_n 3) 1 46 := ⟨by decide +kernel, rfl⟩
theorem dX4_gapOf_46 : zD cX4_gapOf 46 (.aload_n 0) 1 47 := ⟨by decide +kernel, rfl⟩
theorem dX4_gapOf_47 : zD cX4_gapOf 47 (.getfield 30) 3 50 := ⟨by decide +kernel, rfl⟩
theorem dX4_gapOf_50 : zD cX4_gapOf 50 (.iload_n 1) 1 51 := ⟨by decide +kernel, rfl⟩
theorem dX4_gapOf_51 : zD cX4_gapOf 51 .iaload 1 52 := ⟨by decide +kernel, rfl⟩
theorem dX4_gapOf_52 : zD cX4_gapOf 52 (.aload_n 0) 1 53 := ⟨by decide +kernel, rfl⟩
theorem dX4_gapOf_53 : zD cX4_gapOf 53 (.getfield 33) 3 56 := ⟨by decide +kernel, rfl⟩
theorem dX4_gapOf_56 : zD cX4_gapOf 56 (.iload_n 1) 1 57 := ⟨by decide +kernel, rfl⟩
theorem dX4_gapOf_57 : zD cX4_gapOf 57 .iaload 1 58 := ⟨by decide +kernel, rfl⟩
theorem dX4_gapOf_58 : zD cX4_gapOf 58 (.aload_n 0) 1 59 := ⟨by decide +kernel, rfl⟩
theorem dX4_gapOf_59 : zD cX4_gapOf 59 (.getfield 30) 3 62 := ⟨by decide +kernel, rfl⟩
theorem dX4_gapOf_62 : zD cX4_gapOf 62 (.iload_n 2) 1 63 := ⟨by decide +kernel, rfl⟩
theorem dX4_gapOf_63 : zD cX4_gapOf 63 .iaload 1 64 := ⟨by decide +kernel, rfl⟩
theorem dX4_gapOf_64 : zD cX4_gapOf 64 (.aload_n 0) 1 65 := ⟨by decide +kernel, rfl⟩
theorem dX4_gapOf_65 : zD cX4_gapOf 65 (.getfield 33) 3 68 := ⟨by decide +kernel, rfl⟩
theorem dX4_gapOf_68 : zD cX4_gapOf 68 (.iload_n 2) 1 69 := ⟨by decide +kernel, rfl⟩
theorem dX4_gapOf_69 : zD cX4_gapOf 69 .iaload 1 70 := ⟨by decide +kernel, rfl⟩
theorem dX4_gapOf_70 : zD cX4_gapOf 70 (.invokestatic 80) 3 73 := ⟨by decide +kernel, rfl⟩
theorem dX4_gapOf_73 : zD cX4_gapOf 73 (.istore 4) 2 75 := ⟨by decide +kernel, rfl⟩
theorem dX4_gapOf_75 : zD cX4_gapOf 75 (.iload_n 3) 1 76 := ⟨by decide +kernel, rfl⟩
theorem dX4_gapOf_76 : zD cX4_gapOf 76 (.iload_n 3) 1 77 := ⟨by decide +kernel, rfl⟩
theorem dX4_gapOf_77 : zD cX4_gapOf 77 .imul 1 78 := ⟨by decide +kernel, rfl⟩
theorem dX4_gapOf_78 : zD cX4_gapOf 78 (.iload 4) 2 80 := ⟨by decide +kernel, rfl⟩
theorem dX4_gapOf_80 : zD cX4_gapOf 80 (.iload 4) 2 82 := ⟨by decide +kernel, rfl⟩
theorem dX4_gapOf_82 : zD cX4_gapOf 82 .imul 1 83 := ⟨by decide +kernel, rfl⟩
theorem dX4_gapOf_83 : zD cX4_gapOf 83 .iadd 1 84 := ⟨by decide +kernel, rfl⟩
theorem dX4_gapOf_84 : zD cX4_gapOf 84 .ireturn 1 85 := ⟨by decide +kernel, rfl⟩
theorem dX4_pieceAt_0 : zD cX4_pieceAt 0 (.iconst 0) 1 1 := ⟨by decide +kernel, rfl⟩
theorem dX4_pieceAt_1 : zD cX4_pieceAt 1 (.istore_n 3) 1 2 := ⟨by decide +kernel, rfl⟩
theorem dX4_pieceAt_2 : zD cX4_pieceAt 2 (.iload_n 3) 1 3 := ⟨by decide +kernel, rfl⟩
theorem dX4_pieceAt_3 : zD cX4_pieceAt 3 (.aload_n 0) 1 4 := ⟨by decide +kernel, rfl⟩
theorem dX4_pieceAt_4 : zD cX4_pieceAt 4 (.getfield 36) 3 7 := ⟨by decide +kernel, rfl⟩
theorem dX4_pieceAt_7 : zD cX4_pieceAt 7 (.if_icmp .ge 51) 3 10 := ⟨by decide +kernel, rfl⟩
theorem dX4_pieceAt_10 : zD cX4_pieceAt 10 (.aload_n 0) 1 11 := ⟨by decide +kernel, rfl⟩
theorem dX4_pieceAt_11 : zD cX4_pieceAt 11 (.getfield 15) 3 14 := ⟨by decide +kernel, rfl⟩
theorem dX4_pieceAt_14 : zD cX4_pieceAt 14 (.iload_n 3) 1 15 := ⟨by decide +kernel, rfl⟩
theorem dX4_pieceAt_15 : zD cX4_pieceAt 15 .iaload 1 16 := ⟨by decide +kernel, rfl⟩
theorem dX4_pieceAt_16 : zD cX4_pieceAt 16 (.iload_n 1) 1 17 := ⟨by decide +kernel, rfl⟩
theorem dX4_pieceAt_17 : zD cX4_pieceAt 17 (.if_icmp .gt 35) 3 20 := ⟨by decide +kernel, rfl⟩
theorem dX4_pieceAt_20 : zD cX4_pieceAt 20 (.iload_n 1) 1 21 := ⟨by decide +kernel, rfl⟩
theorem dX4_pieceAt_21 : zD cX4_pieceAt 21 (.aload_n 0) 1 22 := ⟨by decide +kernel, rfl⟩
theorem dX4_pieceAt_22 : zD cX4_pieceAt 22 (.getfield 18) 3 25 := ⟨by decide +kernel, rfl⟩
theorem dX4_pieceAt_25 : zD cX4_pieceAt 25 (.iload_n 3) 1 26 := ⟨by decide +kernel, rfl⟩
theorem dX4_pieceAt_26 : zD cX4_pieceAt 26 .iaload 1 27 := ⟨by decide +kernel, rfl⟩
theorem dX4_pieceAt_27 : zD cX4_pieceAt 27 (.if_icmp .gt 25) 3 30 := ⟨by decide +kernel, rfl⟩
theorem dX4_pieceAt_30 : zD cX4_pieceAt 30 (.aload_n 0) 1 31 := ⟨by decide +kernel, rfl⟩
theorem dX4_pieceAt_31 : zD cX4_pieceAt 31 (.getfield 30) 3 34 := ⟨by decide +kernel, rfl⟩
theorem dX4_pieceAt_34 : zD cX4_pieceAt 34 (.iload_n 3) 1 35 := ⟨by decide +kernel, rfl⟩
theorem dX4_pieceAt_35 : zD cX4_pieceAt 35 .iaload 1 36 := ⟨by decide +kernel, rfl⟩
theorem dX4_pieceAt_36 : zD cX4_pieceAt 36 (.iload_n 2) 1 37 := ⟨by decide +kernel, rfl⟩
theorem dX4_pieceAt_37 : zD cX4_pieceAt 37 (.if_icmp .gt 15) 3 40 := ⟨by decide +kernel, rfl⟩
theorem dX4_pieceAt_40 : zD cX4_pieceAt 40 (.iload_n 2) 1 41 := ⟨by decide +kernel, rfl⟩
theorem dX4_pieceAt_41 : zD cX4_pieceAt 41 (.aload_n 0) 1 42 := ⟨by decide +kernel, rfl⟩
theorem dX4_pieceAt_42 : zD cX4_pieceAt 42 (.getfield 33) 3 45 := ⟨by decide +kernel, rfl⟩
theorem dX4_pieceAt_45 : zD cX4_pieceAt 45 (.iload_n 3) 1 46 := ⟨by decide +kernel, rfl⟩
theorem dX4_pieceAt_46 : zD cX4_pieceAt 46 .iaload 1 47 := ⟨by decide +kernel, rfl⟩
theorem dX4_pieceAt_47 : zD cX4_pieceAt 47 (.if_icmp .gt 5) 3 50 := ⟨by decide +kernel, rfl⟩
theorem dX4_pieceAt_50 : zD cX4_pieceAt 50 (.iload_n 3) 1 51 := ⟨by decide +kernel, rfl⟩
theorem dX4_pieceAt_51 : zD cX4_pieceAt 51 .ireturn 1 52 := ⟨by decide +kernel, rfl⟩
theorem dX4_pieceAt_52 : zD cX4_pieceAt 52 (.iinc 3 1) 3 55 := ⟨by decide +kernel, rfl⟩
theorem dX4_pieceAt_55 : zD cX4_pieceAt 55 (.goto (-53)) 3 58 := ⟨by decide +kernel, rfl⟩
theorem dX4_pieceAt_58 : zD cX4_pieceAt 58 (.iconst (-1)) 1 59 := ⟨by decide +kernel, rfl⟩
theorem dX4_pieceAt_59 : zD cX4_pieceAt 59 .ireturn 1 60 := ⟨by decide +kernel, rfl⟩
theorem dX4_closePairs_0 : zD cX4_closePairs 0 (.iconst 0) 1 1 := ⟨by decide +kernel, rfl⟩
theorem dX4_closePairs_1 : zD cX4_closePairs 1 (.istore_n 1) 1 2 := ⟨by decide +kernel, rfl⟩
theorem dX4_closePairs_2 : zD cX4_closePairs 2 (.iconst 0) 1 3 := ⟨by decide +kernel, rfl⟩
theorem dX4_closePairs_3 : zD cX4_closePairs 3 (.istore_n 2) 1 4 := ⟨by decide +kernel, rfl⟩
theorem dX4_closePairs_4 : zD cX4_closePairs 4 (.iload_n 2) 1 5 := ⟨by decide +kernel, rfl⟩
theorem dX4_closePairs_5 : zD cX4_closePairs 5 (.aload_n 0) 1 6 := ⟨by decide +kernel, rfl⟩
theorem dX4_closePairs_6 : zD cX4_closePairs 6 (.getfield 36) 3 9 := ⟨by decide +kernel, rfl⟩
theorem dX4_closePairs_9 : zD cX4_closePairs 9 (.if_icmp .ge 21) 3 12 := ⟨by decide +kernel, rfl⟩
theorem dX4_closePairs_12 : zD cX4_closePairs 12 (.iload_n 1) 1 13 := ⟨by decide +kernel, rfl⟩
theorem dX4_closePairs_13 : zD cX4_closePairs 13 (.aload_n 0) 1 14 := ⟨by decide +kernel, rfl⟩
theorem dX4_closePairs_14 : zD cX4_closePairs 14 (.getfield 24) 3 17 := ⟨by decide +kernel, rfl⟩
theorem dX4_closePairs_17 : zD cX4_closePairs 17 (.iload_n 2) 1 18 := ⟨by decide +kernel, rfl⟩
theorem dX4_closePairs_18 : zD cX4_closePairs 18 .iaload 1 19 := ⟨by decide +kernel, rfl⟩
theorem dX4_closePairs_19 : zD cX4_closePairs 19 (.invokestatic 84) 3 22 := ⟨by decide +kernel, rfl⟩
theorem dX4_closePairs_22 : zD cX4_closePairs 22 .iadd 1 23 := ⟨by decide +kernel, rfl⟩
theorem dX4_closePairs_23 : zD cX4_closePairs 23 (.istore_n 1) 1 24 := ⟨by decide +kernel, rfl⟩
theorem dX4_closePairs_24 : zD cX4_closePairs 24 (.iinc 2 1) 3 27 := ⟨by decide +kernel, rfl⟩
theorem dX4_closePairs_27 : zD cX4_closePairs 27 (.goto (-23)) 3 30 := ⟨by decide +kernel, rfl⟩
theorem dX4_closePairs_30 : zD cX4_closePairs 30 (.iload_n 1) 1 31 := ⟨by decide +kernel, rfl⟩
theorem dX4_closePairs_31 : zD cX4_closePairs 31 (.iconst 2) 1 32 := ⟨by decide +kernel, rfl⟩
theorem dX4_closePairs_32 : zD cX4_closePairs 32 .idiv 1 33 := ⟨by decide +kernel, rfl⟩
theorem dX4_closePairs_33 : zD cX4_closePairs 33 .ireturn 1 34 := ⟨by decide +kernel, rfl⟩
theorem dX4_areaOf_0 : zD cX4_areaOf 0 (.iconst 0) 1 1 := ⟨by decide +kernel, rfl⟩
theorem dX4_areaOf_1 : zD cX4_areaOf 1 (.istore_n 2) 1 2 := ⟨by decide +kernel, rfl⟩
theorem dX4_areaOf_2 : zD cX4_areaOf 2 (.iconst 0) 1 3 := ⟨by decide +kernel, rfl⟩
theorem dX4_areaOf_3 : zD cX4_areaOf 3 (.istore_n 3) 1 4 := ⟨by decide +kernel, rfl⟩
theorem dX4_areaOf_4 : zD cX4_areaOf 4 (.iload_n 3) 1 5 := ⟨by decide +kernel, rfl⟩
theorem dX4_areaOf_5 : zD cX4_areaOf 5 (.aload_n 0) 1 6 := ⟨by decide +kernel, rfl⟩
theorem dX4_areaOf_6 : zD cX4_areaOf 6 (.getfield 36) 3 9 := ⟨by decide +kernel, rfl⟩
theorem dX4_areaOf_9 : zD cX4_areaOf 9 (.if_icmp .ge 26) 3 12 := ⟨by decide +kernel, rfl⟩
theorem dX4_areaOf_12 : zD cX4_areaOf 12 (.iload_n 1) 1 13 := ⟨by decide +kernel, rfl⟩
theorem dX4_areaOf_13 : zD cX4_areaOf 13 (.iload_n 3) 1 14 := ⟨by decide +kernel, rfl⟩
theorem dX4_areaOf_14 : zD cX4_areaOf 14 .ishr 1 15 := ⟨by decide +kernel, rfl⟩
theorem dX4_areaOf_15 : zD cX4_areaOf 15 (.iconst 1) 1 16 := ⟨by decide +kernel, rfl⟩
theorem dX4_areaOf_16 : zD cX4_areaOf 16 .iand 1 17 := ⟨by decide +kernel, rfl⟩
theorem dX4_areaOf_17 : zD cX4_areaOf 17 (.ifCond .eq 12) 3 20 := ⟨by decide +kernel, rfl⟩
theorem dX4_areaOf_20 : zD cX4_areaOf 20 (.iload_n 2) 1 21 := ⟨by decide +kernel, rfl⟩
theorem dX4_areaOf_21 : zD cX4_areaOf 21 (.aload_n 0) 1 22 := ⟨by decide +kernel, rfl⟩
theorem dX4_areaOf_22 : zD cX4_areaOf 22 (.getfield 21) 3 25 := ⟨by decide +kernel, rfl⟩
theorem dX4_areaOf_25 : zD cX4_areaOf 25 (.iload_n 3) 1 26 := ⟨by decide +kernel, rfl⟩
theorem dX4_areaOf_26 : zD cX4_areaOf 26 .iaload 1 27 := ⟨by decide +kernel, rfl⟩
theorem dX4_areaOf_27 : zD cX4_areaOf 27 .iadd 1 28 := ⟨by decide +kernel, rfl⟩
theorem dX4_areaOf_28 : zD cX4_areaOf 28 (.istore_n 2) 1 29 := ⟨by decide +kernel, rfl⟩
theorem dX4_areaOf_29 : zD cX4_areaOf 29 (.iinc 3 1) 3 32 := ⟨by decide +kernel, rfl⟩
theorem dX4_areaOf_32 : zD cX4_areaOf 32 (.goto (-28)) 3 35 := ⟨by decide +kernel, rfl⟩
theorem dX4_areaOf_35 : zD cX4_areaOf 35 (.iload_n 2) 1 36 := ⟨by decide +kernel, rfl⟩
theorem dX4_areaOf_36 : zD cX4_areaOf 36 .ireturn 1 37 := ⟨by decide +kernel, rfl⟩
theorem dX4_costOf_0 : zD cX4_costOf 0 (.aload_n 0) 1 1 := ⟨by decide +kernel, rfl⟩
theorem dX4_costOf_1 : zD cX4_costOf 1 (.getfield 43) 3 4 := ⟨by decide +kernel, rfl⟩
theorem dX4_costOf_4 : zD cX4_costOf 4 (.aload_n 0) 1 5 := ⟨by decide +kernel, rfl⟩
theorem dX4_costOf_5 : zD cX4_costOf 5 (.iload_n 1) 1 6 := ⟨by decide +kernel, rfl⟩
theorem dX4_costOf_6 : zD cX4_costOf 6 (.invokevirtual 89) 3 9 := ⟨by decide +kernel, rfl⟩
theorem dX4_costOf_9 : zD cX4_costOf 9 .imul 1 10 := ⟨by decide +kernel, rfl⟩
theorem dX4_costOf_10 : zD cX4_costOf 10 (.aload_n 0) 1 11 := ⟨by decide +kernel, rfl⟩
theorem dX4_costOf_11 : zD cX4_costOf 11 (.getfield 40) 3 14 := ⟨by decide +kernel, rfl⟩
theorem dX4_costOf_14 : zD cX4_costOf 14 (.aload_n 0) 1 15 := ⟨by decide +kernel, rfl⟩
theorem dX4_costOf_15 : zD cX4_costOf 15 (.iload_n 1) 1 16 := ⟨by decide +kernel, rfl⟩
theorem dX4_costOf_16 : zD cX4_costOf 16 (.invokevirtual 92) 3 19 := ⟨by decide +kernel, rfl⟩
theorem dX4_costOf_19 : zD cX4_costOf 19 .imul 1 20 := ⟨by decide +kernel, rfl⟩
theorem dX4_costOf_20 : zD cX4_costOf 20 .iadd 1 21 := ⟨by decide +kernel, rfl⟩
theorem dX4_costOf_21 : zD cX4_costOf 21 .ireturn 1 22 := ⟨by decide +kernel, rfl⟩
theorem dX4_clashesOf_0 : zD cX4_clashesOf 0 (.iconst 0) 1 1 := ⟨by decide +kernel, rfl⟩
theorem dX4_clashesOf_1 : zD cX4_clashesOf 1 (.istore_n 2) 1 2 := ⟨by decide +kernel, rfl⟩
theorem dX4_clashesOf_2 : zD cX4_clashesOf 2 (.iconst 0) 1 3 := ⟨by decide +kernel, rfl⟩
theorem dX4_clashesOf_3 : zD cX4_clashesOf 3 (.istore_n 3) 1 4 := ⟨by decide +kernel, rfl⟩
theorem dX4_clashesOf_4 : zD cX4_clashesOf 4 (.iload_n 3) 1 5 := ⟨by decide +kernel, rfl⟩
theorem dX4_clashesOf_5 : zD cX4_clashesOf 5 (.aload_n 0) 1 6 := ⟨by decide +kernel, rfl⟩
theorem dX4_clashesOf_6 : zD cX4_clashesOf 6 (.getfield 36) 3 9 := ⟨by decide +kernel, rfl⟩
theorem dX4_clashesOf_9 : zD cX4_clashesOf 9 (.if_icmp .ge 18) 3 12 := ⟨by decide +kernel, rfl⟩
theorem dX4_clashesOf_12 : zD cX4_clashesOf 12 (.iload_n 2) 1 13 := ⟨by decide +kernel, rfl⟩
theorem dX4_clashesOf_13 : zD cX4_clashesOf 13 (.aload_n 0) 1 14 := ⟨by decide +kernel, rfl⟩
theorem dX4_clashesOf_14 : zD cX4_clashesOf 14 (.iload_n 3) 1 15 := ⟨by decide +kernel, rfl⟩
theorem dX4_clashesOf_15 : zD cX4_clashesOf 15 (.iload_n 1) 1 16 := ⟨by decide +kernel, rfl⟩
theorem dX4_clashesOf_16 : zD cX4_clashesOf 16 (.invokevirtual 95) 3 19 := ⟨by decide +kernel, rfl⟩
theorem dX4_clashesOf_19 : zD cX4_clashesOf 19 .iadd 1 20 := ⟨by decide +kernel, rfl⟩
theorem dX4_clashesOf_20 : zD cX4_clashesOf 20 (.istore_n 2) 1 21 := ⟨by decide +kernel, rfl⟩
theorem dX4_clashesOf_21 : zD cX4_clashesOf 21 (.iinc 3 1) 3 24 := ⟨by decide +kernel, rfl⟩
theorem dX4_clashesOf_24 : zD cX4_clashesOf 24 (.goto (-20)) 3 27 := ⟨by decide +kernel, rfl⟩
theorem dX4_clashesOf_27 : zD cX4_clashesOf 27 (.iload_n 2) 1 28 := ⟨by decide +kernel, rfl⟩
theorem dX4_clashesOf_28 : zD cX4_clashesOf 28 .ireturn 1 29 := ⟨by decide +kernel, rfl⟩
theorem dX4_stitchesOf_0 : zD cX4_stitchesOf 0 (.iconst 0) 1 1 := ⟨by decide +kernel, rfl⟩
theorem dX4_stitchesOf_1 : zD cX4_stitchesOf 1 (.istore_n 2) 1 2 := ⟨by decide +kernel, rfl⟩
theorem dX4_stitchesOf_2 : zD cX4_stitchesOf 2 (.iconst 0) 1 3 := ⟨by decide +kernel, rfl⟩
theorem dX4_stitchesOf_3 : zD cX4_stitchesOf 3 (.istore_n 3) 1 4 := ⟨by decide +kernel, rfl⟩
theorem dX4_stitchesOf_4 : zD cX4_stitchesOf 4 (.iload_n 3) 1 5 := ⟨by decide +kernel, rfl⟩
theorem dX4_stitchesOf_5 : zD cX4_stitchesOf 5 (.aload_n 0) 1 6 := ⟨by decide +kernel, rfl⟩
theorem dX4_stitchesOf_6 : zD cX4_stitchesOf 6 (.getfield 36) 3 9 := ⟨by decide +kernel, rfl⟩
theorem dX4_stitchesOf_9 : zD cX4_stitchesOf 9 (.if_icmp .ge 18) 3 12 := ⟨by decide +kernel, rfl⟩
theorem dX4_stitchesOf_12 : zD cX4_stitchesOf 12 (.iload_n 2) 1 13 := ⟨by decide +kernel, rfl⟩
theorem dX4_stitchesOf_13 : zD cX4_stitchesOf 13 (.aload_n 0) 1 14 := ⟨by decide +kernel, rfl⟩
theorem dX4_stitchesOf_14 : zD cX4_stitchesOf 14 (.iload_n 3) 1 15 := ⟨by decide +kernel, rfl⟩
theorem dX4_stitchesOf_15 : zD cX4_stitchesOf 15 (.iload_n 1) 1 16 := ⟨by decide +kernel, rfl⟩
theorem dX4_stitchesOf_16 : zD cX4_stitchesOf 16 (.invokevirtual 99) 3 19 := ⟨by decide +kernel, rfl⟩
theorem dX4_stitchesOf_19 : zD cX4_stitchesOf 19 .iadd 1 20 := ⟨by decide +kernel, rfl⟩
theorem dX4_stitchesOf_20 : zD cX4_stitchesOf 20 (.istore_n 2) 1 21 := ⟨by decide +kernel, rfl⟩
theorem dX4_stitchesOf_21 : zD cX4_stitchesOf 21 (.iinc 3 1) 3 24 := ⟨by decide +kernel, rfl⟩
theorem dX4_stitchesOf_24 : zD cX4_stitchesOf 24 (.goto (-20)) 3 27 := ⟨by decide +kernel, rfl⟩
theorem dX4_stitchesOf_27 : zD cX4_stitchesOf 27 (.iload_n 2) 1 28 := ⟨by decide +kernel, rfl⟩
theorem dX4_stitchesOf_28 : zD cX4_stitchesOf 28 .ireturn 1 29 := ⟨by decide +kernel, rfl⟩
theorem dX4_costWithEarlier_0 : zD cX4_costWithEarlier 0 (.aload_n 0) 1 1 := ⟨by decide +kernel, rfl⟩
theorem dX4_costWithEarlier_1 : zD cX4_costWithEarlier 1 (.getfield 43) 3 4 := ⟨by decide +kernel, rfl⟩
theorem dX4_costWithEarlier_4 : zD cX4_costWithEarlier 4 (.aload_n 0) 1 5 := ⟨by decide +kernel, rfl⟩
theorem dX4_costWithEarlier_5 : zD cX4_costWithEarlier 5 (.iload_n 1) 1 6 := ⟨by decide +kernel, rfl⟩
theorem dX4_costWithEarlier_6 : zD cX4_costWithEarlier 6 (.iload_n 2) 1 7 := ⟨by decide +kernel, rfl⟩
theorem dX4_costWithEarlier_7 : zD cX4_costWithEarlier 7 (.invokevirtual 95) 3 10 := ⟨by decide +kernel, rfl⟩
theorem dX4_costWithEarlier_10 : zD cX4_costWithEarlier 10 .imul 1 11 := ⟨by decide +kernel, rfl⟩
theorem dX4_costWithEarlier_11 : zD cX4_costWithEarlier 11 (.aload_n 0) 1 12 := ⟨by decide +kernel, rfl⟩
theorem dX4_costWithEarlier_12 : zD cX4_costWithEarlier 12 (.getfield 40) 3 15 := ⟨by decide +kernel, rfl⟩
theorem dX4_costWithEarlier_15 : zD cX4_costWithEarlier 15 (.aload_n 0) 1 16 := ⟨by decide +kernel, rfl⟩
theorem dX4_costWithEarlier_16 : zD cX4_costWithEarlier 16 (.iload_n 1) 1 17 := ⟨by decide +kernel, rfl⟩
theorem dX4_costWithEarlier_17 : zD cX4_costWithEarlier 17 (.iload_n 2) 1 18 := ⟨by decide +kernel, rfl⟩
theorem dX4_costWithEarlier_18 : zD cX4_costWithEarlier 18 (.invokevirtual 99) 3 21 := ⟨by decide +kernel, rfl⟩
theorem dX4_costWithEarlier_21 : zD cX4_costWithEarlier 21 .imul 1 22 := ⟨by decide +kernel, rfl⟩
theorem dX4_costWithEarlier_22 : zD cX4_costWithEarlier 22 .iadd 1 23 := ⟨by decide +kernel, rfl⟩
theorem dX4_costWithEarlier_23 : zD cX4_costWithEarlier 23 .ireturn 1 24 := ⟨by decide +kernel, rfl⟩
theorem dX4_clashesWithEarlier_0 : zD cX4_clashesWithEarlier 0 (.iload_n 1) 1 1 := ⟨by decide +kernel, rfl⟩
theorem dX4_clashesWithEarlier_1 : zD cX4_clashesWithEarlier 1 (.ifCond .lt 11) 3 4 := ⟨by decide +kernel, rfl⟩
theorem dX4_clashesWithEarlier_4 : zD cX4_clashesWithEarlier 4 (.iload_n 1) 1 5 := ⟨by decide +kernel, rfl⟩
theorem dX4_clashesWithEarlier_5 : zD cX4_clashesWithEarlier 5 (.aload_n 0) 1 6 := ⟨by decide +kernel, rfl⟩
theorem dX4_clashesWithEarlier_6 : zD cX4_clashesWithEarlier 6 (.getfield 36) 3 9 := ⟨by decide +kernel, rfl⟩
theorem dX4_clashesWithEarlier_9 : zD cX4_clashesWithEarlier 9 (.if_icmp .lt 5) 3 12 := ⟨by decide +kernel, rfl⟩
theorem dX4_clashesWithEarlier_12 : zD cX4_clashesWithEarlier 12 (.iconst 0) 1 13 := ⟨by decide +kernel, rfl⟩
theorem dX4_clashesWithEarlier_13 : zD cX4_clashesWithEarlier 13 .ireturn 1 14 := ⟨by decide +kernel, rfl⟩
theorem dX4_clashesWithEarlier_14 : zD cX4_clashesWithEarlier 14 (.iload_n 2) 1 15 := ⟨by decide +kernel, rfl⟩
theorem dX4_clashesWithEarlier_15 : zD cX4_clashesWithEarlier 15 (.iload_n 1) 1 16 := ⟨by decide +kernel, rfl⟩
theorem dX4_clashesWithEarlier_16 : zD cX4_clashesWithEarlier 16 .ishr 1 17 := ⟨by decide +kernel, rfl⟩
theorem dX4_clashesWithEarlier_17 : zD cX4_clashesWithEarlier 17 (.iconst 1) 1 18 := ⟨by decide +kernel, rfl⟩
theorem dX4_clashesWithEarlier_18 : zD cX4_clashesWithEarlier 18 .iand 1 19 := ⟨by decide +kernel, rfl⟩
theorem dX4_clashesWithEarlier_19 : zD cX4_clashesWithEarlier 19 (.ifCond .eq 7) 3 22 := ⟨by decide +kernel, rfl⟩
theorem dX4_clashesWithEarlier_22 : zD cX4_clashesWithEarlier 22 (.iload_n 2) 1 23 := ⟨by decide +kernel, rfl⟩
theorem dX4_clashesWithEarlier_23 : zD cX4_clashesWithEarlier 23 (.goto 6) 3 26 := ⟨by decide +kernel, rfl⟩
theorem dX4_clashesWithEarlier_26 : zD cX4_clashesWithEarlier 26 (.iload_n 2) 1 27 := ⟨by decide +kernel, rfl⟩
theorem dX4_clashesWithEarlier_27 : zD cX4_clashesWithEarlier 27 (.iconst (-1)) 1 28 := ⟨by decide +kernel, rfl⟩
theorem dX4_clashesWithEarlier_28 : zD cX4_clashesWithEarlier 28 .ixor 1 29 := ⟨by decide +kernel, rfl⟩
theorem dX4_clashesWithEarlier_29 : zD cX4_clashesWithEarlier 29 (.istore_n 3) 1 30 := ⟨by decide +kernel, rfl⟩
theorem dX4_clashesWithEarlier_30 : zD cX4_clashesWithEarlier 30 (.iconst 1) 1 31 := ⟨by decide +kernel, rfl⟩
theorem dX4_clashesWithEarlier_31 : zD cX4_clashesWithEarlier 31 (.iload_n 1) 1 32 := ⟨by decide +kernel, rfl⟩
theorem dX4_clashesWithEarlier_32 : zD cX4_clashesWithEarlier 32 .ishl 1 33 := ⟨by decide +kernel, rfl⟩
theorem dX4_clashesWithEarlier_33 : zD cX4_clashesWithEarlier 33 (.iconst 1) 1 34 := ⟨by decide +kernel, rfl⟩
theorem dX4_clashesWithEarlier_34 : zD cX4_clashesWithEarlier 34 .isub 1 35 := ⟨by decide +kernel, rfl⟩
theorem dX4_clashesWithEarlier_35 : zD cX4_clashesWithEarlier 35 (.istore 4) 2 37 := ⟨by decide +kernel, rfl⟩
theorem dX4_clashesWithEarlier_37 : zD cX4_clashesWithEarlier 37 (.aload_n 0) 1 38 := ⟨by decide +kernel, rfl⟩
theorem dX4_clashesWithEarlier_38 : zD cX4_clashesWithEarlier 38 (.getfield 24) 3 41 := ⟨by decide +kernel, rfl⟩
theorem dX4_clashesWithEarlier_41 : zD cX4_clashesWithEarlier 41 (.iload_n 1) 1 42 := ⟨by decide +kernel, rfl⟩
theorem dX4_clashesWithEarlier_42 : zD cX4_clashesWithEarlier 42 .iaload 1 43 := ⟨by decide +kernel, rfl⟩
theorem dX4_clashesWithEarlier_43 : zD cX4_clashesWithEarlier 43 (.iload 4) 2 45 := ⟨by decide +kernel, rfl⟩
theorem dX4_clashesWithEarlier_45 : zD cX4_clashesWithEarlier 45 .iand 1 46 := ⟨by decide +kernel, rfl⟩
theorem dX4_clashesWithEarlier_46 : zD cX4_clashesWithEarlier 46 (.iload_n 3) 1 47 := ⟨by decide +kernel, rfl⟩
theorem dX4_clashesWithEarlier_47 : zD cX4_clashesWithEarlier 47 .iand 1 48 := ⟨by decide +kernel, rfl⟩
theorem dX4_clashesWithEarlier_48 : zD cX4_clashesWithEarlier 48 (.invokestatic 84) 3 51 := ⟨by decide +kernel, rfl⟩
theorem dX4_clashesWithEarlier_51 : zD cX4_clashesWithEarlier 51 .ireturn 1 52 := ⟨by decide +kernel, rfl⟩
theorem dX4_stitchWithEarlier_0 : zD cX4_stitchWithEarlier 0 (.iload_n 1) 1 1 := ⟨by decide +kernel, rfl⟩
theorem dX4_stitchWithEarlier_1 : zD cX4_stitchWithEarlier 1 (.iconst 1) 1 2 := ⟨by decide +kernel, rfl⟩
theorem dX4_stitchWithEarlier_2 : zD cX4_stitchWithEarlier 2 (.if_icmp .lt 28) 3 5 := ⟨by decide +kernel, rfl⟩
theorem dX4_stitchWithEarlier_5 : zD cX4_stitchWithEarlier 5 (.iload_n 1) 1 6 := ⟨by decide +kernel, rfl⟩
theorem dX4_stitchWithEarlier_6 : zD cX4_stitchWithEarlier 6 (.aload_n 0) 1 7 := ⟨by decide +kernel, rfl⟩
theorem dX4_stitchWithEarlier_7 : zD cX4_stitchWithEarlier 7 (.getfield 36) 3 10 := ⟨by decide +kernel, rfl⟩
theorem dX4_stitchWithEarlier_10 : zD cX4_stitchWithEarlier 10 (.if_icmp .ge 20) 3 13 := ⟨by decide +kernel, rfl⟩
theorem dX4_stitchWithEarlier_13 : zD cX4_stitchWithEarlier 13 (.aload_n 0) 1 14 := ⟨by decide +kernel, rfl⟩
theorem dX4_stitchWithEarlier_14 : zD cX4_stitchWithEarlier 14 (.getfield 9) 3 17 := ⟨by decide +kernel, rfl⟩
theorem dX4_stitchWithEarlier_17 : zD cX4_stitchWithEarlier 17 (.iload_n 1) 1 18 := ⟨by decide +kernel, rfl⟩
theorem dX4_stitchWithEarlier_18 : zD cX4_stitchWithEarlier 18 (.iconst 1) 1 19 := ⟨by decide +kernel, rfl⟩
theorem dX4_stitchWithEarlier_19 : zD cX4_stitchWithEarlier 19 .isub 1 20 := ⟨by decide +kernel, rfl⟩
theorem dX4_stitchWithEarlier_20 : zD cX4_stitchWithEarlier 20 .iaload 1 21 := ⟨by decide +kernel, rfl⟩
theorem dX4_stitchWithEarlier_21 : zD cX4_stitchWithEarlier 21 (.aload_n 0) 1 22 := ⟨by decide +kernel, rfl⟩
theorem dX4_stitchWithEarlier_22 : zD cX4_stitchWithEarlier 22 (.getfield 9) 3 25 := ⟨by decide +kernel, rfl⟩
theorem dX4_stitchWithEarlier_25 : zD cX4_stitchWithEarlier 25 (.iload_n 1) 1 26 := ⟨by decide +kernel, rfl⟩
theorem dX4_stitchWithEarlier_26 : zD cX4_stitchWithEarlier 26 .iaload 1 27 := ⟨by decide +kernel, rfl⟩
theorem dX4_stitchWithEarlier_27 : zD cX4_stitchWithEarlier 27 (.if_icmp .eq 5) 3 30 := ⟨by decide +kernel, rfl⟩
theorem dX4_stitchWithEarlier_30 : zD cX4_stitchWithEarlier 30 (.iconst 0) 1 31 := ⟨by decide +kernel, rfl⟩
theorem dX4_stitchWithEarlier_31 : zD cX4_stitchWithEarlier 31 .ireturn 1 32 := ⟨by decide +kernel, rfl⟩
theorem dX4_stitchWithEarlier_32 : zD cX4_stitchWithEarlier 32 (.iload_n 2) 1 33 := ⟨by decide +kernel, rfl⟩
theorem dX4_stitchWithEarlier_33 : zD cX4_stitchWithEarlier 33 (.iload_n 1) 1 34 := ⟨by decide +kernel, rfl⟩
theorem dX4_stitchWithEarlier_34 : zD cX4_stitchWithEarlier 34 .ishr 1 35 := ⟨by decide +kernel, rfl⟩
theorem dX4_stitchWithEarlier_35 : zD cX4_stitchWithEarlier 35 (.iload_n 2) 1 36 := ⟨by decide +kernel, rfl⟩
theorem dX4_stitchWithEarlier_36 : zD cX4_stitchWithEarlier 36 (.iload_n 1) 1 37 := ⟨by decide +kernel, rfl⟩
theorem dX4_stitchWithEarlier_37 : zD cX4_stitchWithEarlier 37 (.iconst 1) 1 38 := ⟨by decide +kernel, rfl⟩
theorem dX4_stitchWithEarlier_38 : zD cX4_stitchWithEarlier 38 .isub 1 39 := ⟨by decide +kernel, rfl⟩
theorem dX4_stitchWithEarlier_39 : zD cX4_stitchWithEarlier 39 .ishr 1 40 := ⟨by decide +kernel, rfl⟩
theorem dX4_stitchWithEarlier_40 : zD cX4_stitchWithEarlier 40 .ixor 1 41 := ⟨by decide +kernel, rfl⟩
theorem dX4_stitchWithEarlier_41 : zD cX4_stitchWithEarlier 41 (.iconst 1) 1 42 := ⟨by decide +kernel, rfl⟩
theorem dX4_stitchWithEarlier_42 : zD cX4_stitchWithEarlier 42 .iand 1 43 := ⟨by decide +kernel, rfl⟩
theorem dX4_stitchWithEarlier_43 : zD cX4_stitchWithEarlier 43 .ireturn 1 44 := ⟨by decide +kernel, rfl⟩
theorem dX4_add_0 : zD cX4_add 0 (.aload_n 0) 1 1 := ⟨by decide +kernel, rfl⟩
theorem dX4_add_1 : zD cX4_add 1 (.getfield 36) 3 4 := ⟨by decide +kernel, rfl⟩
theorem dX4_add_4 : zD cX4_add 4 (.bipush 14) 2 6 := ⟨by decide +kernel, rfl⟩
theorem dX4_add_6 : zD cX4_add 6 (.if_icmp .ge 11) 3 9 := ⟨by decide +kernel, rfl⟩
theorem dX4_add_9 : zD cX4_add 9 (.aload_n 1) 1 10 := ⟨by decide +kernel, rfl⟩
theorem dX4_add_10 : zD cX4_add 10 (.iload_n 2) 1 11 := ⟨by decide +kernel, rfl⟩
theorem dX4_add_11 : zD cX4_add 11 (.invokevirtual 102) 3 14 := ⟨by decide +kernel, rfl⟩
theorem dX4_add_14 : zD cX4_add 14 (.ifCond .ne 4) 3 17 := ⟨by decide +kernel, rfl⟩
theorem dX4_add_17 : zD cX4_add 17 .return_ 1 18 := ⟨by decide +kernel, rfl⟩
theorem dX4_add_18 : zD cX4_add 18 (.aload_n 0) 1 19 := ⟨by decide +kernel, rfl⟩
theorem dX4_add_19 : zD cX4_add 19 (.getfield 9) 3 22 := ⟨by decide +kernel, rfl⟩
theorem dX4_add_22 : zD cX4_add 22 (.aload_n 0) 1 23 := ⟨by decide +kernel, rfl⟩
theorem dX4_add_23 : zD cX4_add 23 (.getfield 36) 3 26 := ⟨by decide +kernel, rfl⟩
theorem dX4_add_26 : zD cX4_add 26 (.iload_n 2) 1 27 := ⟨by decide +kernel, rfl⟩
theorem dX4_add_27 : zD cX4_add 27 .iastore 1 28 := ⟨by decide +kernel, rfl⟩
theorem dX4_add_28 : zD cX4_add 28 (.aload_n 0) 1 29 := ⟨by decide +kernel, rfl⟩
theorem dX4_add_29 : zD cX4_add 29 (.getfield 15) 3 32 := ⟨by decide +kernel, rfl⟩
theorem dX4_add_32 : zD cX4_add 32 (.aload_n 0) 1 33 := ⟨by decide +kernel, rfl⟩
theorem dX4_add_33 : zD cX4_add 33 (.getfield 36) 3 36 := ⟨by decide +kernel, rfl⟩
theorem dX4_add_36 : zD cX4_add 36 (.iload_n 3) 1 37 := ⟨by decide +kernel, rfl⟩
theorem dX4_add_37 : zD cX4_add 37 .iastore 1 38 := ⟨by decide +kernel, rfl⟩
theorem dX4_add_38 : zD cX4_add 38 (.aload_n 0) 1 39 := ⟨by decide +kernel, rfl⟩
theorem dX4_add_39 : zD cX4_add 39 (.getfield 18) 3 42 := ⟨by decide +kernel, rfl⟩
theorem dX4_add_42 : zD cX4_add 42 (.aload_n 0) 1 43 := ⟨by decide +kernel, rfl⟩
theorem dX4_add_43 : zD cX4_add 43 (.getfield 36) 3 46 := ⟨by decide +kernel, rfl⟩
theorem dX4_add_46 : zD cX4_add 46 (.iload 4) 2 48 := ⟨by decide +kernel, rfl⟩
theorem dX4_add_48 : zD cX4_add 48 .iastore 1 49 := ⟨by decide +kernel, rfl⟩
theorem dX4_add_49 : zD cX4_add 49 (.aload_n 0) 1 50 := ⟨by decide +kernel, rfl⟩
theorem dX4_add_50 : zD cX4_add 50 (.getfield 30) 3 53 := ⟨by decide +kernel, rfl⟩
theorem dX4_add_53 : zD cX4_add 53 (.aload_n 0) 1 54 := ⟨by decide +kernel, rfl⟩
theorem dX4_add_54 : zD cX4_add 54 (.getfield 36) 3 57 := ⟨by decide +kernel, rfl⟩
theorem dX4_add_57 : zD cX4_add 57 (.aload_n 1) 1 58 := ⟨by decide +kernel, rfl⟩
theorem dX4_add_58 : zD cX4_add 58 (.getfield 105) 3 61 := ⟨by decide +kernel, rfl⟩
theorem dX4_add_61 : zD cX4_add 61 (.iload_n 2) 1 62 := ⟨by decide +kernel, rfl⟩
theorem dX4_add_62 : zD cX4_add 62 .iaload 1 63 := ⟨by decide +kernel, rfl⟩
theorem dX4_add_63 : zD cX4_add 63 .iastore 1 64 := ⟨by decide +kernel, rfl⟩
theorem dX4_add_64 : zD cX4_add 64 (.aload_n 0) 1 65 := ⟨by decide +kernel, rfl⟩
theorem dX4_add_65 : zD cX4_add 65 (.getfield 33) 3 68 := ⟨by decide +kernel, rfl⟩
theorem dX4_add_68 : zD cX4_add 68 (.aload_n 0) 1 69 := ⟨by decide +kernel, rfl⟩
theorem dX4_add_69 : zD cX4_add 69 (.getfield 36) 3 72 := ⟨by decide +kernel, rfl⟩
theorem dX4_add_72 : zD cX4_add 72 (.aload_n 1) 1 73 := ⟨by decide +kernel, rfl⟩
theorem dX4_add_73 : zD cX4_add 73 (.getfield 106) 3 76 := ⟨by decide +kernel, rfl⟩
theorem dX4_add_76 : zD cX4_add 76 (.iload_n 2) 1 77 := ⟨by decide +kernel, rfl⟩
theorem dX4_add_77 : zD cX4_add 77 .iaload 1 78 := ⟨by decide +kernel, rfl⟩
theorem dX4_add_78 : zD cX4_add 78 .iastore 1 79 := ⟨by decide +kernel, rfl⟩
theorem dX4_add_79 : zD cX4_add 79 (.aload_n 0) 1 80 := ⟨by decide +kernel, rfl⟩
theorem dX4_add_80 : zD cX4_add 80 (.getfield 21) 3 83 := ⟨by decide +kernel, rfl⟩
theorem dX4_add_83 : zD cX4_add 83 (.aload_n 0) 1 84 := ⟨by decide +kernel, rfl⟩
theorem dX4_add_84 : zD cX4_add 84 (.getfield 36) 3 87 := ⟨by decide +kernel, rfl⟩
theorem dX4_add_87 : zD cX4_add 87 (.iload 4) 2 89 := ⟨by decide +kernel, rfl⟩
theorem dX4_add_89 : zD cX4_add 89 (.iload_n 3) 1 90 := ⟨by decide +kernel, rfl⟩
theorem dX4_add_90 : zD cX4_add 90 .isub 1 91 := ⟨by decide +kernel, rfl⟩
theorem dX4_add_91 : zD cX4_add 91 (.iconst 1) 1 92 := ⟨by decide +kernel, rfl⟩
theorem dX4_add_92 : zD cX4_add 92 .iadd 1 93 := ⟨by decide +kernel, rfl⟩
theorem dX4_add_93 : zD cX4_add 93 (.aload_n 0) 1 94 := ⟨by decide +kernel, rfl⟩
theorem dX4_add_94 : zD cX4_add 94 (.getfield 33) 3 97 := ⟨by decide +kernel, rfl⟩
theorem dX4_add_97 : zD cX4_add 97 (.aload_n 0) 1 98 := ⟨by decide +kernel, rfl⟩
theorem dX4_add_98 : zD cX4_add 98 (.getfield 36) 3 101 := ⟨by decide +kernel, rfl⟩
theorem dX4_add_101 : zD cX4_add 101 .iaload 1 102 := ⟨by decide +kernel, rfl⟩
theorem dX4_add_102 : zD cX4_add 102 (.aload_n 0) 1 103 := ⟨by decide +kernel, rfl⟩
theorem dX4_add_103 : zD cX4_add 103 (.getfield 30) 3 106 := ⟨by decide +kernel, rfl⟩
theorem dX4_add_106 : zD cX4_add 106 (.aload_n 0) 1 107 := ⟨by decide +kernel, rfl⟩
theorem dX4_add_107 : zD cX4_add 107 (.getfield 36) 3 110 := ⟨by decide +kernel, rfl⟩
theorem dX4_add_110 : zD cX4_add 110 .iaload 1 111 := ⟨by decide +kernel, rfl⟩
theorem dX4_add_111 : zD cX4_add 111 .isub 1 112 := ⟨by decide +kernel, rfl⟩
theorem dX4_add_112 : zD cX4_add 112 (.iconst 1) 1 113 := ⟨by decide +kernel, rfl⟩
theorem dX4_add_113 : zD cX4_add 113 .iadd 1 114 := ⟨by decide +kernel, rfl⟩
theorem dX4_add_114 : zD cX4_add 114 .imul 1 115 := ⟨by decide +kernel, rfl⟩
theorem dX4_add_115 : zD cX4_add 115 .iastore 1 116 := ⟨by decide +kernel, rfl⟩
theorem dX4_add_116 : zD cX4_add 116 (.aload_n 0) 1 117 := ⟨by decide +kernel, rfl⟩
theorem dX4_add_117 : zD cX4_add 117 (.getfield 24) 3 120 := ⟨by decide +kernel, rfl⟩
theorem dX4_add_120 : zD cX4_add 120 (.aload_n 0) 1 121 := ⟨by decide +kernel, rfl⟩
theorem dX4_add_121 : zD cX4_add 121 (.getfield 36) 3 124 := ⟨by decide +kernel, rfl⟩
theorem dX4_add_124 : zD cX4_add 124 (.iconst 0) 1 125 := ⟨by decide +kernel, rfl⟩
theorem dX4_add_125 : zD cX4_add 125 .iastore 1 126 := ⟨by decide +kernel, rfl⟩
theorem dX4_add_126 : zD cX4_add 126 (.aload_n 0) 1 127 := ⟨by decide +kernel, rfl⟩
theorem dX4_add_127 : zD cX4_add 127 (.getfield 27) 3 130 := ⟨by decide +kernel, rfl⟩
theorem dX4_add_130 : zD cX4_add 130 (.aload_n 0) 1 131 := ⟨by decide +kernel, rfl⟩
theorem dX4_add_131 : zD cX4_add 131 (.getfield 36) 3 134 := ⟨by decide +kernel, rfl⟩
theorem dX4_add_134 : zD cX4_add 134 (.iconst 0) 1 135 := ⟨by decide +kernel, rfl⟩
theorem dX4_add_135 : zD cX4_add 135 .iastore 1 136 := ⟨by decide +kernel, rfl⟩
theorem dX4_add_136 : zD cX4_add 136 (.aload_n 0) 1 137 := ⟨by decide +kernel, rfl⟩
theorem dX4_add_137 : zD cX4_add 137 .dup 1 138 := ⟨by decide +kernel, rfl⟩
theorem dX4_add_138 : zD cX4_add 138 (.getfield 36) 3 141 := ⟨by decide +kernel, rfl⟩
theorem dX4_add_141 : zD cX4_add 141 (.iconst 1) 1 142 := ⟨by decide +kernel, rfl⟩
theorem dX4_add_142 : zD cX4_add 142 .iadd 1 143 := ⟨by decide +kernel, rfl⟩
theorem dX4_add_143 : zD cX4_add 143 (.putfield 36) 3 146 := ⟨by decide +kernel, rfl⟩
theorem dX4_add_146 : zD cX4_add 146 .return_ 1 147 := ⟨by decide +kernel, rfl⟩
theorem dX4_link_0 : zD cX4_link 0 (.iconst 0) 1 1 := ⟨by decide +kernel, rfl⟩
theorem dX4_link_1 : zD cX4_link 1 (.istore_n 2) 1 2 := ⟨by decide +kernel, rfl⟩
theorem dX4_link_2 : zD cX4_link 2 (.iload_n 2) 1 3 := ⟨by decide +kernel, rfl⟩
theorem dX4_link_3 : zD cX4_link 3 (.aload_n 0) 1 4 := ⟨by decide +kernel, rfl⟩
theorem dX4_link_4 : zD cX4_link 4 (.getfield 36) 3 7 := ⟨by decide +kernel, rfl⟩
theorem dX4_link_7 : zD cX4_link 7 (.if_icmp .ge 141) 3 10 := ⟨by decide +kernel, rfl⟩
theorem dX4_link_10 : zD cX4_link 10 (.iload_n 2) 1 11 := ⟨by decide +kernel, rfl⟩
theorem dX4_link_11 : zD cX4_link 11 (.iconst 1) 1 12 := ⟨by decide +kernel, rfl⟩
theorem dX4_link_12 : zD cX4_link 12 .iadd 1 13 := ⟨by decide +kernel, rfl⟩
theorem dX4_link_13 : zD cX4_link 13 (.istore_n 3) 1 14 := ⟨by decide +kernel, rfl⟩
theorem dX4_link_14 : zD cX4_link 14 (.iload_n 3) 1 15 := ⟨by decide +kernel, rfl⟩
theorem dX4_link_15 : zD cX4_link 15 (.aload_n 0) 1 16 := ⟨by decide +kernel, rfl⟩
theorem dX4_link_16 : zD cX4_link 16 (.getfield 36) 3 19 := ⟨by decide +kernel, rfl⟩
theorem dX4_link_19 : zD cX4_link 19 (.if_icmp .ge 123) 3 22 := ⟨by decide +kernel, rfl⟩
theorem dX4_link_22 : zD cX4_link 22 (.aload_n 0) 1 23 := ⟨by decide +kernel, rfl⟩
theorem dX4_link_23 : zD cX4_link 23 (.getfield 9) 3 26 := ⟨by decide +kernel, rfl⟩
theorem dX4_link_26 : zD cX4_link 26 (.iload_n 2) 1 27 := ⟨by decide +kernel, rfl⟩
theorem dX4_link_27 : zD cX4_link 27 .iaload 1 28 := ⟨by decide +kernel, rfl⟩
theorem dX4_link_28 : zD cX4_link 28 (.aload_n 0) 1 29 := ⟨by decide +kernel, rfl⟩
theorem dX4_link_29 : zD cX4_link 29 (.getfield 9) 3 32 := ⟨by decide +kernel, rfl⟩
theorem dX4_link_32 : zD cX4_link 32 (.iload_n 3) 1 33 := ⟨by decide +kernel, rfl⟩
theorem dX4_link_33 : zD cX4_link 33 .iaload 1 34 := ⟨by decide +kernel, rfl⟩
theorem dX4_link_34 : zD cX4_link 34 (.if_icmp .ne 7) 3 37 := ⟨by decide +kernel, rfl⟩
theorem dX4_link_37 : zD cX4_link 37 (.iconst 1) 1 38 := ⟨by decide +kernel, rfl⟩
theorem dX4_link_38 : zD cX4_link 38 (.goto 4) 3 41 := ⟨by decide +kernel, rfl⟩
theorem dX4_link_41 : zD cX4_link 41 (.iconst 0) 1 42 := ⟨by decide +kernel, rfl⟩
theorem dX4_link_42 : zD cX4_link 42 (.istore 4) 2 44 := ⟨by decide +kernel, rfl⟩
theorem dX4_link_44 : zD cX4_link 44 (.iload 4) 2 46 := ⟨by decide +kernel, rfl⟩
theorem dX4_link_46 : zD cX4_link 46 (.ifCond .ne 17) 3 49 := ⟨by decide +kernel, rfl⟩
theorem dX4_link_49 : zD cX4_link 49 (.aload_n 0) 1 50 := ⟨by decide +kernel, rfl⟩
theorem dX4_link_50 : zD cX4_link 50 (.iload_n 2) 1 51 := ⟨by decide +kernel, rfl⟩
theorem dX4_link_51 : zD cX4_link 51 (.iload_n 3) 1 52 := ⟨by decide +kernel, rfl⟩
theorem dX4_link_52 : zD cX4_link 52 (.invokevirtual 107) 3 55 := ⟨by decide +kernel, rfl⟩
theorem dX4_link_55 : zD cX4_link 55 (.iload_n 1) 1 56 := ⟨by decide +kernel, rfl⟩
theorem dX4_link_56 : zD cX4_link 56 (.if_icmp .ge 7) 3 59 := ⟨by decide +kernel, rfl⟩
theorem dX4_link_59 : zD cX4_link 59 (.iconst 1) 1 60 := ⟨by decide +kernel, rfl⟩
theorem dX4_link_60 : zD cX4_link 60 (.goto 4) 3 63 := ⟨by decide +kernel, rfl⟩
theorem dX4_link_63 : zD cX4_link 63 (.iconst 0) 1 64 := ⟨by decide +kernel, rfl⟩
theorem dX4_link_64 : zD cX4_link 64 (.istore 5) 2 66 := ⟨by decide +kernel, rfl⟩
theorem dX4_link_66 : zD cX4_link 66 (.iload 5) 2 68 := ⟨by decide +kernel, rfl⟩
theorem dX4_link_68 : zD cX4_link 68 (.ifCond .eq 27) 3 71 := ⟨by decide +kernel, rfl⟩
theorem dX4_link_71 : zD cX4_link 71 (.aload_n 0) 1 72 := ⟨by decide +kernel, rfl⟩
theorem dX4_link_72 : zD cX4_link 72 (.getfield 24) 3 75 := ⟨by decide +kernel, rfl⟩
theorem dX4_link_75 : zD cX4_link 75 (.iload_n 2) 1 76 := ⟨by decide +kernel, rfl⟩
theorem dX4_link_76 : zD cX4_link 76 .dup2 1 77 := ⟨by decide +kernel, rfl⟩
theorem dX4_link_77 : zD cX4_link 77 .iaload 1 78 := ⟨by decide +kernel, rfl⟩
theorem dX4_link_78 : zD cX4_link 78 (.iconst 1) 1 79 := ⟨by decide +kernel, rfl⟩
theorem dX4_link_79 : zD cX4_link 79 (.iload_n 3) 1 80 := ⟨by decide +kernel, rfl⟩
theorem dX4_link_80 : zD cX4_link 80 .ishl 1 81 := ⟨by decide +kernel, rfl⟩
theorem dX4_link_81 : zD cX4_link 81 .ior 1 82 := ⟨by decide +kernel, rfl⟩
theorem dX4_link_82 : zD cX4_link 82 .iastore 1 83 := ⟨by decide +kernel, rfl⟩
theorem dX4_link_83 : zD cX4_link 83 (.aload_n 0) 1 84 := ⟨by decide +kernel, rfl⟩
theorem dX4_link_84 : zD cX4_link 84 (.getfield 24) 3 87 := ⟨by decide +kernel, rfl⟩
theorem dX4_link_87 : zD cX4_link 87 (.iload_n 3) 1 88 := ⟨by decide +kernel, rfl⟩
theorem dX4_link_88 : zD cX4_link 88 .dup2 1 89 := ⟨by decide +kernel, rfl⟩
theorem dX4_link_89 : zD cX4_link 89 .iaload 1 90 := ⟨by decide +kernel, rfl⟩
theorem dX4_link_90 : zD cX4_link 90 (.iconst 1) 1 91 := ⟨by decide +kernel, rfl⟩
theorem dX4_link_91 : zD cX4_link 91 (.iload_n 2) 1 92 := ⟨by decide +kernel, rfl⟩
theorem dX4_link_92 : zD cX4_link 92 .ishl 1 93 := ⟨by decide +kernel, rfl⟩
theorem dX4_link_93 : zD cX4_link 93 .ior 1 94 := ⟨by decide +kernel, rfl⟩
theorem dX4_link_94 : zD cX4_link 94 .iastore 1 95 := ⟨by decide +kernel, rfl⟩
theorem dX4_link_95 : zD cX4_link 95 (.iload 5) 2 97 := ⟨by decide +kernel, rfl⟩
theorem dX4_link_97 : zD cX4_link 97 (.ifCond .ne 15) 3 100 := ⟨by decide +kernel, rfl⟩
theorem dX4_link_100 : zD cX4_link 100 (.iload 4) 2 102 := ⟨by decide +kernel, rfl⟩
theorem dX4_link_102 : zD cX4_link 102 (.ifCond .eq 34) 3 105 := ⟨by decide +kernel, rfl⟩
theorem dX4_link_105 : zD cX4_link 105 (.iload_n 3) 1 106 := ⟨by decide +kernel, rfl⟩
theorem dX4_link_106 : zD cX4_link 106 (.iload_n 2) 1 107 := ⟨by decide +kernel, rfl⟩
theorem dX4_link_107 : zD cX4_link 107 (.iconst 1) 1 108 := ⟨by decide +kernel, rfl⟩
theorem dX4_link_108 : zD cX4_link 108 .iadd 1 109 := ⟨by decide +kernel, rfl⟩
theorem dX4_link_109 : zD cX4_link 109 (.if_icmp .ne 27) 3 112 := ⟨by decide +kernel, rfl⟩
theorem dX4_link_112 : zD cX4_link 112 (.aload_n 0) 1 113 := ⟨by decide +kernel, rfl⟩
theorem dX4_link_113 : zD cX4_link 113 (.getfield 27) 3 116 := ⟨by decide +kernel, rfl⟩
theorem dX4_link_116 : zD cX4_link 116 (.iload_n 2) 1 117 := ⟨by decide +kernel, rfl⟩
theorem dX4_link_117 : zD cX4_link 117 .dup2 1 118 := ⟨by decide +kernel, rfl⟩
theorem dX4_link_118 : zD cX4_link 118 .iaload 1 119 := ⟨by decide +kernel, rfl⟩
theorem dX4_link_119 : zD cX4_link 119 (.iconst 1) 1 120 := ⟨by decide +kernel, rfl⟩
theorem dX4_link_120 : zD cX4_link 120 (.iload_n 3) 1 121 := ⟨by decide +kernel, rfl⟩
theorem dX4_link_121 : zD cX4_link 121 .ishl 1 122 := ⟨by decide +kernel, rfl⟩
theorem dX4_link_122 : zD cX4_link 122 .ior 1 123 := ⟨by decide +kernel, rfl⟩
theorem dX4_link_123 : zD cX4_link 123 .iastore 1 124 := ⟨by decide +kernel, rfl⟩
theorem dX4_link_124 : zD cX4_link 124 (.aload_n 0) 1 125 := ⟨by decide +kernel, rfl⟩
theorem dX4_link_125 : zD cX4_link 125 (.getfield 27) 3 128 := ⟨by decide +kernel, rfl⟩
theorem dX4_link_128 : zD cX4_link 128 (.iload_n 3) 1 129 := ⟨by decide +kernel, rfl⟩
theorem dX4_link_129 : zD cX4_link 129 .dup2 1 130 := ⟨by decide +kernel, rfl⟩
theorem dX4_link_130 : zD cX4_link 130 .iaload 1 131 := ⟨by decide +kernel, rfl⟩
theorem dX4_link_131 : zD cX4_link 131 (.iconst 1) 1 132 := ⟨by decide +kernel, rfl⟩
theorem dX4_link_132 : zD cX4_link 132 (.iload_n 2) 1 133 := ⟨by decide +kernel, rfl⟩
theorem dX4_link_133 : zD cX4_link 133 .ishl 1 134 := ⟨by decide +kernel, rfl⟩
theorem dX4_link_134 : zD cX4_link 134 .ior 1 135 := ⟨by decide +kernel, rfl⟩
theorem dX4_link_135 : zD cX4_link 135 .iastore 1 136 := ⟨by decide +kernel, rfl⟩
theorem dX4_link_136 : zD cX4_link 136 (.iinc 3 1) 3 139 := ⟨by decide +kernel, rfl⟩
theorem dX4_link_139 : zD cX4_link 139 (.goto (-125)) 3 142 := ⟨by decide +kernel, rfl⟩
theorem dX4_link_142 : zD cX4_link 142 (.iinc 2 1) 3 145 := ⟨by decide +kernel, rfl⟩
theorem dX4_link_145 : zD cX4_link 145 (.goto (-143)) 3 148 := ⟨by decide +kernel, rfl⟩
theorem dX4_link_148 : zD cX4_link 148 .return_ 1 149 := ⟨by decide +kernel, rfl⟩
theorem dX4_stepsBetween_0 : zD cX4_stepsBetween 0 (.iconst 0) 1 1 := ⟨by decide +kernel, rfl⟩
theorem dX4_stepsBetween_1 : zD cX4_stepsBetween 1 (.iload_n 2) 1 2 := ⟨by decide +kernel, rfl⟩
theorem dX4_stepsBetween_2 : zD cX4_stepsBetween 2 (.iload_n 1) 1 3 := ⟨by decide +kernel, rfl⟩
theorem dX4_stepsBetween_3 : zD cX4_stepsBetween 3 .isub 1 4 := ⟨by decide +kernel, rfl⟩
theorem dX4_stepsBetween_4 : zD cX4_stepsBetween 4 (.iload_n 0) 1 5 := ⟨by decide +kernel, rfl⟩
theorem dX4_stepsBetween_5 : zD cX4_stepsBetween 5 (.iload_n 3) 1 6 := ⟨by decide +kernel, rfl⟩
theorem dX4_stepsBetween_6 : zD cX4_stepsBetween 6 .isub 1 7 := ⟨by decide +kernel, rfl⟩
theorem dX4_stepsBetween_7 : zD cX4_stepsBetween 7 (.invokestatic 110) 3 10 := ⟨by decide +kernel, rfl⟩
theorem dX4_stepsBetween_10 : zD cX4_stepsBetween 10 (.invokestatic 110) 3 13 := ⟨by decide +kernel, rfl⟩
theorem dX4_stepsBetween_13 : zD cX4_stepsBetween 13 .ireturn 1 14 := ⟨by decide +kernel, rfl⟩
end
section
theorem dX5_init_0 : zD cX5_init 0 (.aload_n 0) 1 1 := ⟨by decide +kernel, rfl⟩
theorem dX5_init_1 : zD cX5_init 1 (.invokespecial 1) 3 4 := ⟨by decide +kernel, rfl⟩
theorem dX5_init_4 : zD cX5_init 4 (.aload_n 0) 1 5 := ⟨by decide +kernel, rfl⟩
theorem dX5_init_5 : zD cX5_init 5 (.new 7) 3 8 := ⟨by decide +kernel, rfl⟩
theorem dX5_init_8 : zD cX5_init 8 .dup 1 9 := ⟨by decide +kernel, rfl⟩
theorem dX5_init_9 : zD cX5_init 9 (.invokespecial 9) 3 12 := ⟨by decide +kernel, rfl⟩
theorem dX5_init_12 : zD cX5_init 12 (.putfield 10) 3 15 := ⟨by decide +kernel, rfl⟩
theorem dX5_init_15 : zD cX5_init 15 (.aload_n 0) 1 16 := ⟨by decide +kernel, rfl⟩
theorem dX5_init_16 : zD cX5_init 16 (.new 16) 3 19 := ⟨by decide +kernel, rfl⟩
theorem dX5_init_19 : zD cX5_init 19 .dup 1 20 := ⟨by decide +kernel, rfl⟩
theorem dX5_init_20 : zD cX5_init 20 (.invokespecial 18) 3 23 := ⟨by decide +kernel, rfl⟩
theorem dX5_init_23 : zD cX5_init 23 (.putfield 19) 3 26 := ⟨by decide +kernel, rfl⟩
theorem dX5_init_26 : zD cX5_init 26 (.aload_n 0) 1 27 := ⟨by decide +kernel, rfl⟩
theorem dX5_init_27 : zD cX5_init 27 (.new 23) 3 30 := ⟨by decide +kernel, rfl⟩
theorem dX5_init_30 : zD cX5_init 30 .dup 1 31 := ⟨by decide +kernel, rfl⟩
theorem dX5_init_31 : zD cX5_init 31 (.aload_n 0) 1 32 := ⟨by decide +kernel, rfl⟩
theorem dX5_init_32 : zD cX5_init 32 (.getfield 19) 3 35 := ⟨by decide +kernel, rfl⟩
theorem dX5_init_35 : zD cX5_init 35 (.invokespecial 25) 3 38 := ⟨by decide +kernel, rfl⟩
theorem dX5_init_38 : zD cX5_init 38 (.putfield 28) 3 41 := ⟨by decide +kernel, rfl⟩
theorem dX5_init_41 : zD cX5_init 41 (.aload_n 0) 1 42 := ⟨by decide +kernel, rfl⟩
theorem dX5_init_42 : zD cX5_init 42 (.new 32) 3 45 := ⟨by decide +kernel, rfl⟩
theorem dX5_init_45 : zD cX5_init 45 .dup 1 46 := ⟨by decide +kernel, rfl⟩
theorem dX5_init_46 : zD cX5_init 46 (.aload_n 0) 1 47 := ⟨by decide +kernel, rfl⟩
theorem dX5_init_47 : zD cX5_init 47 (.getfield 19) 3 50 := ⟨by decide +kernel, rfl⟩
theorem dX5_init_50 : zD cX5_init 50 (.invokespecial 34) 3 53 := ⟨by decide +kernel, rfl⟩
theorem dX5_init_53 : zD cX5_init 53 (.putfield 35) 3 56 := ⟨by decide +kernel, rfl⟩
theorem dX5_init_56 : zD cX5_init 56 (.aload_n 0) 1 57 := ⟨by decide +kernel, rfl⟩
theorem dX5_init_57 : zD cX5_init 57 (.iconst 0) 1 58 := ⟨by decide +kernel, rfl⟩
theorem dX5_init_58 : zD cX5_init 58 (.putfield 39) 3 61 := ⟨by decide +kernel, rfl⟩
theorem dX5_init_61 : zD cX5_init 61 (.aload_n 0) 1 62 := ⟨by decide +kernel, rfl⟩
theorem dX5_init_62 : zD cX5_init 62 (.new 7) 3 65 := ⟨by decide +kernel, rfl⟩
theorem dX5_init_65 : zD cX5_init 65 .dup 1 66 := ⟨by decide +kernel, rfl⟩
theorem dX5_init_66 : zD cX5_init 66 (.invokespecial 9) 3 69 := ⟨by decide +kernel, rfl⟩
theorem dX5_init_69 : zD cX5_init 69 (.putfield 43) 3 72 := ⟨by decide +kernel, rfl⟩
theorem dX5_init_72 : zD cX5_init 72 (.aload_n 0) 1 73 := ⟨by decide +kernel, rfl⟩
theorem dX5_init_73 : zD cX5_init 73 (.new 16) 3 76 := ⟨by decide +kernel, rfl⟩
theorem dX5_init_76 : zD cX5_init 76 .dup 1 77 := ⟨by decide +kernel, rfl⟩
theorem dX5_init_77 : zD cX5_init 77 (.invokespecial 18) 3 80 := ⟨by decide +kernel, rfl⟩
theorem dX5_init_80 : zD cX5_init 80 (.putfield 46) 3 83 := ⟨by decide +kernel, rfl⟩
theorem dX5_init_83 : zD cX5_init 83 (.aload_n 0) 1 84 := ⟨by decide +kernel, rfl⟩
theorem dX5_init_84 : zD cX5_init 84 (.new 32) 3 87 := ⟨by decide +kernel, rfl⟩
theorem dX5_init_87 : zD cX5_init 87 .dup 1 88 := ⟨by decide +kernel, rfl⟩
theorem dX5_init_88 : zD cX5_init 88 (.aload_n 0) 1 89 := ⟨by decide +kernel, rfl⟩
theorem dX5_init_89 : zD cX5_init 89 (.getfield 46) 3 92 := ⟨by decide +kernel, rfl⟩
theorem dX5_init_92 : zD cX5_init 92 (.invokespecial 34) 3 95 := ⟨by decide +kernel, rfl⟩
theorem dX5_init_95 : zD cX5_init 95 (.putfield 49) 3 98 := ⟨by decide +kernel, rfl⟩
theorem dX5_init_98 : zD cX5_init 98 (.aload_n 0) 1 99 := ⟨by decide +kernel, rfl⟩
theorem dX5_init_99 : zD cX5_init 99 (.new 52) 3 102 := ⟨by decide +kernel, rfl⟩
theorem dX5_init_102 : zD cX5_init 102 .dup 1 103 := ⟨by decide +kernel, rfl⟩
theorem dX5_init_103 : zD cX5_init 103 (.invokespecial 54) 3 106 := ⟨by decide +kernel, rfl⟩
theorem dX5_init_106 : zD cX5_init 106 (.putfield 55) 3 109 := ⟨by decide +kernel, rfl⟩
theorem dX5_init_109 : zD cX5_init 109 (.aload_n 0) 1 110 := ⟨by decide +kernel, rfl⟩
theorem dX5_init_110 : zD cX5_init 110 (.new 7) 3 113 := ⟨by decide +kernel, rfl⟩
theorem dX5_init_113 : zD cX5_init 113 .dup 1 114 := ⟨by decide +kernel, rfl⟩
theorem dX5_init_114 : zD cX5_init 114 (.invokespecial 9) 3 117 := ⟨by decide +kernel, rfl⟩
theorem dX5_init_117 : zD cX5_init 117 (.putfield 59) 3 120 := ⟨by decide +kernel, rfl⟩
theorem dX5_init_120 : zD cX5_init 120 (.aload_n 0) 1 121 := ⟨by decide +kernel, rfl⟩
theorem dX5_init_121 : zD cX5_init 121 (.new 7) 3 124 := ⟨by decide +kernel, rfl⟩
theorem dX5_init_124 : zD cX5_init 124 .dup 1 125 := ⟨by decide +kernel, rfl⟩
theorem dX5_init_125 : zD cX5_init 125 (.invokespecial 9) 3 128 := ⟨by decide +kernel, rfl⟩
theorem dX5_init_128 : zD cX5_init 128 (.putfield 62) 3 131 := ⟨by decide +kernel, rfl⟩
theorem dX5_init_131 : zD cX5_init 131 (.aload_n 0) 1 132 := ⟨by decide +kernel, rfl⟩
theorem dX5_init_132 : zD cX5_init 132 (.iconst 0) 1 133 := ⟨by decide +kernel, rfl⟩
theorem dX5_init_133 : zD cX5_init 133 (.putfield 65) 3 136 := ⟨by decide +kernel, rfl⟩
theorem dX5_init_136 : zD cX5_init 136 (.aload_n 0) 1 137 := ⟨by decide +kernel, rfl⟩
theorem dX5_init_137 : zD cX5_init 137 (.iconst 0) 1 138 := ⟨by decide +kernel, rfl⟩
theorem dX5_init_138 : zD cX5_init 138 (.putfield 68) 3 141 := ⟨by decide +kernel, rfl⟩
theorem dX5_init_141 : zD cX5_init 141 .return_ 1 142 := ⟨by decide +kernel, rfl⟩
theorem dX5_shape_0 : zD cX5_shape 0 (.aload_n 0) 1 1 := ⟨by decide +kernel, rfl⟩
theorem dX5_shape_1 : zD cX5_shape 1 (.getfield 10) 3 4 := ⟨by decide +kernel, rfl⟩
theorem dX5_shape_4 : zD cX5_shape 4 (.iload_n 1) 1 5 := ⟨by decide +kernel, rfl⟩
theorem dX5_shape_5 : zD cX5_shape 5 (.iload_n 2) 1 6 := ⟨by decide +kernel, rfl⟩
theorem dX5_shape_6 : zD cX5_shape 6 (.iload_n 3) 1 7 := ⟨by decide +kernel, rfl⟩
theorem dX5_shape_7 : zD cX5_shape 7 (.iload 4) 2 9 := ⟨by decide +kernel, rfl⟩
theorem dX5_shape_9 : zD cX5_shape 9 (.invokevirtual 71) 3 12 := ⟨by decide +kernel, rfl⟩
theorem dX5_shape_12 : zD cX5_shape 12 (.istore 5) 2 14 := ⟨by decide +kernel, rfl⟩
theorem dX5_shape_14 : zD cX5_shape 14 (.iload 5) 2 16 := ⟨by decide +kernel, rfl⟩
theorem dX5_shape_16 : zD cX5_shape 16 (.ifCond .eq 6) 3 19 := ⟨by decide +kernel, rfl⟩
theorem dX5_shape_19 : zD cX5_shape 19 (.iload 5) 2 21 := ⟨by decide +kernel, rfl⟩
theorem dX5_shape_21 : zD cX5_shape 21 .ireturn 1 22 := ⟨by decide +kernel, rfl⟩
theorem dX5_shape_22 : zD cX5_shape 22 (.aload_n 0) 1 23 := ⟨by decide +kernel, rfl⟩
theorem dX5_shape_23 : zD cX5_shape 23 (.getfield 55) 3 26 := ⟨by decide +kernel, rfl⟩
theorem dX5_shape_26 : zD cX5_shape 26 (.aload_n 0) 1 27 := ⟨by decide +kernel, rfl⟩
theorem dX5_shape_27 : zD cX5_shape 27 (.getfield 10) 3 30 := ⟨by decide +kernel, rfl⟩
theorem dX5_shape_30 : zD cX5_shape 30 (.invokevirtual 75) 3 33 := ⟨by decide +kernel, rfl⟩
theorem dX5_shape_33 : zD cX5_shape 33 (.aload_n 0) 1 34 := ⟨by decide +kernel, rfl⟩
theorem dX5_shape_34 : zD cX5_shape 34 (.getfield 10) 3 37 := ⟨by decide +kernel, rfl⟩
theorem dX5_shape_37 : zD cX5_shape 37 (.iload_n 1) 1 38 := ⟨by decide +kernel, rfl⟩
theorem dX5_shape_38 : zD cX5_shape 38 (.iload_n 2) 1 39 := ⟨by decide +kernel, rfl⟩
theorem dX5_shape_39 : zD cX5_shape 39 (.iload_n 3) 1 40 := ⟨by decide +kernel, rfl⟩
theorem dX5_shape_40 : zD cX5_shape 40 (.iload 4) 2 42 := ⟨by decide +kernel, rfl⟩
theorem dX5_shape_42 : zD cX5_shape 42 (.invokevirtual 79) 3 45 := ⟨by decide +kernel, rfl⟩
theorem dX5_shape_45 : zD cX5_shape 45 (.aload_n 0) 1 46 := ⟨by decide +kernel, rfl⟩
theorem dX5_shape_46 : zD cX5_shape 46 (.invokevirtual 83) 3 49 := ⟨by decide +kernel, rfl⟩
theorem dX5_shape_49 : zD cX5_shape 49 (.aload_n 0) 1 50 := ⟨by decide +kernel, rfl⟩
theorem dX5_shape_50 : zD cX5_shape 50 (.getfield 10) 3 53 := ⟨by decide +kernel, rfl⟩
theorem dX5_shape_53 : zD cX5_shape 53 (.getfield 86) 3 56 := ⟨by decide +kernel, rfl⟩
theorem dX5_shape_56 : zD cX5_shape 56 (.iconst 1) 1 57 := ⟨by decide +kernel, rfl⟩
theorem dX5_shape_57 : zD cX5_shape 57 .isub 1 58 := ⟨by decide +kernel, rfl⟩
theorem dX5_shape_58 : zD cX5_shape 58 .ireturn 1 59 := ⟨by decide +kernel, rfl⟩
theorem dX5_drop_0 : zD cX5_drop 0 (.aload_n 0) 1 1 := ⟨by decide +kernel, rfl⟩
theorem dX5_drop_1 : zD cX5_drop 1 (.getfield 10) 3 4 := ⟨by decide +kernel, rfl⟩
theorem dX5_drop_4 : zD cX5_drop 4 (.iload_n 1) 1 5 := ⟨by decide +kernel, rfl⟩
theorem dX5_drop_5 : zD cX5_drop 5 (.invokevirtual 90) 3 8 := ⟨by decide +kernel, rfl⟩
theorem dX5_drop_8 : zD cX5_drop 8 (.ifCond .ne 6) 3 11 := ⟨by decide +kernel, rfl⟩
theorem dX5_drop_11 : zD cX5_drop 11 (.ldc 94) 2 13 := ⟨by decide +kernel, rfl⟩
theorem dX5_drop_13 : zD cX5_drop 13 .ireturn 1 14 := ⟨by decide +kernel, rfl⟩
theorem dX5_drop_14 : zD cX5_drop 14 (.aload_n 0) 1 15 := ⟨by decide +kernel, rfl⟩
theorem dX5_drop_15 : zD cX5_drop 15 (.getfield 55) 3 18 := ⟨by decide +kernel, rfl⟩
theorem dX5_drop_18 : zD cX5_drop 18 (.aload_n 0) 1 19 := ⟨by decide +kernel, rfl⟩
theorem dX5_drop_19 : zD cX5_drop 19 (.getfield 10) 3 22 := ⟨by decide +kernel, rfl⟩
theorem dX5_drop_22 : zD cX5_drop 22 (.invokevirtual 75) 3 25 := ⟨by decide +kernel, rfl⟩
theorem dX5_drop_25 : zD cX5_drop 25 (.aload_n 0) 1 26 := ⟨by decide +kernel, rfl⟩
theorem dX5_drop_26 : zD cX5_drop 26 (.getfield 10) 3 29 := ⟨by decide +kernel, rfl⟩
theorem dX5_drop_29 : zD cX5_drop 29 (.iload_n 1) 1 30 := ⟨by decide +kernel, rfl⟩
theorem dX5_drop_30 : zD cX5_drop 30 (.invokevirtual 95) 3 33 := ⟨by decide +kernel, rfl⟩
theorem dX5_drop_33 : zD cX5_drop 33 (.aload_n 0) 1 34 := ⟨by decide +kernel, rfl⟩
theorem dX5_drop_34 : zD cX5_drop 34 (.invokevirtual 83) 3 37 := ⟨by decide +kernel, rfl⟩
theorem dX5_drop_37 : zD cX5_drop 37 (.aload_n 0) 1 38 := ⟨by decide +kernel, rfl⟩
theorem dX5_drop_38 : zD cX5_drop 38 (.getfield 10) 3 41 := ⟨by decide +kernel, rfl⟩
theorem dX5_drop_41 : zD cX5_drop 41 (.getfield 86) 3 44 := ⟨by decide +kernel, rfl⟩
theorem dX5_drop_44 : zD cX5_drop 44 .ireturn 1 45 := ⟨by decide +kernel, rfl⟩
theorem dX5_move_0 : zD cX5_move 0 (.aload_n 0) 1 1 := ⟨by decide +kernel, rfl⟩
theorem dX5_move_1 : zD cX5_move 1 (.getfield 10) 3 4 := ⟨by decide +kernel, rfl⟩
theorem dX5_move_4 : zD cX5_move 4 (.iload_n 1) 1 5 := ⟨by decide +kernel, rfl⟩
theorem dX5_move_5 : zD cX5_move 5 (.iload_n 2) 1 6 := ⟨by decide +kernel, rfl⟩
theorem dX5_move_6 : zD cX5_move 6 (.iload_n 3) 1 7 := ⟨by decide +kernel, rfl⟩
theorem dX5_move_7 : zD cX5_move 7 (.invokevirtual 99) 3 10 := ⟨by decide +kernel, rfl⟩
theorem dX5_move_10 : zD cX5_move 10 (.istore 4) 2 12 := ⟨by decide +kernel, rfl⟩
theorem dX5_move_12 : zD cX5_move 12 (.iload 4) 2 14 := ⟨by decide +kernel, rfl⟩
theorem dX5_move_14 : zD cX5_move 14 (.ifCond .eq 6) 3 17 := ⟨by decide +kernel, rfl⟩
theorem dX5_move_17 : zD cX5_move 17 (.iload 4) 2 19 := ⟨by decide +kernel, rfl⟩
theorem dX5_move_19 : zD cX5_move 19 .ireturn 1 20 := ⟨by decide +kernel, rfl⟩
theorem dX5_move_20 : zD cX5_move 20 (.aload_n 0) 1 21 := ⟨by decide +kernel, rfl⟩
theorem dX5_move_21 : zD cX5_move 21 (.getfield 55) 3 24 := ⟨by decide +kernel, rfl⟩
theorem dX5_move_24 : zD cX5_move 24 (.aload_n 0) 1 25 := ⟨by decide +kernel, rfl⟩
theorem dX5_move_25 : zD cX5_move 25 (.getfield 10) 3 28 := ⟨by decide +kernel, rfl⟩
theorem dX5_move_28 : zD cX5_move 28 (.invokevirtual 75) 3 31 := ⟨by decide +kernel, rfl⟩
theorem dX5_move_31 : zD cX5_move 31 (.aload_n 0) 1 32 := ⟨by decide +kernel, rfl⟩
theorem dX5_move_32 : zD cX5_move 32 (.getfield 10) 3 35 := ⟨by decide +kernel, rfl⟩
theorem dX5_move_35 : zD cX5_move 35 (.iload_n 1) 1 36 := ⟨by decide +kernel, rfl⟩
theorem dX5_move_36 : zD cX5_move 36 (.iload_n 2) 1 37 := ⟨by decide +kernel, rfl⟩
theorem dX5_move_37 : zD cX5_move 37 (.iload_n 3) 1 38 := ⟨by decide +kernel, rfl⟩
theorem dX5_move_38 : zD cX5_move 38 (.invokevirtual 103) 3 41 := ⟨by decide +kernel, rfl⟩
theorem dX5_move_41 : zD cX5_move 41 (.aload_n 0) 1 42 := ⟨by decide +kernel, rfl⟩
theorem dX5_move_42 : zD cX5_move 42 (.invokevirtual 83) 3 45 := ⟨by decide +kernel, rfl⟩
theorem dX5_move_45 : zD cX5_move 45 (.aload_n 0) 1 46 := ⟨by decide +kernel, rfl⟩
theorem dX5_move_46 : zD cX5_move 46 (.getfield 10) 3 49 := ⟨by decide +kernel, rfl⟩
theorem dX5_move_49 : zD cX5_move 49 (.iload_n 1) 1 50 := ⟨by decide +kernel, rfl⟩
theorem dX5_move_50 : zD cX5_move 50 (.invokevirtual 107) 3 53 := ⟨by decide +kernel, rfl⟩
theorem dX5_move_53 : zD cX5_move 53 .ireturn 1 54 := ⟨by decide +kernel, rfl⟩
theorem dX5_cut_0 : zD cX5_cut 0 (.aload_n 0) 1 1 := ⟨by decide +kernel, rfl⟩
theorem dX5_cut_1 : zD cX5_cut 1 (.getfield 10) 3 4 := ⟨by decide +kernel, rfl⟩
theorem dX5_cut_4 : zD cX5_cut 4 (.iload_n 1) 1 5 := ⟨by decide +kernel, rfl⟩
theorem dX5_cut_5 : zD cX5_cut 5 (.iload_n 2) 1 6 := ⟨by decide +kernel, rfl⟩
theorem dX5_cut_6 : zD cX5_cut 6 (.invokevirtual 111) 3 9 := ⟨by decide +kernel, rfl⟩
theorem dX5_cut_9 : zD cX5_cut 9 (.istore_n 3) 1 10 := ⟨by decide +kernel, rfl⟩
theorem dX5_cut_10 : zD cX5_cut 10 (.iload_n 3) 1 11 := ⟨by decide +kernel, rfl⟩
theorem dX5_cut_11 : zD cX5_cut 11 (.ifCond .eq 5) 3 14 := ⟨by decide +kernel, rfl⟩
theorem dX5_cut_14 : zD cX5_cut 14 (.iload_n 3) 1 15 := ⟨by decide +kernel, rfl⟩
theorem dX5_cut_15 : zD cX5_cut 15 .ireturn 1 16 := ⟨by decide +kernel, rfl⟩
theorem dX5_cut_16 : zD cX5_cut 16 (.aload_n 0) 1 17 := ⟨by decide +kernel, rfl⟩
theorem dX5_cut_17 : zD cX5_cut 17 (.getfield 55) 3 20 := ⟨by decide +kernel, rfl⟩
theorem dX5_cut_20 : zD cX5_cut 20 (.aload_n 0) 1 21 := ⟨by decide +kernel, rfl⟩
theorem dX5_cut_21 : zD cX5_cut 21 (.getfield 10) 3 24 := ⟨by decide +kernel, rfl⟩
theorem dX5_cut_24 : zD cX5_cut 24 (.invokevirtual 75) 3 27 := ⟨by decide +kernel, rfl⟩
theorem dX5_cut_27 : zD cX5_cut 27 (.aload_n 0) 1 28 := ⟨by decide +kernel, rfl⟩
theorem dX5_cut_28 : zD cX5_cut 28 (.getfield 10) 3 31 := ⟨by decide +kernel, rfl⟩
theorem dX5_cut_31 : zD cX5_cut 31 (.getfield 115) 3 34 := ⟨by decide +kernel, rfl⟩
theorem dX5_cut_34 : zD cX5_cut 34 (.iload_n 1) 1 35 := ⟨by decide +kernel, rfl⟩
theorem dX5_cut_35 : zD cX5_cut 35 .dup2 1 36 := ⟨by decide +kernel, rfl⟩
theorem dX5_cut_36 : zD cX5_cut 36 .iaload 1 37 := ⟨by decide +kernel, rfl⟩
theorem dX5_cut_37 : zD cX5_cut 37 (.iconst 1) 1 38 := ⟨by decide +kernel, rfl⟩
theorem dX5_cut_38 : zD cX5_cut 38 (.iload_n 2) 1 39 := ⟨by decide +kernel, rfl⟩
theorem dX5_cut_39 : zD cX5_cut 39 .ishl 1 40 := ⟨by decide +kernel, rfl⟩
theorem dX5_cut_40 : zD cX5_cut 40 .ior 1 41 := ⟨by decide +kernel, rfl⟩
theorem dX5_cut_41 : zD cX5_cut 41 .iastore 1 42 := ⟨by decide +kernel, rfl⟩
theorem dX5_cut_42 : zD cX5_cut 42 (.aload_n 0) 1 43 := ⟨by decide +kernel, rfl⟩
theorem dX5_cut_43 : zD cX5_cut 43 (.invokevirtual 83) 3 46 := ⟨by decide +kernel, rfl⟩
theorem dX5_cut_46 : zD cX5_cut 46 (.aload_n 0) 1 47 := ⟨by decide +kernel, rfl⟩
theorem dX5_cut_47 : zD cX5_cut 47 (.getfield 19) 3 50 := ⟨by decide +kernel, rfl⟩
theorem dX5_cut_50 : zD cX5_cut 50 (.getfield 119) 3 53 := ⟨by decide +kernel, rfl⟩
theorem dX5_cut_53 : zD cX5_cut 53 .ireturn 1 54 := ⟨by decide +kernel, rfl⟩
theorem dX5_heal_0 : zD cX5_heal 0 (.aload_n 0) 1 1 := ⟨by decide +kernel, rfl⟩
theorem dX5_heal_1 : zD cX5_heal 1 (.getfield 10) 3 4 := ⟨by decide +kernel, rfl⟩
theorem dX5_heal_4 : zD cX5_heal 4 (.iload_n 1) 1 5 := ⟨by decide +kernel, rfl⟩
theorem dX5_heal_5 : zD cX5_heal 5 (.iload_n 2) 1 6 := ⟨by decide +kernel, rfl⟩
theorem dX5_heal_6 : zD cX5_heal 6 (.invokevirtual 122) 3 9 := ⟨by decide +kernel, rfl⟩
theorem dX5_heal_9 : zD cX5_heal 9 (.istore_n 3) 1 10 := ⟨by decide +kernel, rfl⟩
theorem dX5_heal_10 : zD cX5_heal 10 (.iload_n 3) 1 11 := ⟨by decide +kernel, rfl⟩
theorem dX5_heal_11 : zD cX5_heal 11 (.ifCond .eq 5) 3 14 := ⟨by decide +kernel, rfl⟩
theorem dX5_heal_14 : zD cX5_heal 14 (.iload_n 3) 1 15 := ⟨by decide +kernel, rfl⟩
theorem dX5_heal_15 : zD cX5_heal 15 .ireturn 1 16 := ⟨by decide +kernel, rfl⟩
theorem dX5_heal_16 : zD cX5_heal 16 (.aload_n 0) 1 17 := ⟨by decide +kernel, rfl⟩
theorem dX5_heal_17 : zD cX5_heal 17 (.getfield 55) 3 20 := ⟨by decide +kernel, rfl⟩
theorem dX5_heal_20 : zD cX5_heal 20 (.aload_n 0) 1 21 := ⟨by decide +kernel, rfl⟩
theorem dX5_heal_21 : zD cX5_heal 21 (.getfield 10) 3 24 := ⟨by decide +kernel, rfl⟩
theorem dX5_heal_24 : zD cX5_heal 24 (.invokevirtual 75) 3 27 := ⟨by decide +kernel, rfl⟩
theorem dX5_heal_27 : zD cX5_heal 27 (.aload_n 0) 1 28 := ⟨by decide +kernel, rfl⟩
theorem dX5_heal_28 : zD cX5_heal 28 (.getfield 10) 3 31 := ⟨by decide +kernel, rfl⟩
theorem dX5_heal_31 : zD cX5_heal 31 (.getfield 115) 3 34 := ⟨by decide +kernel, rfl⟩
theorem dX5_heal_34 : zD cX5_heal 34 (.iload_n 1) 1 35 := ⟨by decide +kernel, rfl⟩
theorem dX5_heal_35 : zD cX5_heal 35 .dup2 1 36 := ⟨by decide +kernel, rfl⟩
theorem dX5_heal_36 : zD cX5_heal 36 .iaload 1 37 := ⟨by decide +kernel, rfl⟩
theorem dX5_heal_37 : zD cX5_heal 37 (.iconst 1) 1 38 := ⟨by decide +kernel, rfl⟩
theorem dX5_heal_38 : zD cX5_heal 38 (.iload_n 2) 1 39 := ⟨by decide +kernel, rfl⟩
theorem dX5_heal_39 : zD cX5_heal 39 .ishl 1 40 := ⟨by decide +kernel, rfl⟩
theorem dX5_heal_40 : zD cX5_heal 40 (.iconst (-1)) 1 41 := ⟨by decide +kernel, rfl⟩
theorem dX5_heal_41 : zD cX5_heal 41 .ixor 1 42 := ⟨by decide +kernel, rfl⟩
theorem dX5_heal_42 : zD cX5_heal 42 .iand 1 43 := ⟨by decide +kernel, rfl⟩
theorem dX5_heal_43 : zD cX5_heal 43 .iastore 1 44 := ⟨by decide +kernel, rfl⟩
theorem dX5_heal_44 : zD cX5_heal 44 (.aload_n 0) 1 45 := ⟨by decide +kernel, rfl⟩
theorem dX5_heal_45 : zD cX5_heal 45 (.invokevirtual 83) 3 48 := ⟨by decide +kernel, rfl⟩
theorem dX5_heal_48 : zD cX5_heal 48 (.aload_n 0) 1 49 := ⟨by decide +kernel, rfl⟩
theorem dX5_heal_49 : zD cX5_heal 49 (.getfield 19) 3 52 := ⟨by decide +kernel, rfl⟩
theorem dX5_heal_52 : zD cX5_heal 52 (.getfield 119) 3 55 := ⟨by decide +kernel, rfl⟩
theorem dX5_heal_55 : zD cX5_heal 55 .ireturn 1 56 := ⟨by decide +kernel, rfl⟩
theorem dX5_bound_0 : zD cX5_bound 0 (.iload_n 1) 1 1 := ⟨by decide +kernel, rfl⟩
theorem dX5_bound_1 : zD cX5_bound 1 (.iload_n 2) 1 2 := ⟨by decide +kernel, rfl⟩
theorem dX5_bound_2 : zD cX5_bound 2 (.invokestatic 125) 3 5 := ⟨by decide +kernel, rfl⟩
theorem dX5_bound_5 : zD cX5_bound 5 (.ifCond .ne 6) 3 8 := ⟨by decide +kernel, rfl⟩
theorem dX5_bound_8 : zD cX5_bound 8 (.ldc 129) 2 10 := ⟨by decide +kernel, rfl⟩
theorem dX5_bound_10 : zD cX5_bound 10 .ireturn 1 11 := ⟨by decide +kernel, rfl⟩
theorem dX5_bound_11 : zD cX5_bound 11 (.aload_n 0) 1 12 := ⟨by decide +kernel, rfl⟩
theorem dX5_bound_12 : zD cX5_bound 12 (.getfield 55) 3 15 := ⟨by decide +kernel, rfl⟩
theorem dX5_bound_15 : zD cX5_bound 15 (.aload_n 0) 1 16 := ⟨by decide +kernel, rfl⟩
theorem dX5_bound_16 : zD cX5_bound 16 (.getfield 10) 3 19 := ⟨by decide +kernel, rfl⟩
theorem dX5_bound_19 : zD cX5_bound 19 (.invokevirtual 75) 3 22 := ⟨by decide +kernel, rfl⟩
theorem dX5_bound_22 : zD cX5_bound 22 (.aload_n 0) 1 23 := ⟨by decide +kernel, rfl⟩
theorem dX5_bound_23 : zD cX5_bound 23 (.getfield 10) 3 26 := ⟨by decide +kernel, rfl⟩
theorem dX5_bound_26 : zD cX5_bound 26 (.iload_n 1) 1 27 := ⟨by decide +kernel, rfl⟩
theorem dX5_bound_27 : zD cX5_bound 27 (.invokevirtual 130) 3 30 := ⟨by decide +kernel, rfl⟩
theorem dX5_bound_30 : zD cX5_bound 30 (.istore_n 3) 1 31 := ⟨by decide +kernel, rfl⟩
theorem dX5_bound_31 : zD cX5_bound 31 (.aload_n 0) 1 32 := ⟨by decide +kernel, rfl⟩
theorem dX5_bound_32 : zD cX5_bound 32 (.getfield 10) 3 35 := ⟨by decide +kernel, rfl⟩
theorem dX5_bound_35 : zD cX5_bound 35 (.iload_n 1) 1 36 := ⟨by decide +kernel, rfl⟩
theorem dX5_bound_36 : zD cX5_bound 36 (.iload_n 2) 1 37 := ⟨by decide +kernel, rfl⟩
theorem dX5_bound_37 : zD cX5_bound 37 (.invokevirtual 133) 3 40 := ⟨by decide +kernel, rfl⟩
theorem dX5_bound_40 : zD cX5_bound 40 (.aload_n 0) 1 41 := ⟨by decide +kernel, rfl⟩
theorem dX5_bound_41 : zD cX5_bound 41 (.invokevirtual 137) 3 44 := ⟨by decide +kernel, rfl⟩
theorem dX5_bound_44 : zD cX5_bound 44 (.iload_n 3) 1 45 := ⟨by decide +kernel, rfl⟩
theorem dX5_bound_45 : zD cX5_bound 45 .ireturn 1 46 := ⟨by decide +kernel, rfl⟩
theorem dX5_fix_0 : zD cX5_fix 0 (.aload_n 0) 1 1 := ⟨by decide +kernel, rfl⟩
theorem dX5_fix_1 : zD cX5_fix 1 (.getfield 19) 3 4 := ⟨by decide +kernel, rfl⟩
theorem dX5_fix_4 : zD cX5_fix 4 (.iload_n 1) 1 5 := ⟨by decide +kernel, rfl⟩
theorem dX5_fix_5 : zD cX5_fix 5 (.invokevirtual 140) 3 8 := ⟨by decide +kernel, rfl⟩
theorem dX5_fix_8 : zD cX5_fix 8 (.ifCond .ne 6) 3 11 := ⟨by decide +kernel, rfl⟩
theorem dX5_fix_11 : zD cX5_fix 11 (.ldc 94) 2 13 := ⟨by decide +kernel, rfl⟩
theorem dX5_fix_13 : zD cX5_fix 13 .ireturn 1 14 := ⟨by decide +kernel, rfl⟩
theorem dX5_fix_14 : zD cX5_fix 14 (.iload_n 2) 1 15 := ⟨by decide +kernel, rfl⟩
theorem dX5_fix_15 : zD cX5_fix 15 (.iconst (-1)) 1 16 := ⟨by decide +kernel, rfl⟩
theorem dX5_fix_16 : zD cX5_fix 16 (.if_icmp .lt 8) 3 19 := ⟨by decide +kernel, rfl⟩
theorem dX5_fix_19 : zD cX5_fix 19 (.iload_n 2) 1 20 := ⟨by decide +kernel, rfl⟩
theorem dX5_fix_20 : zD cX5_fix 20 (.iconst 1) 1 21 := ⟨by decide +kernel, rfl⟩
theorem dX5_fix_21 : zD cX5_fix 21 (.if_icmp .le 6) 3 24 := ⟨by decide +kernel, rfl⟩
theorem dX5_fix_24 : zD cX5_fix 24 (.ldc 129) 2 26 := ⟨by decide +kernel, rfl⟩
theorem dX5_fix_26 : zD cX5_fix 26 .ireturn 1 27 := ⟨by decide +kernel, rfl⟩
theorem dX5_fix_27 : zD cX5_fix 27 (.aload_n 0) 1 28 := ⟨by decide +kernel, rfl⟩
theorem dX5_fix_28 : zD cX5_fix 28 (.getfield 10) 3 31 := ⟨by decide +kernel, rfl⟩
theorem dX5_fix_31 : zD cX5_fix 31 (.iload_n 1) 1 32 := ⟨by decide +kernel, rfl⟩
theorem dX5_fix_32 : zD cX5_fix 32 (.invokevirtual 143) 3 35 := ⟨by decide +kernel, rfl⟩
theorem dX5_fix_35 : zD cX5_fix 35 (.iload_n 2) 1 36 := ⟨by decide +kernel, rfl⟩
theorem dX5_fix_36 : zD cX5_fix 36 (.if_icmp .ne 6) 3 39 := ⟨by decide +kernel, rfl⟩
theorem dX5_fix_39 : zD cX5_fix 39 (.ldc 146) 2 41 := ⟨by decide +kernel, rfl⟩
theorem dX5_fix_41 : zD cX5_fix 41 .ireturn 1 42 := ⟨by decide +kernel, rfl⟩
theorem dX5_fix_42 : zD cX5_fix 42 (.aload_n 0) 1 43 := ⟨by decide +kernel, rfl⟩
theorem dX5_fix_43 : zD cX5_fix 43 (.getfield 55) 3 46 := ⟨by decide +kernel, rfl⟩
theorem dX5_fix_46 : zD cX5_fix 46 (.aload_n 0) 1 47 := ⟨by decide +kernel, rfl⟩
theorem dX5_fix_47 : zD cX5_fix 47 (.getfield 10) 3 50 := ⟨by decide +kernel, rfl⟩
theorem dX5_fix_50 : zD cX5_fix 50 (.invokevirtual 75) 3 53 := ⟨by decide +kernel, rfl⟩
theorem dX5_fix_53 : zD cX5_fix 53 (.aload_n 0) 1 54 := ⟨by decide +kernel, rfl⟩
theorem dX5_fix_54 : zD cX5_fix 54 (.getfield 10) 3 57 := ⟨by decide +kernel, rfl⟩
theorem dX5_fix_57 : zD cX5_fix 57 (.iload_n 1) 1 58 := ⟨by decide +kernel, rfl⟩
theorem dX5_fix_58 : zD cX5_fix 58 (.iload_n 2) 1 59 := ⟨by decide +kernel, rfl⟩
theorem dX5_fix_59 : zD cX5_fix 59 (.invokevirtual 147) 3 62 := ⟨by decide +kernel, rfl⟩
theorem dX5_fix_62 : zD cX5_fix 62 (.aload_n 0) 1 63 := ⟨by decide +kernel, rfl⟩
theorem dX5_fix_63 : zD cX5_fix 63 (.invokevirtual 137) 3 66 := ⟨by decide +kernel, rfl⟩
theorem dX5_fix_66 : zD cX5_fix 66 (.aload_n 0) 1 67 := ⟨by decide +kernel, rfl⟩
theorem dX5_fix_67 : zD cX5_fix 67 (.invokevirtual 150) 3 70 := ⟨by decide +kernel, rfl⟩
theorem dX5_fix_70 : zD cX5_fix 70 (.getfield 154) 3 73 := ⟨by decide +kernel, rfl⟩
theorem dX5_fix_73 : zD cX5_fix 73 .ireturn 1 74 := ⟨by decide +kernel, rfl⟩
theorem dX5_turn_0 : zD cX5_turn 0 (.aload_n 0) 1 1 := ⟨by decide +kernel, rfl⟩
theorem dX5_turn_1 : zD cX5_turn 1 (.getfield 55) 3 4 := ⟨by decide +kernel, rfl⟩
theorem dX5_turn_4 : zD cX5_turn 4 (.aload_n 0) 1 5 := ⟨by decide +kernel, rfl⟩
theorem dX5_turn_5 : zD cX5_turn 5 (.getfield 10) 3 8 := ⟨by decide +kernel, rfl⟩
theorem dX5_turn_8 : zD cX5_turn 8 (.invokevirtual 75) 3 11 := ⟨by decide +kernel, rfl⟩
theorem dX5_turn_11 : zD cX5_turn 11 (.aload_n 0) 1 12 := ⟨by decide +kernel, rfl⟩
theorem dX5_turn_12 : zD cX5_turn 12 (.getfield 10) 3 15 := ⟨by decide +kernel, rfl⟩
theorem dX5_turn_15 : zD cX5_turn 15 (.invokevirtual 157) 3 18 := ⟨by decide +kernel, rfl⟩
theorem dX5_turn_18 : zD cX5_turn 18 (.aload_n 0) 1 19 := ⟨by decide +kernel, rfl⟩
theorem dX5_turn_19 : zD cX5_turn 19 (.invokevirtual 83) 3 22 := ⟨by decide +kernel, rfl⟩
theorem dX5_turn_22 : zD cX5_turn 22 (.aload_n 0) 1 23 := ⟨by decide +kernel, rfl⟩
theorem dX5_turn_23 : zD cX5_turn 23 (.invokevirtual 150) 3 26 := ⟨by decide +kernel, rfl⟩
theorem dX5_turn_26 : zD cX5_turn 26 (.getfield 154) 3 29 := ⟨by decide +kernel, rfl⟩
theorem dX5_turn_29 : zD cX5_turn 29 .ireturn 1 30 := ⟨by decide +kernel, rfl⟩
theorem dX5_drift_0 : zD cX5_drift 0 (.iload_n 1) 1 1 := ⟨by decide +kernel, rfl⟩
theorem dX5_drift_1 : zD cX5_drift 1 (.iconst 1) 1 2 := ⟨by decide +kernel, rfl⟩
theorem dX5_drift_2 : zD cX5_drift 2 (.if_icmp .lt 20) 3 5 := ⟨by decide +kernel, rfl⟩
theorem dX5_drift_5 : zD cX5_drift 5 (.iload_n 1) 1 6 := ⟨by decide +kernel, rfl⟩
theorem dX5_drift_6 : zD cX5_drift 6 (.bipush 20) 2 8 := ⟨by decide +kernel, rfl⟩
theorem dX5_drift_8 : zD cX5_drift 8 (.if_icmp .gt 14) 3 11 := ⟨by decide +kernel, rfl⟩
theorem dX5_drift_11 : zD cX5_drift 11 (.iload_n 2) 1 12 := ⟨by decide +kernel, rfl⟩
theorem dX5_drift_12 : zD cX5_drift 12 (.iconst 1) 1 13 := ⟨by decide +kernel, rfl⟩
theorem dX5_drift_13 : zD cX5_drift 13 (.if_icmp .lt 9) 3 16 := ⟨by decide +kernel, rfl⟩
theorem dX5_drift_16 : zD cX5_drift 16 (.iload_n 2) 1 17 := ⟨by decide +kernel, rfl⟩
theorem dX5_drift_17 : zD cX5_drift 17 (.ldc 160) 2 19 := ⟨by decide +kernel, rfl⟩
theorem dX5_drift_19 : zD cX5_drift 19 (.if_icmp .le 6) 3 22 := ⟨by decide +kernel, rfl⟩
theorem dX5_drift_22 : zD cX5_drift 22 (.ldc 129) 2 24 := ⟨by decide +kernel, rfl⟩
theorem dX5_drift_24 : zD cX5_drift 24 .ireturn 1 25 := ⟨by decide +kernel, rfl⟩
theorem dX5_drift_25 : zD cX5_drift 25 (.aload_n 0) 1 26 := ⟨by decide +kernel, rfl⟩
theorem dX5_drift_26 : zD cX5_drift 26 (.getfield 55) 3 29 := ⟨by decide +kernel, rfl⟩
theorem dX5_drift_29 : zD cX5_drift 29 (.aload_n 0) 1 30 := ⟨by decide +kernel, rfl⟩
theorem dX5_drift_30 : zD cX5_drift 30 (.getfield 10) 3 33 := ⟨by decide +kernel, rfl⟩
theorem dX5_drift_33 : zD cX5_drift 33 (.invokevirtual 75) 3 36 := ⟨by decide +kernel, rfl⟩
theorem dX5_drift_36 : zD cX5_drift 36 (.iload_n 2) 1 37 := ⟨by decide +kernel, rfl⟩
theorem dX5_drift_37 : zD cX5_drift 37 (.istore_n 3) 1 38 := ⟨by decide +kernel, rfl⟩
theorem dX5_drift_38 : zD cX5_drift 38 (.iconst 0) 1 39 := ⟨by decide +kernel, rfl⟩
theorem dX5_drift_39 : zD cX5_drift 39 (.istore 4) 2 41 := ⟨by decide +kernel, rfl⟩
theorem dX5_drift_41 : zD cX5_drift 41 (.iload 4) 2 43 := ⟨by decide +kernel, rfl⟩
theorem dX5_drift_43 : zD cX5_drift 43 (.iload_n 1) 1 44 := ⟨by decide +kernel, rfl⟩
theorem dX5_drift_44 : zD cX5_drift 44 (.if_icmp .ge 124) 3 47 := ⟨by decide +kernel, rfl⟩
theorem dX5_drift_47 : zD cX5_drift 47 (.aload_n 0) 1 48 := ⟨by decide +kernel, rfl⟩
theorem dX5_drift_48 : zD cX5_drift 48 (.getfield 10) 3 51 := ⟨by decide +kernel, rfl⟩
theorem dX5_drift_51 : zD cX5_drift 51 (.invokevirtual 161) 3 54 := ⟨by decide +kernel, rfl⟩
theorem dX5_drift_54 : zD cX5_drift 54 (.ifCond .ne 114) 3 57 := ⟨by decide +kernel, rfl⟩
theorem dX5_drift_57 : zD cX5_drift 57 (.iload_n 3) 1 58 := ⟨by decide +kernel, rfl⟩
theorem dX5_drift_58 : zD cX5_drift 58 (.invokestatic 165) 3 61 := ⟨by decide +kernel, rfl⟩
theorem dX5_drift_61 : zD cX5_drift 61 (.istore 5) 2 63 := ⟨by decide +kernel, rfl⟩
theorem dX5_drift_63 : zD cX5_drift 63 (.iload 5) 2 65 := ⟨by decide +kernel, rfl⟩
theorem dX5_drift_65 : zD cX5_drift 65 (.invokestatic 165) 3 68 := ⟨by decide +kernel, rfl⟩
theorem dX5_drift_68 : zD cX5_drift 68 (.istore 6) 2 70 := ⟨by decide +kernel, rfl⟩
theorem dX5_drift_70 : zD cX5_drift 70 (.iload 6) 2 72 := ⟨by decide +kernel, rfl⟩
theorem dX5_drift_72 : zD cX5_drift 72 (.invokestatic 165) 3 75 := ⟨by decide +kernel, rfl⟩
theorem dX5_drift_75 : zD cX5_drift 75 (.istore 7) 2 77 := ⟨by decide +kernel, rfl⟩
theorem dX5_drift_77 : zD cX5_drift 77 (.iload 7) 2 79 := ⟨by decide +kernel, rfl⟩
theorem dX5_drift_79 : zD cX5_drift 79 (.invokestatic 165) 3 82 := ⟨by decide +kernel, rfl⟩
theorem dX5_drift_82 : zD cX5_drift 82 (.istore 8) 2 84 := ⟨by decide +kernel, rfl⟩
theorem dX5_drift_84 : zD cX5_drift 84 (.iload 8) 2 86 := ⟨by decide +kernel, rfl⟩
theorem dX5_drift_86 : zD cX5_drift 86 (.istore_n 3) 1 87 := ⟨by decide +kernel, rfl⟩
theorem dX5_drift_87 : zD cX5_drift 87 (.iload 5) 2 89 := ⟨by decide +kernel, rfl⟩
theorem dX5_drift_89 : zD cX5_drift 89 (.bipush 16) 2 91 := ⟨by decide +kernel, rfl⟩
theorem dX5_drift_91 : zD cX5_drift 91 .irem 1 92 := ⟨by decide +kernel, rfl⟩
theorem dX5_drift_92 : zD cX5_drift 92 (.istore 9) 2 94 := ⟨by decide +kernel, rfl⟩
theorem dX5_drift_94 : zD cX5_drift 94 (.iload 6) 2 96 := ⟨by decide +kernel, rfl⟩
theorem dX5_drift_96 : zD cX5_drift 96 (.bipush 16) 2 98 := ⟨by decide +kernel, rfl⟩
theorem dX5_drift_98 : zD cX5_drift 98 .irem 1 99 := ⟨by decide +kernel, rfl⟩
theorem dX5_drift_99 : zD cX5_drift 99 (.istore 10) 2 101 := ⟨by decide +kernel, rfl⟩
theorem dX5_drift_101 : zD cX5_drift 101 (.bipush 15) 2 103 := ⟨by decide +kernel, rfl⟩
theorem dX5_drift_103 : zD cX5_drift 103 (.iload 9) 2 105 := ⟨by decide +kernel, rfl⟩
theorem dX5_drift_105 : zD cX5_drift 105 (.iload 7) 2 107 := ⟨by decide +kernel, rfl⟩
theorem dX5_drift_107 : zD cX5_drift 107 (.iconst 5) 1 108 := ⟨by decide +kernel, rfl⟩
theorem dX5_drift_108 : zD cX5_drift 108 .irem 1 109 := ⟨by decide +kernel, rfl⟩
theorem dX5_drift_109 : zD cX5_drift 109 .iadd 1 110 := ⟨by decide +kernel, rfl⟩
theorem dX5_drift_110 : zD cX5_drift 110 (.invokestatic 168) 3 113 := ⟨by decide +kernel, rfl⟩
theorem dX5_drift_113 : zD cX5_drift 113 (.istore 11) 2 115 := ⟨by decide +kernel, rfl⟩
theorem dX5_drift_115 : zD cX5_drift 115 (.bipush 15) 2 117 := ⟨by decide +kernel, rfl⟩
theorem dX5_drift_117 : zD cX5_drift 117 (.iload 10) 2 119 := ⟨by decide +kernel, rfl⟩
theorem dX5_drift_119 : zD cX5_drift 119 (.iload 8) 2 121 := ⟨by decide +kernel, rfl⟩
theorem dX5_drift_121 : zD cX5_drift 121 (.iconst 3) 1 122 := ⟨by decide +kernel, rfl⟩
theorem dX5_drift_122 : zD cX5_drift 122 .irem 1 123 := ⟨by decide +kernel, rfl⟩
theorem dX5_drift_123 : zD cX5_drift 123 .iadd 1 124 := ⟨by decide +kernel, rfl⟩
theorem dX5_drift_124 : zD cX5_drift 124 (.invokestatic 168) 3 127 := ⟨by decide +kernel, rfl⟩
theorem dX5_drift_127 : zD cX5_drift 127 (.istore 12) 2 129 := ⟨by decide +kernel, rfl⟩
theorem dX5_drift_129 : zD cX5_drift 129 (.aload_n 0) 1 130 := ⟨by decide +kernel, rfl⟩
theorem dX5_drift_130 : zD cX5_drift 130 (.getfield 10) 3 133 := ⟨by decide +kernel, rfl⟩
theorem dX5_drift_133 : zD cX5_drift 133 (.iload 9) 2 135 := ⟨by decide +kernel, rfl⟩
theorem dX5_drift_135 : zD cX5_drift 135 (.iload 10) 2 137 := ⟨by decide +kernel, rfl⟩
theorem dX5_drift_137 : zD cX5_drift 137 (.iload 11) 2 139 := ⟨by decide +kernel, rfl⟩
theorem dX5_drift_139 : zD cX5_drift 139 (.iload 12) 2 141 := ⟨by decide +kernel, rfl⟩
theorem dX5_drift_141 : zD cX5_drift 141 (.invokevirtual 71) 3 144 := ⟨by decide +kernel, rfl⟩
theorem dX5_drift_144 : zD cX5_drift 144 (.ifCond .ne 18) 3 147 := ⟨by decide +kernel, rfl⟩
theorem dX5_drift_147 : zD cX5_drift 147 (.aload_n 0) 1 148 := ⟨by decide +kernel, rfl⟩
theorem dX5_drift_148 : zD cX5_drift 148 (.getfield 10) 3 151 := ⟨by decide +kernel, rfl⟩
theorem dX5_drift_151 : zD cX5_drift 151 (.iload 9) 2 153 := ⟨by decide +kernel, rfl⟩
theorem dX5_drift_153 : zD cX5_drift 153 (.iload 10) 2 155 := ⟨by decide +kernel, rfl⟩
theorem dX5_drift_155 : zD cX5_drift 155 (.iload 11) 2 157 := ⟨by decide +kernel, rfl⟩
theorem dX5_drift_157 : zD cX5_drift 157 (.iload 12) 2 159 := ⟨by decide +kernel, rfl⟩
theorem dX5_drift_159 : zD cX5_drift 159 (.invokevirtual 79) 3 162 := ⟨by decide +kernel, rfl⟩
theorem dX5_drift_162 : zD cX5_drift 162 (.iinc 4 1) 3 165 := ⟨by decide +kernel, rfl⟩
theorem dX5_drift_165 : zD cX5_drift 165 (.goto (-124)) 3 168 := ⟨by decide +kernel, rfl⟩
theorem dX5_drift_168 : zD cX5_drift 168 (.aload_n 0) 1 169 := ⟨by decide +kernel, rfl⟩
theorem dX5_drift_169 : zD cX5_drift 169 (.invokevirtual 83) 3 172 := ⟨by decide +kernel, rfl⟩
theorem dX5_drift_172 : zD cX5_drift 172 (.aload_n 0) 1 173 := ⟨by decide +kernel, rfl⟩
theorem dX5_drift_173 : zD cX5_drift 173 (.getfield 10) 3 176 := ⟨by decide +kernel, rfl⟩
theorem dX5_drift_176 : zD cX5_drift 176 (.getfield 86) 3 179 := ⟨by decide +kernel, rfl⟩
theorem dX5_drift_179 : zD cX5_drift 179 .ireturn 1 180 := ⟨by decide +kernel, rfl⟩
theorem dX5_undo_0 : zD cX5_undo 0 (.aload_n 0) 1 1 := ⟨by decide +kernel, rfl⟩
theorem dX5_undo_1 : zD cX5_undo 1 (.getfield 55) 3 4 := ⟨by decide +kernel, rfl⟩
theorem dX5_undo_4 : zD cX5_undo 4 (.getfield 173) 3 7 := ⟨by decide +kernel, rfl⟩
theorem dX5_undo_7 : zD cX5_undo 7 (.ifCond .ne 6) 3 10 := ⟨by decide +kernel, rfl⟩
theorem dX5_undo_10 : zD cX5_undo 10 (.ldc 146) 2 12 := ⟨by decide +kernel, rfl⟩
theorem dX5_undo_12 : zD cX5_undo 12 .ireturn 1 13 := ⟨by decide +kernel, rfl⟩
theorem dX5_undo_13 : zD cX5_undo 13 (.aload_n 0) 1 14 := ⟨by decide +kernel, rfl⟩
theorem dX5_undo_14 : zD cX5_undo 14 (.getfield 55) 3 17 := ⟨by decide +kernel, rfl⟩
theorem dX5_undo_17 : zD cX5_undo 17 (.aload_n 0) 1 18 := ⟨by decide +kernel, rfl⟩
theorem dX5_undo_18 : zD cX5_undo 18 (.getfield 10) 3 21 := ⟨by decide +kernel, rfl⟩
theorem dX5_undo_21 : zD cX5_undo 21 (.invokevirtual 174) 3 24 := ⟨by decide +kernel, rfl⟩
theorem dX5_undo_24 : zD cX5_undo 24 (.aload_n 0) 1 25 := ⟨by decide +kernel, rfl⟩
theorem dX5_undo_25 : zD cX5_undo 25 (.invokevirtual 137) 3 28 := ⟨by decide +kernel, rfl⟩
theorem dX5_undo_28 : zD cX5_undo 28 (.aload_n 0) 1 29 := ⟨by decide +kernel, rfl⟩
theorem dX5_undo_29 : zD cX5_undo 29 (.getfield 55) 3 32 := ⟨by decide +kernel, rfl⟩
theorem dX5_undo_32 : zD cX5_undo 32 (.getfield 173) 3 35 := ⟨by decide +kernel, rfl⟩
theorem dX5_undo_35 : zD cX5_undo 35 .ireturn 1 36 := ⟨by decide +kernel, rfl⟩
theorem dX5_told_0 : zD cX5_told 0 (.iload_n 1) 1 1 := ⟨by decide +kernel, rfl⟩
theorem dX5_told_1 : zD cX5_told 1 (.ifCond .lt 9) 3 4 := ⟨by decide +kernel, rfl⟩
theorem dX5_told_4 : zD cX5_told 4 (.iload_n 1) 1 5 := ⟨by decide +kernel, rfl⟩
theorem dX5_told_5 : zD cX5_told 5 (.bipush 20) 2 7 := ⟨by decide +kernel, rfl⟩
theorem dX5_told_7 : zD cX5_told 7 (.if_icmp .le 6) 3 10 := ⟨by decide +kernel, rfl⟩
theorem dX5_told_10 : zD cX5_told 10 (.ldc 129) 2 12 := ⟨by decide +kernel, rfl⟩
theorem dX5_told_12 : zD cX5_told 12 .ireturn 1 13 := ⟨by decide +kernel, rfl⟩
theorem dX5_told_13 : zD cX5_told 13 (.iload_n 1) 1 14 := ⟨by decide +kernel, rfl⟩
theorem dX5_told_14 : zD cX5_told 14 (.tableswitch 210 0 20 #[98, 106, 114, 122, 130, 210, 210, 210, 210, 210, 210, 138, 146, 154, 162, 170, 178, 186, 194, 210, 202]) 98 112 := ⟨by decide +kernel, rfl⟩
theorem dX5_told_112 : zD cX5_told 112 (.aload_n 0) 1 113 := ⟨by decide +kernel, rfl⟩
theorem dX5_told_113 : zD cX5_told 113 (.getfield 10) 3 116 := ⟨by decide +kernel, rfl⟩
theorem dX5_told_116 : zD cX5_told 116 (.getfield 86) 3 119 := ⟨by decide +kernel, rfl⟩
theorem dX5_told_119 : zD cX5_told 119 .ireturn 1 120 := ⟨by decide +kernel, rfl⟩
theorem dX5_told_120 : zD cX5_told 120 (.aload_n 0) 1 121 := ⟨by decide +kernel, rfl⟩
theorem dX5_told_121 : zD cX5_told 121 (.getfield 19) 3 124 := ⟨by decide +kernel, rfl⟩
theorem dX5_told_124 : zD cX5_told 124 (.getfield 119) 3 127 := ⟨by decide +kernel, rfl⟩
theorem dX5_told_127 : zD cX5_told 127 .ireturn 1 128 := ⟨by decide +kernel, rfl⟩
theorem dX5_told_128 : zD cX5_told 128 (.aload_n 0) 1 129 := ⟨by decide +kernel, rfl⟩
theorem dX5_told_129 : zD cX5_told 129 (.getfield 10) 3 132 := ⟨by decide +kernel, rfl⟩
theorem dX5_told_132 : zD cX5_told 132 (.getfield 177) 3 135 := ⟨by decide +kernel, rfl⟩
theorem dX5_told_135 : zD cX5_told 135 .ireturn 1 136 := ⟨by decide +kernel, rfl⟩
theorem dX5_told_136 : zD cX5_told 136 (.aload_n 0) 1 137 := ⟨by decide +kernel, rfl⟩
theorem dX5_told_137 : zD cX5_told 137 (.getfield 10) 3 140 := ⟨by decide +kernel, rfl⟩
theorem dX5_told_140 : zD cX5_told 140 (.getfield 180) 3 143 := ⟨by decide +kernel, rfl⟩
theorem dX5_told_143 : zD cX5_told 143 .ireturn 1 144 := ⟨by decide +kernel, rfl⟩
theorem dX5_told_144 : zD cX5_told 144 (.aload_n 0) 1 145 := ⟨by decide +kernel, rfl⟩
theorem dX5_told_145 : zD cX5_told 145 (.getfield 10) 3 148 := ⟨by decide +kernel, rfl⟩
theorem dX5_told_148 : zD cX5_told 148 (.getfield 183) 3 151 := ⟨by decide +kernel, rfl⟩
theorem dX5_told_151 : zD cX5_told 151 .ireturn 1 152 := ⟨by decide +kernel, rfl⟩
theorem dX5_told_152 : zD cX5_told 152 (.aload_n 0) 1 153 := ⟨by decide +kernel, rfl⟩
theorem dX5_told_153 : zD cX5_told 153 (.getfield 28) 3 156 := ⟨by decide +kernel, rfl⟩
theorem dX5_told_156 : zD cX5_told 156 (.invokevirtual 186) 3 159 := ⟨by decide +kernel, rfl⟩
theorem dX5_told_159 : zD cX5_told 159 .ireturn 1 160 := ⟨by decide +kernel, rfl⟩
theorem dX5_told_160 : zD cX5_told 160 (.aload_n 0) 1 161 := ⟨by decide +kernel, rfl⟩
theorem dX5_told_161 : zD cX5_told 161 (.getfield 28) 3 164 := ⟨by decide +kernel, rfl⟩
theorem dX5_told_164 : zD cX5_told 164 (.invokevirtual 190) 3 167 := ⟨by decide +kernel, rfl⟩
theorem dX5_told_167 : zD cX5_told 167 .ireturn 1 168 := ⟨by decide +kernel, rfl⟩
theorem dX5_told_168 : zD cX5_told 168 (.aload_n 0) 1 169 := ⟨by decide +kernel, rfl⟩
theorem dX5_told_169 : zD cX5_told 169 (.getfield 28) 3 172 := ⟨by decide +kernel, rfl⟩
theorem dX5_told_172 : zD cX5_told 172 (.invokevirtual 193) 3 175 := ⟨by decide +kernel, rfl⟩
theorem dX5_told_175 : zD cX5_told 175 .ireturn 1 176 := ⟨by decide +kernel, rfl⟩
theorem dX5_told_176 : zD cX5_told 176 (.aload_n 0) 1 177 := ⟨by decide +kernel, rfl⟩
theorem dX5_told_177 : zD cX5_told 177 (.getfield 28) 3 180 := ⟨by decide +kernel, rfl⟩
theorem dX5_told_180 : zD cX5_told 180 (.invokevirtual 196) 3 183 := ⟨by decide +kernel, rfl⟩
theorem dX5_told_183 : zD cX5_told 183 .ireturn 1 184 := ⟨by decide +kernel, rfl⟩
theorem dX5_told_184 : zD cX5_told 184 (.aload_n 0) 1 185 := ⟨by decide +kernel, rfl⟩
theorem dX5_told_185 : zD cX5_told 185 (.getfield 28) 3 188 := ⟨by decide +kernel, rfl⟩
theorem dX5_told_188 : zD cX5_told 188 (.invokevirtual 199) 3 191 := ⟨by decide +kernel, rfl⟩
theorem dX5_told_191 : zD cX5_told 191 .ireturn 1 192 := ⟨by decide +kernel, rfl⟩
theorem dX5_told_192 : zD cX5_told 192 (.aload_n 0) 1 193 := ⟨by decide +kernel, rfl⟩
theorem dX5_told_193 : zD cX5_told 193 (.getfield 28) 3 196 := ⟨by decide +kernel, rfl⟩
theorem dX5_told_196 : zD cX5_told 196 (.invokevirtual 202) 3 199 := ⟨by decide +kernel, rfl⟩
theorem dX5_told_199 : zD cX5_told 199 .ireturn 1 200 := ⟨by decide +kernel, rfl⟩
theorem dX5_told_200 : zD cX5_told 200 (.aload_n 0) 1 201 := ⟨by decide +kernel, rfl⟩
theorem dX5_told_201 : zD cX5_told 201 (.getfield 19) 3 204 := ⟨by decide +kernel, rfl⟩
theorem dX5_told_204 : zD cX5_told 204 (.invokevirtual 205) 3 207 := ⟨by decide +kernel, rfl⟩
theorem dX5_told_207 : zD cX5_told 207 .ireturn 1 208 := ⟨by decide +kernel, rfl⟩
theorem dX5_told_208 : zD cX5_told 208 (.aload_n 0) 1 209 := ⟨by decide +kernel, rfl⟩
theorem dX5_told_209 : zD cX5_told 209 (.getfield 10) 3 212 := ⟨by decide +kernel, rfl⟩
theorem dX5_told_212 : zD cX5_told 212 (.getfield 208) 3 215 := ⟨by decide +kernel, rfl⟩
theorem dX5_told_215 : zD cX5_told 215 .ireturn 1 216 := ⟨by decide +kernel, rfl⟩
theorem dX5_told_216 : zD cX5_told 216 (.aload_n 0) 1 217 := ⟨by decide +kernel, rfl⟩
theorem dX5_told_217 : zD cX5_told 217 (.getfield 55) 3 220 := ⟨by decide +kernel, rfl⟩
theorem dX5_told_220 : zD cX5_told 220 (.getfield 173) 3 223 := ⟨by decide +kernel, rfl⟩
theorem dX5_told_223 : zD cX5_told 223 .ireturn 1 224 := ⟨by decide +kernel, rfl⟩
theorem dX5_told_224 : zD cX5_told 224 (.aload_n 0) 1 225 := ⟨by decide +kernel, rfl⟩
theorem dX5_told_225 : zD cX5_told 225 (.iload_n 1) 1 226 := ⟨by decide +kernel, rfl⟩
theorem dX5_told_226 : zD cX5_told 226 (.invokevirtual 211) 3 229 := ⟨by decide +kernel, rfl⟩
theorem dX5_told_229 : zD cX5_told 229 .ireturn 1 230 := ⟨by decide +kernel, rfl⟩
theorem dX5_ofShape_0 : zD cX5_ofShape 0 (.aload_n 0) 1 1 := ⟨by decide +kernel, rfl⟩
theorem dX5_ofShape_1 : zD cX5_ofShape 1 (.getfield 10) 3 4 := ⟨by decide +kernel, rfl⟩
theorem dX5_ofShape_4 : zD cX5_ofShape 4 (.iload_n 1) 1 5 := ⟨by decide +kernel, rfl⟩
theorem dX5_ofShape_5 : zD cX5_ofShape 5 (.invokevirtual 90) 3 8 := ⟨by decide +kernel, rfl⟩
theorem dX5_ofShape_8 : zD cX5_ofShape 8 (.ifCond .ne 6) 3 11 := ⟨by decide +kernel, rfl⟩
theorem dX5_ofShape_11 : zD cX5_ofShape 11 (.ldc 94) 2 13 := ⟨by decide +kernel, rfl⟩
theorem dX5_ofShape_13 : zD cX5_ofShape 13 .ireturn 1 14 := ⟨by decide +kernel, rfl⟩
theorem dX5_ofShape_14 : zD cX5_ofShape 14 (.iload_n 2) 1 15 := ⟨by decide +kernel, rfl⟩
theorem dX5_ofShape_15 : zD cX5_ofShape 15 (.ifCond .lt 9) 3 18 := ⟨by decide +kernel, rfl⟩
theorem dX5_ofShape_18 : zD cX5_ofShape 18 (.iload_n 2) 1 19 := ⟨by decide +kernel, rfl⟩
theorem dX5_ofShape_19 : zD cX5_ofShape 19 (.bipush 8) 2 21 := ⟨by decide +kernel, rfl⟩
theorem dX5_ofShape_21 : zD cX5_ofShape 21 (.if_icmp .le 6) 3 24 := ⟨by decide +kernel, rfl⟩
theorem dX5_ofShape_24 : zD cX5_ofShape 24 (.ldc 129) 2 26 := ⟨by decide +kernel, rfl⟩
theorem dX5_ofShape_26 : zD cX5_ofShape 26 .ireturn 1 27 := ⟨by decide +kernel, rfl⟩
theorem dX5_ofShape_27 : zD cX5_ofShape 27 (.aload_n 0) 1 28 := ⟨by decide +kernel, rfl⟩
theorem dX5_ofShape_28 : zD cX5_ofShape 28 (.getfield 10) 3 31 := ⟨by decide +kernel, rfl⟩
theorem dX5_ofShape_31 : zD cX5_ofShape 31 (.getfield 115) 3 34 := ⟨by decide +kernel, rfl⟩
theorem dX5_ofShape_34 : zD cX5_ofShape 34 (.iload_n 1) 1 35 := ⟨by decide +kernel, rfl⟩
theorem dX5_ofShape_35 : zD cX5_ofShape 35 .iaload 1 36 := ⟨by decide +kernel, rfl⟩
theorem dX5_ofShape_36 : zD cX5_ofShape 36 (.istore_n 3) 1 37 := ⟨by decide +kernel, rfl⟩
theorem dX5_ofShape_37 : zD cX5_ofShape 37 (.iload_n 2) 1 38 := ⟨by decide +kernel, rfl⟩
theorem dX5_ofShape_38 : zD cX5_ofShape 38 (.tableswitch 114 0 7 #[46, 56, 66, 76, 86, 95, 100, 109]) 46 84 := ⟨by decide +kernel, rfl⟩
theorem dX5_ofShape_84 : zD cX5_ofShape 84 (.aload_n 0) 1 85 := ⟨by decide +kernel, rfl⟩
theorem dX5_ofShape_85 : zD cX5_ofShape 85 (.getfield 10) 3 88 := ⟨by decide +kernel, rfl⟩
theorem dX5_ofShape_88 : zD cX5_ofShape 88 (.getfield 214) 3 91 := ⟨by decide +kernel, rfl⟩
theorem dX5_ofShape_91 : zD cX5_ofShape 91 (.iload_n 1) 1 92 := ⟨by decide +kernel, rfl⟩
theorem dX5_ofShape_92 : zD cX5_ofShape 92 .iaload 1 93 := ⟨by decide +kernel, rfl⟩
theorem dX5_ofShape_93 : zD cX5_ofShape 93 .ireturn 1 94 := ⟨by decide +kernel, rfl⟩
theorem dX5_ofShape_94 : zD cX5_ofShape 94 (.aload_n 0) 1 95 := ⟨by decide +kernel, rfl⟩
theorem dX5_ofShape_95 : zD cX5_ofShape 95 (.getfield 10) 3 98 := ⟨by decide +kernel, rfl⟩
theorem dX5_ofShape_98 : zD cX5_ofShape 98 (.getfield 217) 3 101 := ⟨by decide +kernel, rfl⟩
theorem dX5_ofShape_101 : zD cX5_ofShape 101 (.iload_n 1) 1 102 := ⟨by decide +kernel, rfl⟩
theorem dX5_ofShape_102 : zD cX5_ofShape 102 .iaload 1 103 := ⟨by decide +kernel, rfl⟩
theorem dX5_ofShape_103 : zD cX5_ofShape 103 .ireturn 1 104 := ⟨by decide +kernel, rfl⟩
theorem dX5_ofShape_104 : zD cX5_ofShape 104 (.aload_n 0) 1 105 := ⟨by decide +kernel, rfl⟩
theorem dX5_ofShape_105 : zD cX5_ofShape 105 (.getfield 10) 3 108 := ⟨by decide +kernel, rfl⟩
theorem dX5_ofShape_108 : zD cX5_ofShape 108 (.getfield 220) 3 111 := ⟨by decide +kernel, rfl⟩
theorem dX5_ofShape_111 : zD cX5_ofShape 111 (.iload_n 1) 1 112 := ⟨by decide +kernel, rfl⟩
theorem dX5_ofShape_112 : zD cX5_ofShape 112 .iaload 1 113 := ⟨by decide +kernel, rfl⟩
theorem dX5_ofShape_113 : zD cX5_ofShape 113 .ireturn 1 114 := ⟨by decide +kernel, rfl⟩
theorem dX5_ofShape_114 : zD cX5_ofShape 114 (.aload_n 0) 1 115 := ⟨by decide +kernel, rfl⟩
theorem dX5_ofShape_115 : zD cX5_ofShape 115 (.getfield 10) 3 118 := ⟨by decide +kernel, rfl⟩
theorem dX5_ofShape_118 : zD cX5_ofShape 118 (.getfield 223) 3 121 := ⟨by decide +kernel, rfl⟩
theorem dX5_ofShape_121 : zD cX5_ofShape 121 (.iload_n 1) 1 122 := ⟨by decide +kernel, rfl⟩
theorem dX5_ofShape_122 : zD cX5_ofShape 122 .iaload 1 123 := ⟨by decide +kernel, rfl⟩
theorem dX5_ofShape_123 : zD cX5_ofShape 123 .ireturn 1 124 := ⟨by decide +kernel, rfl⟩
theorem dX5_ofShape_124 : zD cX5_ofShape 124 (.aload_n 0) 1 125 := ⟨by decide +kernel, rfl⟩
theorem dX5_ofShape_125 : zD cX5_ofShape 125 (.getfield 10) 3 128 := ⟨by decide +kernel, rfl⟩
theorem dX5_ofShape_128 : zD cX5_ofShape 128 (.iload_n 1) 1 129 := ⟨by decide +kernel, rfl⟩
theorem dX5_ofShape_129 : zD cX5_ofShape 129 (.invokevirtual 107) 3 132 := ⟨by decide +kernel, rfl⟩
theorem dX5_ofShape_132 : zD cX5_ofShape 132 .ireturn 1 133 := ⟨by decide +kernel, rfl⟩
theorem dX5_ofShape_133 : zD cX5_ofShape 133 (.iload_n 3) 1 134 := ⟨by decide +kernel, rfl⟩
theorem dX5_ofShape_134 : zD cX5_ofShape 134 (.invokestatic 226) 3 137 := ⟨by decide +kernel, rfl⟩
theorem dX5_ofShape_137 : zD cX5_ofShape 137 .ireturn 1 138 := ⟨by decide +kernel, rfl⟩
theorem dX5_ofShape_138 : zD cX5_ofShape 138 (.aload_n 0) 1 139 := ⟨by decide +kernel, rfl⟩
theorem dX5_ofShape_139 : zD cX5_ofShape 139 (.getfield 10) 3 142 := ⟨by decide +kernel, rfl⟩
theorem dX5_ofShape_142 : zD cX5_ofShape 142 (.iload_n 1) 1 143 := ⟨by decide +kernel, rfl⟩
theorem dX5_ofShape_143 : zD cX5_ofShape 143 (.invokevirtual 231) 3 146 := ⟨by decide +kernel, rfl⟩
theorem dX5_ofShape_146 : zD cX5_ofShape 146 .ireturn 1 147 := ⟨by decide +kernel, rfl⟩
theorem dX5_ofShape_147 : zD cX5_ofShape 147 (.iload_n 3) 1 148 := ⟨by decide +kernel, rfl⟩
theorem dX5_ofShape_148 : zD cX5_ofShape 148 (.invokestatic 234) 3 151 := ⟨by decide +kernel, rfl⟩
theorem dX5_ofShape_151 : zD cX5_ofShape 151 .ireturn 1 152 := ⟨by decide +kernel, rfl⟩
theorem dX5_ofShape_152 : zD cX5_ofShape 152 (.iload_n 3) 1 153 := ⟨by decide +kernel, rfl⟩
theorem dX5_ofShape_153 : zD cX5_ofShape 153 (.invokestatic 237) 3 156 := ⟨by decide +kernel, rfl⟩
theorem dX5_ofShape_156 : zD cX5_ofShape 156 (.invokestatic 234) 3 159 := ⟨by decide +kernel, rfl⟩
theorem dX5_ofShape_159 : zD cX5_ofShape 159 .ireturn 1 160 := ⟨by decide +kernel, rfl⟩
theorem dX5_ofPiece_0 : zD cX5_ofPiece 0 (.aload_n 0) 1 1 := ⟨by decide +kernel, rfl⟩
theorem dX5_ofPiece_1 : zD cX5_ofPiece 1 (.getfield 19) 3 4 := ⟨by decide +kernel, rfl⟩
theorem dX5_ofPiece_4 : zD cX5_ofPiece 4 (.iload_n 1) 1 5 := ⟨by decide +kernel, rfl⟩
theorem dX5_ofPiece_5 : zD cX5_ofPiece 5 (.invokevirtual 140) 3 8 := ⟨by decide +kernel, rfl⟩
theorem dX5_ofPiece_8 : zD cX5_ofPiece 8 (.ifCond .ne 6) 3 11 := ⟨by decide +kernel, rfl⟩
theorem dX5_ofPiece_11 : zD cX5_ofPiece 11 (.ldc 94) 2 13 := ⟨by decide +kernel, rfl⟩
theorem dX5_ofPiece_13 : zD cX5_ofPiece 13 .ireturn 1 14 := ⟨by decide +kernel, rfl⟩
theorem dX5_ofPiece_14 : zD cX5_ofPiece 14 (.iload_n 2) 1 15 := ⟨by decide +kernel, rfl⟩
theorem dX5_ofPiece_15 : zD cX5_ofPiece 15 (.ifCond .lt 9) 3 18 := ⟨by decide +kernel, rfl⟩
theorem dX5_ofPiece_18 : zD cX5_ofPiece 18 (.iload_n 2) 1 19 := ⟨by decide +kernel, rfl⟩
theorem dX5_ofPiece_19 : zD cX5_ofPiece 19 (.bipush 7) 2 21 := ⟨by decide +kernel, rfl⟩
theorem dX5_ofPiece_21 : zD cX5_ofPiece 21 (.if_icmp .le 6) 3 24 := ⟨by decide +kernel, rfl⟩
theorem dX5_ofPiece_24 : zD cX5_ofPiece 24 (.ldc 129) 2 26 := ⟨by decide +kernel, rfl⟩
theorem dX5_ofPiece_26 : zD cX5_ofPiece 26 .ireturn 1 27 := ⟨by decide +kernel, rfl⟩
theorem dX5_ofPiece_27 : zD cX5_ofPiece 27 (.iload_n 2) 1 28 := ⟨by decide +kernel, rfl⟩
theorem dX5_ofPiece_28 : zD cX5_ofPiece 28 (.tableswitch 115 0 6 #[44, 54, 64, 74, 84, 96, 105]) 44 72 := ⟨by decide +kernel, rfl⟩
theorem dX5_ofPiece_72 : zD cX5_ofPiece 72 (.aload_n 0) 1 73 := ⟨by decide +kernel, rfl⟩
theorem dX5_ofPiece_73 : zD cX5_ofPiece 73 (.getfield 19) 3 76 := ⟨by decide +kernel, rfl⟩
theorem dX5_ofPiece_76 : zD cX5_ofPiece 76 (.getfield 240) 3 79 := ⟨by decide +kernel, rfl⟩
theorem dX5_ofPiece_79 : zD cX5_ofPiece 79 (.iload_n 1) 1 80 := ⟨by decide +kernel, rfl⟩
theorem dX5_ofPiece_80 : zD cX5_ofPiece 80 .iaload 1 81 := ⟨by decide +kernel, rfl⟩
theorem dX5_ofPiece_81 : zD cX5_ofPiece 81 .ireturn 1 82 := ⟨by decide +kernel, rfl⟩
theorem dX5_ofPiece_82 : zD cX5_ofPiece 82 (.aload_n 0) 1 83 := ⟨by decide +kernel, rfl⟩
theorem dX5_ofPiece_83 : zD cX5_ofPiece 83 (.getfield 19) 3 86 := ⟨by decide +kernel, rfl⟩
theorem dX5_ofPiece_86 : zD cX5_ofPiece 86 (.getfield 243) 3 89 := ⟨by decide +kernel, rfl⟩
theorem dX5_ofPiece_89 : zD cX5_ofPiece 89 (.iload_n 1) 1 90 := ⟨by decide +kernel, rfl⟩
theorem dX5_ofPiece_90 : zD cX5_ofPiece 90 .iaload 1 91 := ⟨by decide +kernel, rfl⟩
theorem dX5_ofPiece_91 : zD cX5_ofPiece 91 .ireturn 1 92 := ⟨by decide +kernel, rfl⟩
theorem dX5_ofPiece_92 : zD cX5_ofPiece 92 (.aload_n 0) 1 93 := ⟨by decide +kernel, rfl⟩
theorem dX5_ofPiece_93 : zD cX5_ofPiece 93 (.getfield 19) 3 96 := ⟨by decide +kernel, rfl⟩
theorem dX5_ofPiece_96 : zD cX5_ofPiece 96 (.getfield 244) 3 99 := ⟨by decide +kernel, rfl⟩
theorem dX5_ofPiece_99 : zD cX5_ofPiece 99 (.iload_n 1) 1 100 := ⟨by decide +kernel, rfl⟩
theorem dX5_ofPiece_100 : zD cX5_ofPiece 100 .iaload 1 101 := ⟨by decide +kernel, rfl⟩
theorem dX5_ofPiece_101 : zD cX5_ofPiece 101 .ireturn 1 102 := ⟨by decide +kernel, rfl⟩
theorem dX5_ofPiece_102 : zD cX5_ofPiece 102 (.aload_n 0) 1 103 := ⟨by decide +kernel, rfl⟩
theorem dX5_ofPiece_103 : zD cX5_ofPiece 103 (.getfield 19) 3 106 := ⟨by decide +kernel, rfl⟩
theorem dX5_ofPiece_106 : zD cX5_ofPiece 106 (.getfield 245) 3 109 := ⟨by decide +kernel, rfl⟩
theorem dX5_ofPiece_109 : zD cX5_ofPiece 109 (.iload_n 1) 1 110 := ⟨by decide +kernel, rfl⟩
theorem dX5_ofPiece_110 : zD cX5_ofPiece 110 .iaload 1 111 := ⟨by decide +kernel, rfl⟩
theorem dX5_ofPiece_111 : zD cX5_ofPiece 111 .ireturn 1 112 := ⟨by decide +kernel, rfl⟩
theorem dX5_ofPiece_112 : zD cX5_ofPiece 112 (.aload_n 0) 1 113 := ⟨by decide +kernel, rfl⟩
theorem dX5_ofPiece_113 : zD cX5_ofPiece 113 (.invokevirtual 150) 3 116 := ⟨by decide +kernel, rfl⟩
theorem dX5_ofPiece_116 : zD cX5_ofPiece 116 (.getfield 248) 3 119 := ⟨by decide +kernel, rfl⟩
theorem dX5_ofPiece_119 : zD cX5_ofPiece 119 (.iload_n 1) 1 120 := ⟨by decide +kernel, rfl⟩
theorem dX5_ofPiece_120 : zD cX5_ofPiece 120 .ishr 1 121 := ⟨by decide +kernel, rfl⟩
theorem dX5_ofPiece_121 : zD cX5_ofPiece 121 (.iconst 1) 1 122 := ⟨by decide +kernel, rfl⟩
theorem dX5_ofPiece_122 : zD cX5_ofPiece 122 .iand 1 123 := ⟨by decide +kernel, rfl⟩
theorem dX5_ofPiece_123 : zD cX5_ofPiece 123 .ireturn 1 124 := ⟨by decide +kernel, rfl⟩
theorem dX5_ofPiece_124 : zD cX5_ofPiece 124 (.aload_n 0) 1 125 := ⟨by decide +kernel, rfl⟩
theorem dX5_ofPiece_125 : zD cX5_ofPiece 125 (.getfield 10) 3 128 := ⟨by decide +kernel, rfl⟩
theorem dX5_ofPiece_128 : zD cX5_ofPiece 128 (.iload_n 1) 1 129 := ⟨by decide +kernel, rfl⟩
theorem dX5_ofPiece_129 : zD cX5_ofPiece 129 (.invokevirtual 143) 3 132 := ⟨by decide +kernel, rfl⟩
theorem dX5_ofPiece_132 : zD cX5_ofPiece 132 .ireturn 1 133 := ⟨by decide +kernel, rfl⟩
theorem dX5_ofPiece_133 : zD cX5_ofPiece 133 (.aload_n 0) 1 134 := ⟨by decide +kernel, rfl⟩
theorem dX5_ofPiece_134 : zD cX5_ofPiece 134 (.getfield 19) 3 137 := ⟨by decide +kernel, rfl⟩
theorem dX5_ofPiece_137 : zD cX5_ofPiece 137 (.getfield 251) 3 140 := ⟨by decide +kernel, rfl⟩
theorem dX5_ofPiece_140 : zD cX5_ofPiece 140 (.iload_n 1) 1 141 := ⟨by decide +kernel, rfl⟩
theorem dX5_ofPiece_141 : zD cX5_ofPiece 141 .iaload 1 142 := ⟨by decide +kernel, rfl⟩
theorem dX5_ofPiece_142 : zD cX5_ofPiece 142 .ireturn 1 143 := ⟨by decide +kernel, rfl⟩
theorem dX5_ofPiece_143 : zD cX5_ofPiece 143 (.aload_n 0) 1 144 := ⟨by decide +kernel, rfl⟩
theorem dX5_ofPiece_144 : zD cX5_ofPiece 144 (.getfield 28) 3 147 := ⟨by decide +kernel, rfl⟩
theorem dX5_ofPiece_147 : zD cX5_ofPiece 147 (.iload_n 1) 1 148 := ⟨by decide +kernel, rfl⟩
theorem dX5_ofPiece_148 : zD cX5_ofPiece 148 (.invokevirtual 254) 3 151 := ⟨by decide +kernel, rfl⟩
theorem dX5_ofPiece_151 : zD cX5_ofPiece 151 .ireturn 1 152 := ⟨by decide +kernel, rfl⟩
theorem dX5_gap_0 : zD cX5_gap 0 (.aload_n 0) 1 1 := ⟨by decide +kernel, rfl⟩
theorem dX5_gap_1 : zD cX5_gap 1 (.iload_n 1) 1 2 := ⟨by decide +kernel, rfl⟩
theorem dX5_gap_2 : zD cX5_gap 2 (.iload_n 2) 1 3 := ⟨by decide +kernel, rfl⟩
theorem dX5_gap_3 : zD cX5_gap 3 (.invokevirtual 257) 3 6 := ⟨by decide +kernel, rfl⟩
theorem dX5_gap_6 : zD cX5_gap 6 (.ifCond .ne 6) 3 9 := ⟨by decide +kernel, rfl⟩
theorem dX5_gap_9 : zD cX5_gap 9 (.ldc 94) 2 11 := ⟨by decide +kernel, rfl⟩
theorem dX5_gap_11 : zD cX5_gap 11 .ireturn 1 12 := ⟨by decide +kernel, rfl⟩
theorem dX5_gap_12 : zD cX5_gap 12 (.aload_n 0) 1 13 := ⟨by decide +kernel, rfl⟩
theorem dX5_gap_13 : zD cX5_gap 13 (.getfield 19) 3 16 := ⟨by decide +kernel, rfl⟩
theorem dX5_gap_16 : zD cX5_gap 16 (.iload_n 1) 1 17 := ⟨by decide +kernel, rfl⟩
theorem dX5_gap_17 : zD cX5_gap 17 (.iload_n 2) 1 18 := ⟨by decide +kernel, rfl⟩
theorem dX5_gap_18 : zD cX5_gap 18 (.invokevirtual 260) 3 21 := ⟨by decide +kernel, rfl⟩
theorem dX5_gap_21 : zD cX5_gap 21 .ireturn 1 22 := ⟨by decide +kernel, rfl⟩
theorem dX5_at_0 : zD cX5_at 0 (.iload_n 1) 1 1 := ⟨by decide +kernel, rfl⟩
theorem dX5_at_1 : zD cX5_at 1 (.invokestatic 263) 3 4 := ⟨by decide +kernel, rfl⟩
theorem dX5_at_4 : zD cX5_at 4 (.ifCond .eq 10) 3 7 := ⟨by decide +kernel, rfl⟩
theorem dX5_at_7 : zD cX5_at 7 (.iload_n 2) 1 8 := ⟨by decide +kernel, rfl⟩
theorem dX5_at_8 : zD cX5_at 8 (.invokestatic 263) 3 11 := ⟨by decide +kernel, rfl⟩
theorem dX5_at_11 : zD cX5_at 11 (.ifCond .ne 6) 3 14 := ⟨by decide +kernel, rfl⟩
theorem dX5_at_14 : zD cX5_at 14 (.ldc 129) 2 16 := ⟨by decide +kernel, rfl⟩
theorem dX5_at_16 : zD cX5_at 16 .ireturn 1 17 := ⟨by decide +kernel, rfl⟩
theorem dX5_at_17 : zD cX5_at 17 (.aload_n 0) 1 18 := ⟨by decide +kernel, rfl⟩
theorem dX5_at_18 : zD cX5_at 18 (.getfield 19) 3 21 := ⟨by decide +kernel, rfl⟩
theorem dX5_at_21 : zD cX5_at 21 (.iload_n 1) 1 22 := ⟨by decide +kernel, rfl⟩
theorem dX5_at_22 : zD cX5_at 22 (.iload_n 2) 1 23 := ⟨by decide +kernel, rfl⟩
theorem dX5_at_23 : zD cX5_at 23 (.invokevirtual 266) 3 26 := ⟨by decide +kernel, rfl⟩
theorem dX5_at_26 : zD cX5_at 26 .ireturn 1 27 := ⟨by decide +kernel, rfl⟩
theorem dX5_judge_0 : zD cX5_judge 0 (.iload_n 1) 1 1 := ⟨by decide +kernel, rfl⟩
theorem dX5_judge_1 : zD cX5_judge 1 (.ifCond .lt 14) 3 4 := ⟨by decide +kernel, rfl⟩
theorem dX5_judge_4 : zD cX5_judge 4 (.iload_n 1) 1 5 := ⟨by decide +kernel, rfl⟩
theorem dX5_judge_5 : zD cX5_judge 5 (.aload_n 0) 1 6 := ⟨by decide +kernel, rfl⟩
theorem dX5_judge_6 : zD cX5_judge 6 (.getfield 19) 3 9 := ⟨by decide +kernel, rfl⟩
theorem dX5_judge_9 : zD cX5_judge 9 (.invokevirtual 269) 3 12 := ⟨by decide +kernel, rfl⟩
theorem dX5_judge_12 : zD cX5_judge 12 (.if_icmp .le 6) 3 15 := ⟨by decide +kernel, rfl⟩
theorem dX5_judge_15 : zD cX5_judge 15 (.ldc 129) 2 17 := ⟨by decide +kernel, rfl⟩
theorem dX5_judge_17 : zD cX5_judge 17 .ireturn 1 18 := ⟨by decide +kernel, rfl⟩
theorem dX5_judge_18 : zD cX5_judge 18 (.aload_n 0) 1 19 := ⟨by decide +kernel, rfl⟩
theorem dX5_judge_19 : zD cX5_judge 19 (.getfield 19) 3 22 := ⟨by decide +kernel, rfl⟩
theorem dX5_judge_22 : zD cX5_judge 22 (.iload_n 1) 1 23 := ⟨by decide +kernel, rfl⟩
theorem dX5_judge_23 : zD cX5_judge 23 (.invokevirtual 272) 3 26 := ⟨by decide +kernel, rfl⟩
theorem dX5_judge_26 : zD cX5_judge 26 .ireturn 1 27 := ⟨by decide +kernel, rfl⟩
theorem dX5_wouldCut_0 : zD cX5_wouldCut 0 (.aload_n 0) 1 1 := ⟨by decide +kernel, rfl⟩
theorem dX5_wouldCut_1 : zD cX5_wouldCut 1 (.getfield 10) 3 4 := ⟨by decide +kernel, rfl⟩
theorem dX5_wouldCut_4 : zD cX5_wouldCut 4 (.iload_n 1) 1 5 := ⟨by decide +kernel, rfl⟩
theorem dX5_wouldCut_5 : zD cX5_wouldCut 5 (.iload_n 2) 1 6 := ⟨by decide +kernel, rfl⟩
theorem dX5_wouldCut_6 : zD cX5_wouldCut 6 (.invokevirtual 111) 3 9 := ⟨by decide +kernel, rfl⟩
theorem dX5_wouldCut_9 : zD cX5_wouldCut 9 (.istore_n 3) 1 10 := ⟨by decide +kernel, rfl⟩
theorem dX5_wouldCut_10 : zD cX5_wouldCut 10 (.iload_n 3) 1 11 := ⟨by decide +kernel, rfl⟩
theorem dX5_wouldCut_11 : zD cX5_wouldCut 11 (.ldc 146) 2 13 := ⟨by decide +kernel, rfl⟩
theorem dX5_wouldCut_13 : zD cX5_wouldCut 13 (.if_icmp .eq 10) 3 16 := ⟨by decide +kernel, rfl⟩
theorem dX5_wouldCut_16 : zD cX5_wouldCut 16 (.iload_n 3) 1 17 := ⟨by decide +kernel, rfl⟩
theorem dX5_wouldCut_17 : zD cX5_wouldCut 17 (.ldc_w 275) 3 20 := ⟨by decide +kernel, rfl⟩
theorem dX5_wouldCut_20 : zD cX5_wouldCut 20 (.if_icmp .ne 5) 3 23 := ⟨by decide +kernel, rfl⟩
theorem dX5_wouldCut_23 : zD cX5_wouldCut 23 (.iconst (-1)) 1 24 := ⟨by decide +kernel, rfl⟩
theorem dX5_wouldCut_24 : zD cX5_wouldCut 24 .ireturn 1 25 := ⟨by decide +kernel, rfl⟩
theorem dX5_wouldCut_25 : zD cX5_wouldCut 25 (.iload_n 3) 1 26 := ⟨by decide +kernel, rfl⟩
theorem dX5_wouldCut_26 : zD cX5_wouldCut 26 (.ifCond .eq 5) 3 29 := ⟨by decide +kernel, rfl⟩
theorem dX5_wouldCut_29 : zD cX5_wouldCut 29 (.iload_n 3) 1 30 := ⟨by decide +kernel, rfl⟩
theorem dX5_wouldCut_30 : zD cX5_wouldCut 30 .ireturn 1 31 := ⟨by decide +kernel, rfl⟩
theorem dX5_wouldCut_31 : zD cX5_wouldCut 31 (.aload_n 0) 1 32 := ⟨by decide +kernel, rfl⟩
theorem dX5_wouldCut_32 : zD cX5_wouldCut 32 (.getfield 43) 3 35 := ⟨by decide +kernel, rfl⟩
theorem dX5_wouldCut_35 : zD cX5_wouldCut 35 (.aload_n 0) 1 36 := ⟨by decide +kernel, rfl⟩
theorem dX5_wouldCut_36 : zD cX5_wouldCut 36 (.getfield 10) 3 39 := ⟨by decide +kernel, rfl⟩
theorem dX5_wouldCut_39 : zD cX5_wouldCut 39 (.invokevirtual 276) 3 42 := ⟨by decide +kernel, rfl⟩
theorem dX5_wouldCut_42 : zD cX5_wouldCut 42 (.aload_n 0) 1 43 := ⟨by decide +kernel, rfl⟩
theorem dX5_wouldCut_43 : zD cX5_wouldCut 43 (.getfield 43) 3 46 := ⟨by decide +kernel, rfl⟩
theorem dX5_wouldCut_46 : zD cX5_wouldCut 46 (.getfield 115) 3 49 := ⟨by decide +kernel, rfl⟩
theorem dX5_wouldCut_49 : zD cX5_wouldCut 49 (.iload_n 1) 1 50 := ⟨by decide +kernel, rfl⟩
theorem dX5_wouldCut_50 : zD cX5_wouldCut 50 .dup2 1 51 := ⟨by decide +kernel, rfl⟩
theorem dX5_wouldCut_51 : zD cX5_wouldCut 51 .iaload 1 52 := ⟨by decide +kernel, rfl⟩
theorem dX5_wouldCut_52 : zD cX5_wouldCut 52 (.iconst 1) 1 53 := ⟨by decide +kernel, rfl⟩
theorem dX5_wouldCut_53 : zD cX5_wouldCut 53 (.iload_n 2) 1 54 := ⟨by decide +kernel, rfl⟩
theorem dX5_wouldCut_54 : zD cX5_wouldCut 54 .ishl 1 55 := ⟨by decide +kernel, rfl⟩
theorem dX5_wouldCut_55 : zD cX5_wouldCut 55 .ior 1 56 := ⟨by decide +kernel, rfl⟩
theorem dX5_wouldCut_56 : zD cX5_wouldCut 56 .iastore 1 57 := ⟨by decide +kernel, rfl⟩
theorem dX5_wouldCut_57 : zD cX5_wouldCut 57 (.aload_n 0) 1 58 := ⟨by decide +kernel, rfl⟩
theorem dX5_wouldCut_58 : zD cX5_wouldCut 58 (.invokevirtual 279) 3 61 := ⟨by decide +kernel, rfl⟩
theorem dX5_wouldCut_61 : zD cX5_wouldCut 61 .ireturn 1 62 := ⟨by decide +kernel, rfl⟩
theorem dX5_wouldMove_0 : zD cX5_wouldMove 0 (.aload_n 0) 1 1 := ⟨by decide +kernel, rfl⟩
theorem dX5_wouldMove_1 : zD cX5_wouldMove 1 (.getfield 10) 3 4 := ⟨by decide +kernel, rfl⟩
theorem dX5_wouldMove_4 : zD cX5_wouldMove 4 (.iload_n 1) 1 5 := ⟨by decide +kernel, rfl⟩
theorem dX5_wouldMove_5 : zD cX5_wouldMove 5 (.iload_n 2) 1 6 := ⟨by decide +kernel, rfl⟩
theorem dX5_wouldMove_6 : zD cX5_wouldMove 6 (.iload_n 3) 1 7 := ⟨by decide +kernel, rfl⟩
theorem dX5_wouldMove_7 : zD cX5_wouldMove 7 (.invokevirtual 99) 3 10 := ⟨by decide +kernel, rfl⟩
theorem dX5_wouldMove_10 : zD cX5_wouldMove 10 (.istore 4) 2 12 := ⟨by decide +kernel, rfl⟩
theorem dX5_wouldMove_12 : zD cX5_wouldMove 12 (.iload 4) 2 14 := ⟨by decide +kernel, rfl⟩
theorem dX5_wouldMove_14 : zD cX5_wouldMove 14 (.ldc 146) 2 16 := ⟨by decide +kernel, rfl⟩
theorem dX5_wouldMove_16 : zD cX5_wouldMove 16 (.if_icmp .ne 5) 3 19 := ⟨by decide +kernel, rfl⟩
theorem dX5_wouldMove_19 : zD cX5_wouldMove 19 (.iconst (-1)) 1 20 := ⟨by decide +kernel, rfl⟩
theorem dX5_wouldMove_20 : zD cX5_wouldMove 20 .ireturn 1 21 := ⟨by decide +kernel, rfl⟩
theorem dX5_wouldMove_21 : zD cX5_wouldMove 21 (.iload 4) 2 23 := ⟨by decide +kernel, rfl⟩
theorem dX5_wouldMove_23 : zD cX5_wouldMove 23 (.ifCond .eq 6) 3 26 := ⟨by decide +kernel, rfl⟩
theorem dX5_wouldMove_26 : zD cX5_wouldMove 26 (.iload 4) 2 28 := ⟨by decide +kernel, rfl⟩
theorem dX5_wouldMove_28 : zD cX5_wouldMove 28 .ireturn 1 29 := ⟨by decide +kernel, rfl⟩
theorem dX5_wouldMove_29 : zD cX5_wouldMove 29 (.aload_n 0) 1 30 := ⟨by decide +kernel, rfl⟩
theorem dX5_wouldMove_30 : zD cX5_wouldMove 30 (.getfield 43) 3 33 := ⟨by decide +kernel, rfl⟩
theorem dX5_wouldMove_33 : zD cX5_wouldMove 33 (.aload_n 0) 1 34 := ⟨by decide +kernel, rfl⟩
theorem dX5_wouldMove_34 : zD cX5_wouldMove 34 (.getfield 10) 3 37 := ⟨by decide +kernel, rfl⟩
theorem dX5_wouldMove_37 : zD cX5_wouldMove 37 (.invokevirtual 276) 3 40 := ⟨by decide +kernel, rfl⟩
theorem dX5_wouldMove_40 : zD cX5_wouldMove 40 (.aload_n 0) 1 41 := ⟨by decide +kernel, rfl⟩
theorem dX5_wouldMove_41 : zD cX5_wouldMove 41 (.getfield 43) 3 44 := ⟨by decide +kernel, rfl⟩
theorem dX5_wouldMove_44 : zD cX5_wouldMove 44 (.iload_n 1) 1 45 := ⟨by decide +kernel, rfl⟩
theorem dX5_wouldMove_45 : zD cX5_wouldMove 45 (.iload_n 2) 1 46 := ⟨by decide +kernel, rfl⟩
theorem dX5_wouldMove_46 : zD cX5_wouldMove 46 (.iload_n 3) 1 47 := ⟨by decide +kernel, rfl⟩
theorem dX5_wouldMove_47 : zD cX5_wouldMove 47 (.invokevirtual 103) 3 50 := ⟨by decide +kernel, rfl⟩
theorem dX5_wouldMove_50 : zD cX5_wouldMove 50 (.aload_n 0) 1 51 := ⟨by decide +kernel, rfl⟩
theorem dX5_wouldMove_51 : zD cX5_wouldMove 51 (.invokevirtual 279) 3 54 := ⟨by decide +kernel, rfl⟩
theorem dX5_wouldMove_54 : zD cX5_wouldMove 54 .ireturn 1 55 := ⟨by decide +kernel, rfl⟩
theorem dX5_pair_0 : zD cX5_pair 0 (.aload_n 0) 1 1 := ⟨by decide +kernel, rfl⟩
theorem dX5_pair_1 : zD cX5_pair 1 (.iload_n 1) 1 2 := ⟨by decide +kernel, rfl⟩
theorem dX5_pair_2 : zD cX5_pair 2 (.iload_n 2) 1 3 := ⟨by decide +kernel, rfl⟩
theorem dX5_pair_3 : zD cX5_pair 3 (.invokevirtual 257) 3 6 := ⟨by decide +kernel, rfl⟩
theorem dX5_pair_6 : zD cX5_pair 6 (.ifCond .ne 6) 3 9 := ⟨by decide +kernel, rfl⟩
theorem dX5_pair_9 : zD cX5_pair 9 (.ldc 94) 2 11 := ⟨by decide +kernel, rfl⟩
theorem dX5_pair_11 : zD cX5_pair 11 .ireturn 1 12 := ⟨by decide +kernel, rfl⟩
theorem dX5_pair_12 : zD cX5_pair 12 (.iconst (-1)) 1 13 := ⟨by decide +kernel, rfl⟩
theorem dX5_pair_13 : zD cX5_pair 13 (.istore 4) 2 15 := ⟨by decide +kernel, rfl⟩
theorem dX5_pair_15 : zD cX5_pair 15 (.iconst 0) 1 16 := ⟨by decide +kernel, rfl⟩
theorem dX5_pair_16 : zD cX5_pair 16 (.istore 5) 2 18 := ⟨by decide +kernel, rfl⟩
theorem dX5_pair_18 : zD cX5_pair 18 (.iload 5) 2 20 := ⟨by decide +kernel, rfl⟩
theorem dX5_pair_20 : zD cX5_pair 20 (.iconst 1) 1 21 := ⟨by decide +kernel, rfl⟩
theorem dX5_pair_21 : zD cX5_pair 21 (.if_icmp .gt 55) 3 24 := ⟨by decide +kernel, rfl⟩
theorem dX5_pair_24 : zD cX5_pair 24 (.aload_n 0) 1 25 := ⟨by decide +kernel, rfl⟩
theorem dX5_pair_25 : zD cX5_pair 25 (.iload_n 1) 1 26 := ⟨by decide +kernel, rfl⟩
theorem dX5_pair_26 : zD cX5_pair 26 (.iload 5) 2 28 := ⟨by decide +kernel, rfl⟩
theorem dX5_pair_28 : zD cX5_pair 28 (.iload_n 2) 1 29 := ⟨by decide +kernel, rfl⟩
theorem dX5_pair_29 : zD cX5_pair 29 (.iload_n 3) 1 30 := ⟨by decide +kernel, rfl⟩
theorem dX5_pair_30 : zD cX5_pair 30 (.ifCond .eq 8) 3 33 := ⟨by decide +kernel, rfl⟩
theorem dX5_pair_33 : zD cX5_pair 33 (.iload 5) 2 35 := ⟨by decide +kernel, rfl⟩
theorem dX5_pair_35 : zD cX5_pair 35 (.goto 7) 3 38 := ⟨by decide +kernel, rfl⟩
theorem dX5_pair_38 : zD cX5_pair 38 (.iconst 1) 1 39 := ⟨by decide +kernel, rfl⟩
theorem dX5_pair_39 : zD cX5_pair 39 (.iload 5) 2 41 := ⟨by decide +kernel, rfl⟩
theorem dX5_pair_41 : zD cX5_pair 41 .isub 1 42 := ⟨by decide +kernel, rfl⟩
theorem dX5_pair_42 : zD cX5_pair 42 (.invokevirtual 282) 3 45 := ⟨by decide +kernel, rfl⟩
theorem dX5_pair_45 : zD cX5_pair 45 (.istore 6) 2 47 := ⟨by decide +kernel, rfl⟩
theorem dX5_pair_47 : zD cX5_pair 47 (.iload 6) 2 49 := ⟨by decide +kernel, rfl⟩
theorem dX5_pair_49 : zD cX5_pair 49 (.iconst (-1)) 1 50 := ⟨by decide +kernel, rfl⟩
theorem dX5_pair_50 : zD cX5_pair 50 (.if_icmp .eq 20) 3 53 := ⟨by decide +kernel, rfl⟩
theorem dX5_pair_53 : zD cX5_pair 53 (.iload 4) 2 55 := ⟨by decide +kernel, rfl⟩
theorem dX5_pair_55 : zD cX5_pair 55 (.iconst (-1)) 1 56 := ⟨by decide +kernel, rfl⟩
theorem dX5_pair_56 : zD cX5_pair 56 (.if_icmp .eq 10) 3 59 := ⟨by decide +kernel, rfl⟩
theorem dX5_pair_59 : zD cX5_pair 59 (.iload 6) 2 61 := ⟨by decide +kernel, rfl⟩
theorem dX5_pair_61 : zD cX5_pair 61 (.iload 4) 2 63 := ⟨by decide +kernel, rfl⟩
theorem dX5_pair_63 : zD cX5_pair 63 (.if_icmp .ge 7) 3 66 := ⟨by decide +kernel, rfl⟩
theorem dX5_pair_66 : zD cX5_pair 66 (.iload 6) 2 68 := ⟨by decide +kernel, rfl⟩
theorem dX5_pair_68 : zD cX5_pair 68 (.istore 4) 2 70 := ⟨by decide +kernel, rfl⟩
theorem dX5_pair_70 : zD cX5_pair 70 (.iinc 5 1) 3 73 := ⟨by decide +kernel, rfl⟩
theorem dX5_pair_73 : zD cX5_pair 73 (.goto (-55)) 3 76 := ⟨by decide +kernel, rfl⟩
theorem dX5_pair_76 : zD cX5_pair 76 (.iload 4) 2 78 := ⟨by decide +kernel, rfl⟩
theorem dX5_pair_78 : zD cX5_pair 78 .ireturn 1 79 := ⟨by decide +kernel, rfl⟩
theorem dX5_keep_0 : zD cX5_keep 0 (.iload_n 1) 1 1 := ⟨by decide +kernel, rfl⟩
theorem dX5_keep_1 : zD cX5_keep 1 (.ifCond .ne 22) 3 4 := ⟨by decide +kernel, rfl⟩
theorem dX5_keep_4 : zD cX5_keep 4 (.aload_n 0) 1 5 := ⟨by decide +kernel, rfl⟩
theorem dX5_keep_5 : zD cX5_keep 5 (.getfield 59) 3 8 := ⟨by decide +kernel, rfl⟩
theorem dX5_keep_8 : zD cX5_keep 8 (.aload_n 0) 1 9 := ⟨by decide +kernel, rfl⟩
theorem dX5_keep_9 : zD cX5_keep 9 (.getfield 10) 3 12 := ⟨by decide +kernel, rfl⟩
theorem dX5_keep_12 : zD cX5_keep 12 (.invokevirtual 276) 3 15 := ⟨by decide +kernel, rfl⟩
theorem dX5_keep_15 : zD cX5_keep 15 (.aload_n 0) 1 16 := ⟨by decide +kernel, rfl⟩
theorem dX5_keep_16 : zD cX5_keep 16 (.iconst 1) 1 17 := ⟨by decide +kernel, rfl⟩
theorem dX5_keep_17 : zD cX5_keep 17 (.putfield 65) 3 20 := ⟨by decide +kernel, rfl⟩
theorem dX5_keep_20 : zD cX5_keep 20 (.goto 30) 3 23 := ⟨by decide +kernel, rfl⟩
theorem dX5_keep_23 : zD cX5_keep 23 (.iload_n 1) 1 24 := ⟨by decide +kernel, rfl⟩
theorem dX5_keep_24 : zD cX5_keep 24 (.iconst 1) 1 25 := ⟨by decide +kernel, rfl⟩
theorem dX5_keep_25 : zD cX5_keep 25 (.if_icmp .ne 22) 3 28 := ⟨by decide +kernel, rfl⟩
theorem dX5_keep_28 : zD cX5_keep 28 (.aload_n 0) 1 29 := ⟨by decide +kernel, rfl⟩
theorem dX5_keep_29 : zD cX5_keep 29 (.getfield 62) 3 32 := ⟨by decide +kernel, rfl⟩
theorem dX5_keep_32 : zD cX5_keep 32 (.aload_n 0) 1 33 := ⟨by decide +kernel, rfl⟩
theorem dX5_keep_33 : zD cX5_keep 33 (.getfield 10) 3 36 := ⟨by decide +kernel, rfl⟩
theorem dX5_keep_36 : zD cX5_keep 36 (.invokevirtual 276) 3 39 := ⟨by decide +kernel, rfl⟩
theorem dX5_keep_39 : zD cX5_keep 39 (.aload_n 0) 1 40 := ⟨by decide +kernel, rfl⟩
theorem dX5_keep_40 : zD cX5_keep 40 (.iconst 1) 1 41 := ⟨by decide +kernel, rfl⟩
theorem dX5_keep_41 : zD cX5_keep 41 (.putfield 68) 3 44 := ⟨by decide +kernel, rfl⟩
theorem dX5_keep_44 : zD cX5_keep 44 (.goto 6) 3 47 := ⟨by decide +kernel, rfl⟩
theorem dX5_keep_47 : zD cX5_keep 47 (.ldc 94) 2 49 := ⟨by decide +kernel, rfl⟩
theorem dX5_keep_49 : zD cX5_keep 49 .ireturn 1 50 := ⟨by decide +kernel, rfl⟩
theorem dX5_keep_50 : zD cX5_keep 50 (.aload_n 0) 1 51 := ⟨by decide +kernel, rfl⟩
theorem dX5_keep_51 : zD cX5_keep 51 (.getfield 55) 3 54 := ⟨by decide +kernel, rfl⟩
theorem dX5_keep_54 : zD cX5_keep 54 (.invokevirtual 285) 3 57 := ⟨by decide +kernel, rfl⟩
theorem dX5_keep_57 : zD cX5_keep 57 (.aload_n 0) 1 58 := ⟨by decide +kernel, rfl⟩
theorem dX5_keep_58 : zD cX5_keep 58 (.getfield 10) 3 61 := ⟨by decide +kernel, rfl⟩
theorem dX5_keep_61 : zD cX5_keep 61 (.getfield 86) 3 64 := ⟨by decide +kernel, rfl⟩
theorem dX5_keep_64 : zD cX5_keep 64 .ireturn 1 65 := ⟨by decide +kernel, rfl⟩
theorem dX5_goBack_0 : zD cX5_goBack 0 (.iload_n 1) 1 1 := ⟨by decide +kernel, rfl⟩
theorem dX5_goBack_1 : zD cX5_goBack 1 (.ifCond .eq 11) 3 4 := ⟨by decide +kernel, rfl⟩
theorem dX5_goBack_4 : zD cX5_goBack 4 (.iload_n 1) 1 5 := ⟨by decide +kernel, rfl⟩
theorem dX5_goBack_5 : zD cX5_goBack 5 (.iconst 1) 1 6 := ⟨by decide +kernel, rfl⟩
theorem dX5_goBack_6 : zD cX5_goBack 6 (.if_icmp .eq 6) 3 9 := ⟨by decide +kernel, rfl⟩
theorem dX5_goBack_9 : zD cX5_goBack 9 (.ldc 94) 2 11 := ⟨by decide +kernel, rfl⟩
theorem dX5_goBack_11 : zD cX5_goBack 11 .ireturn 1 12 := ⟨by decide +kernel, rfl⟩
theorem dX5_goBack_12 : zD cX5_goBack 12 (.iload_n 1) 1 13 := ⟨by decide +kernel, rfl⟩
theorem dX5_goBack_13 : zD cX5_goBack 13 (.ifCond .ne 13) 3 16 := ⟨by decide +kernel, rfl⟩
theorem dX5_goBack_16 : zD cX5_goBack 16 (.aload_n 0) 1 17 := ⟨by decide +kernel, rfl⟩
theorem dX5_goBack_17 : zD cX5_goBack 17 (.getfield 65) 3 20 := ⟨by decide +kernel, rfl⟩
theorem dX5_goBack_20 : zD cX5_goBack 20 (.ifCond .ne 16) 3 23 := ⟨by decide +kernel, rfl⟩
theorem dX5_goBack_23 : zD cX5_goBack 23 (.goto 10) 3 26 := ⟨by decide +kernel, rfl⟩
theorem dX5_goBack_26 : zD cX5_goBack 26 (.aload_n 0) 1 27 := ⟨by decide +kernel, rfl⟩
theorem dX5_goBack_27 : zD cX5_goBack 27 (.getfield 68) 3 30 := ⟨by decide +kernel, rfl⟩
theorem dX5_goBack_30 : zD cX5_goBack 30 (.ifCond .ne 6) 3 33 := ⟨by decide +kernel, rfl⟩
theorem dX5_goBack_33 : zD cX5_goBack 33 (.ldc 146) 2 35 := ⟨by decide +kernel, rfl⟩
theorem dX5_goBack_35 : zD cX5_goBack 35 .ireturn 1 36 := ⟨by decide +kernel, rfl⟩
theorem dX5_goBack_36 : zD cX5_goBack 36 (.aload_n 0) 1 37 := ⟨by decide +kernel, rfl⟩
theorem dX5_goBack_37 : zD cX5_goBack 37 (.getfield 10) 3 40 := ⟨by decide +kernel, rfl⟩
theorem dX5_goBack_40 : zD cX5_goBack 40 (.iload_n 1) 1 41 := ⟨by decide +kernel, rfl⟩
theorem dX5_goBack_41 : zD cX5_goBack 41 (.ifCond .ne 10) 3 44 := ⟨by decide +kernel, rfl⟩
theorem dX5_goBack_44 : zD cX5_goBack 44 (.aload_n 0) 1 45 := ⟨by decide +kernel, rfl⟩
theorem dX5_goBack_45 : zD cX5_goBack 45 (.getfield 59) 3 48 := ⟨by decide +kernel, rfl⟩
theorem dX5_goBack_48 : zD cX5_goBack 48 (.goto 7) 3 51 := ⟨by decide +kernel, rfl⟩
theorem dX5_goBack_51 : zD cX5_goBack 51 (.aload_n 0) 1 52 := ⟨by decide +kernel, rfl⟩
theorem dX5_goBack_52 : zD cX5_goBack 52 (.getfield 62) 3 55 := ⟨by decide +kernel, rfl⟩
theorem dX5_goBack_55 : zD cX5_goBack 55 (.invokevirtual 276) 3 58 := ⟨by decide +kernel, rfl⟩
theorem dX5_goBack_58 : zD cX5_goBack 58 (.aload_n 0) 1 59 := ⟨by decide +kernel, rfl⟩
theorem dX5_goBack_59 : zD cX5_goBack 59 (.getfield 55) 3 62 := ⟨by decide +kernel, rfl⟩
theorem dX5_goBack_62 : zD cX5_goBack 62 (.invokevirtual 285) 3 65 := ⟨by decide +kernel, rfl⟩
theorem dX5_goBack_65 : zD cX5_goBack 65 (.aload_n 0) 1 66 := ⟨by decide +kernel, rfl⟩
theorem dX5_goBack_66 : zD cX5_goBack 66 (.invokevirtual 137) 3 69 := ⟨by decide +kernel, rfl⟩
theorem dX5_goBack_69 : zD cX5_goBack 69 (.aload_n 0) 1 70 := ⟨by decide +kernel, rfl⟩
theorem dX5_goBack_70 : zD cX5_goBack 70 (.getfield 10) 3 73 := ⟨by decide +kernel, rfl⟩
theorem dX5_goBack_73 : zD cX5_goBack 73 (.getfield 86) 3 76 := ⟨by decide +kernel, rfl⟩
theorem dX5_goBack_76 : zD cX5_goBack 76 .ireturn 1 77 := ⟨by decide +kernel, rfl⟩
theorem dX5_layFree_0 : zD cX5_layFree 0 (.aload_n 0) 1 1 := ⟨by decide +kernel, rfl⟩
theorem dX5_layFree_1 : zD cX5_layFree 1 (.getfield 10) 3 4 := ⟨by decide +kernel, rfl⟩
theorem dX5_layFree_4 : zD cX5_layFree 4 (.invokevirtual 288) 3 7 := ⟨by decide +kernel, rfl⟩
theorem dX5_layFree_7 : zD cX5_layFree 7 (.aload_n 0) 1 8 := ⟨by decide +kernel, rfl⟩
theorem dX5_layFree_8 : zD cX5_layFree 8 (.invokevirtual 137) 3 11 := ⟨by decide +kernel, rfl⟩
theorem dX5_layFree_11 : zD cX5_layFree 11 .return_ 1 12 := ⟨by decide +kernel, rfl⟩
theorem dX5_layAnew_0 : zD cX5_layAnew 0 (.aload_n 0) 1 1 := ⟨by decide +kernel, rfl⟩
theorem dX5_layAnew_1 : zD cX5_layAnew 1 (.getfield 19) 3 4 := ⟨by decide +kernel, rfl⟩
theorem dX5_layAnew_4 : zD cX5_layAnew 4 (.aload_n 0) 1 5 := ⟨by decide +kernel, rfl⟩
theorem dX5_layAnew_5 : zD cX5_layAnew 5 (.getfield 10) 3 8 := ⟨by decide +kernel, rfl⟩
theorem dX5_layAnew_8 : zD cX5_layAnew 8 (.invokevirtual 291) 3 11 := ⟨by decide +kernel, rfl⟩
theorem dX5_layAnew_11 : zD cX5_layAnew 11 (.aload_n 0) 1 12 := ⟨by decide +kernel, rfl⟩
theorem dX5_layAnew_12 : zD cX5_layAnew 12 (.iconst 0) 1 13 := ⟨by decide +kernel, rfl⟩
theorem dX5_layAnew_13 : zD cX5_layAnew 13 (.putfield 39) 3 16 := ⟨by decide +kernel, rfl⟩
theorem dX5_layAnew_16 : zD cX5_layAnew 16 .return_ 1 17 := ⟨by decide +kernel, rfl⟩
theorem dX5_bestNow_0 : zD cX5_bestNow 0 (.aload_n 0) 1 1 := ⟨by decide +kernel, rfl⟩
theorem dX5_bestNow_1 : zD cX5_bestNow 1 (.getfield 39) 3 4 := ⟨by decide +kernel, rfl⟩
theorem dX5_bestNow_4 : zD cX5_bestNow 4 (.ifCond .ne 29) 3 7 := ⟨by decide +kernel, rfl⟩
theorem dX5_bestNow_7 : zD cX5_bestNow 7 (.aload_n 0) 1 8 := ⟨by decide +kernel, rfl⟩
theorem dX5_bestNow_8 : zD cX5_bestNow 8 (.getfield 35) 3 11 := ⟨by decide +kernel, rfl⟩
theorem dX5_bestNow_11 : zD cX5_bestNow 11 (.aload_n 0) 1 12 := ⟨by decide +kernel, rfl⟩
theorem dX5_bestNow_12 : zD cX5_bestNow 12 (.getfield 10) 3 15 := ⟨by decide +kernel, rfl⟩
theorem dX5_bestNow_15 : zD cX5_bestNow 15 (.getfield 208) 3 18 := ⟨by decide +kernel, rfl⟩
theorem dX5_bestNow_18 : zD cX5_bestNow 18 (.aload_n 0) 1 19 := ⟨by decide +kernel, rfl⟩
theorem dX5_bestNow_19 : zD cX5_bestNow 19 (.getfield 10) 3 22 := ⟨by decide +kernel, rfl⟩
theorem dX5_bestNow_22 : zD cX5_bestNow 22 (.getfield 294) 3 25 := ⟨by decide +kernel, rfl⟩
theorem dX5_bestNow_25 : zD cX5_bestNow 25 (.invokevirtual 297) 3 28 := ⟨by decide +kernel, rfl⟩
theorem dX5_bestNow_28 : zD cX5_bestNow 28 (.aload_n 0) 1 29 := ⟨by decide +kernel, rfl⟩
theorem dX5_bestNow_29 : zD cX5_bestNow 29 (.iconst 1) 1 30 := ⟨by decide +kernel, rfl⟩
theorem dX5_bestNow_30 : zD cX5_bestNow 30 (.putfield 39) 3 33 := ⟨by decide +kernel, rfl⟩
theorem dX5_bestNow_33 : zD cX5_bestNow 33 (.aload_n 0) 1 34 := ⟨by decide +kernel, rfl⟩
theorem dX5_bestNow_34 : zD cX5_bestNow 34 (.getfield 35) 3 37 := ⟨by decide +kernel, rfl⟩
theorem dX5_bestNow_37 : zD cX5_bestNow 37 .areturn 1 38 := ⟨by decide +kernel, rfl⟩
theorem dX5_toldOfBest_0 : zD cX5_toldOfBest 0 (.aload_n 0) 1 1 := ⟨by decide +kernel, rfl⟩
theorem dX5_toldOfBest_1 : zD cX5_toldOfBest 1 (.invokevirtual 150) 3 4 := ⟨by decide +kernel, rfl⟩
theorem dX5_toldOfBest_4 : zD cX5_toldOfBest 4 (.getfield 248) 3 7 := ⟨by decide +kernel, rfl⟩
theorem dX5_toldOfBest_7 : zD cX5_toldOfBest 7 (.istore_n 2) 1 8 := ⟨by decide +kernel, rfl⟩
theorem dX5_toldOfBest_8 : zD cX5_toldOfBest 8 (.iload_n 1) 1 9 := ⟨by decide +kernel, rfl⟩
theorem dX5_toldOfBest_9 : zD cX5_toldOfBest 9 (.tableswitch 101 5 10 #[39, 47, 56, 65, 84, 93]) 39 48 := ⟨by decide +kernel, rfl⟩
theorem dX5_toldOfBest_48 : zD cX5_toldOfBest 48 (.aload_n 0) 1 49 := ⟨by decide +kernel, rfl⟩
theorem dX5_toldOfBest_49 : zD cX5_toldOfBest 49 (.getfield 35) 3 52 := ⟨by decide +kernel, rfl⟩
theorem dX5_toldOfBest_52 : zD cX5_toldOfBest 52 (.getfield 154) 3 55 := ⟨by decide +kernel, rfl⟩
theorem dX5_toldOfBest_55 : zD cX5_toldOfBest 55 .ireturn 1 56 := ⟨by decide +kernel, rfl⟩
theorem dX5_toldOfBest_56 : zD cX5_toldOfBest 56 (.aload_n 0) 1 57 := ⟨by decide +kernel, rfl⟩
theorem dX5_toldOfBest_57 : zD cX5_toldOfBest 57 (.getfield 19) 3 60 := ⟨by decide +kernel, rfl⟩
theorem dX5_toldOfBest_60 : zD cX5_toldOfBest 60 (.iload_n 2) 1 61 := ⟨by decide +kernel, rfl⟩
theorem dX5_toldOfBest_61 : zD cX5_toldOfBest 61 (.invokevirtual 300) 3 64 := ⟨by decide +kernel, rfl⟩
theorem dX5_toldOfBest_64 : zD cX5_toldOfBest 64 .ireturn 1 65 := ⟨by decide +kernel, rfl⟩
theorem dX5_toldOfBest_65 : zD cX5_toldOfBest 65 (.aload_n 0) 1 66 := ⟨by decide +kernel, rfl⟩
theorem dX5_toldOfBest_66 : zD cX5_toldOfBest 66 (.getfield 19) 3 69 := ⟨by decide +kernel, rfl⟩
theorem dX5_toldOfBest_69 : zD cX5_toldOfBest 69 (.iload_n 2) 1 70 := ⟨by decide +kernel, rfl⟩
theorem dX5_toldOfBest_70 : zD cX5_toldOfBest 70 (.invokevirtual 303) 3 73 := ⟨by decide +kernel, rfl⟩
theorem dX5_toldOfBest_73 : zD cX5_toldOfBest 73 .ireturn 1 74 := ⟨by decide +kernel, rfl⟩
theorem dX5_toldOfBest_74 : zD cX5_toldOfBest 74 (.aload_n 0) 1 75 := ⟨by decide +kernel, rfl⟩
theorem dX5_toldOfBest_75 : zD cX5_toldOfBest 75 (.getfield 19) 3 78 := ⟨by decide +kernel, rfl⟩
theorem dX5_toldOfBest_78 : zD cX5_toldOfBest 78 (.aload_n 0) 1 79 := ⟨by decide +kernel, rfl⟩
theorem dX5_toldOfBest_79 : zD cX5_toldOfBest 79 (.getfield 19) 3 82 := ⟨by decide +kernel, rfl⟩
theorem dX5_toldOfBest_82 : zD cX5_toldOfBest 82 (.invokevirtual 269) 3 85 := ⟨by decide +kernel, rfl⟩
theorem dX5_toldOfBest_85 : zD cX5_toldOfBest 85 (.iload_n 2) 1 86 := ⟨by decide +kernel, rfl⟩
theorem dX5_toldOfBest_86 : zD cX5_toldOfBest 86 (.iconst (-1)) 1 87 := ⟨by decide +kernel, rfl⟩
theorem dX5_toldOfBest_87 : zD cX5_toldOfBest 87 .ixor 1 88 := ⟨by decide +kernel, rfl⟩
theorem dX5_toldOfBest_88 : zD cX5_toldOfBest 88 .iand 1 89 := ⟨by decide +kernel, rfl⟩
theorem dX5_toldOfBest_89 : zD cX5_toldOfBest 89 (.invokevirtual 306) 3 92 := ⟨by decide +kernel, rfl⟩
theorem dX5_toldOfBest_92 : zD cX5_toldOfBest 92 .ireturn 1 93 := ⟨by decide +kernel, rfl⟩
theorem dX5_toldOfBest_93 : zD cX5_toldOfBest 93 (.aload_n 0) 1 94 := ⟨by decide +kernel, rfl⟩
theorem dX5_toldOfBest_94 : zD cX5_toldOfBest 94 (.getfield 19) 3 97 := ⟨by decide +kernel, rfl⟩
theorem dX5_toldOfBest_97 : zD cX5_toldOfBest 97 (.iload_n 2) 1 98 := ⟨by decide +kernel, rfl⟩
theorem dX5_toldOfBest_98 : zD cX5_toldOfBest 98 (.invokevirtual 306) 3 101 := ⟨by decide +kernel, rfl⟩
theorem dX5_toldOfBest_101 : zD cX5_toldOfBest 101 .ireturn 1 102 := ⟨by decide +kernel, rfl⟩
theorem dX5_toldOfBest_102 : zD cX5_toldOfBest 102 (.aload_n 0) 1 103 := ⟨by decide +kernel, rfl⟩
theorem dX5_toldOfBest_103 : zD cX5_toldOfBest 103 (.getfield 35) 3 106 := ⟨by decide +kernel, rfl⟩
theorem dX5_toldOfBest_106 : zD cX5_toldOfBest 106 (.getfield 307) 3 109 := ⟨by decide +kernel, rfl⟩
theorem dX5_toldOfBest_109 : zD cX5_toldOfBest 109 .ireturn 1 110 := ⟨by decide +kernel, rfl⟩
theorem dX5_toldOfBest_110 : zD cX5_toldOfBest 110 (.iload_n 2) 1 111 := ⟨by decide +kernel, rfl⟩
theorem dX5_toldOfBest_111 : zD cX5_toldOfBest 111 .ireturn 1 112 := ⟨by decide +kernel, rfl⟩
theorem dX5_costOfTried_0 : zD cX5_costOfTried 0 (.aload_n 0) 1 1 := ⟨by decide +kernel, rfl⟩
theorem dX5_costOfTried_1 : zD cX5_costOfTried 1 (.getfield 46) 3 4 := ⟨by decide +kernel, rfl⟩
theorem dX5_costOfTried_4 : zD cX5_costOfTried 4 (.aload_n 0) 1 5 := ⟨by decide +kernel, rfl⟩
theorem dX5_costOfTried_5 : zD cX5_costOfTried 5 (.getfield 43) 3 8 := ⟨by decide +kernel, rfl⟩
theorem dX5_costOfTried_8 : zD cX5_costOfTried 8 (.invokevirtual 291) 3 11 := ⟨by decide +kernel, rfl⟩
theorem dX5_costOfTried_11 : zD cX5_costOfTried 11 (.aload_n 0) 1 12 := ⟨by decide +kernel, rfl⟩
theorem dX5_costOfTried_12 : zD cX5_costOfTried 12 (.getfield 49) 3 15 := ⟨by decide +kernel, rfl⟩
theorem dX5_costOfTried_15 : zD cX5_costOfTried 15 (.iconst 0) 1 16 := ⟨by decide +kernel, rfl⟩
theorem dX5_costOfTried_16 : zD cX5_costOfTried 16 (.iconst 0) 1 17 := ⟨by decide +kernel, rfl⟩
theorem dX5_costOfTried_17 : zD cX5_costOfTried 17 (.invokevirtual 297) 3 20 := ⟨by decide +kernel, rfl⟩
theorem dX5_costOfTried_20 : zD cX5_costOfTried 20 (.aload_n 0) 1 21 := ⟨by decide +kernel, rfl⟩
theorem dX5_costOfTried_21 : zD cX5_costOfTried 21 (.getfield 49) 3 24 := ⟨by decide +kernel, rfl⟩
theorem dX5_costOfTried_24 : zD cX5_costOfTried 24 (.getfield 154) 3 27 := ⟨by decide +kernel, rfl⟩
theorem dX5_costOfTried_27 : zD cX5_costOfTried 27 .ireturn 1 28 := ⟨by decide +kernel, rfl⟩
theorem dX5_costWith_0 : zD cX5_costWith 0 (.aload_n 0) 1 1 := ⟨by decide +kernel, rfl⟩
theorem dX5_costWith_1 : zD cX5_costWith 1 (.getfield 43) 3 4 := ⟨by decide +kernel, rfl⟩
theorem dX5_costWith_4 : zD cX5_costWith 4 (.aload_n 0) 1 5 := ⟨by decide +kernel, rfl⟩
theorem dX5_costWith_5 : zD cX5_costWith 5 (.getfield 10) 3 8 := ⟨by decide +kernel, rfl⟩
theorem dX5_costWith_8 : zD cX5_costWith 8 (.invokevirtual 276) 3 11 := ⟨by decide +kernel, rfl⟩
theorem dX5_costWith_11 : zD cX5_costWith 11 (.aload_n 0) 1 12 := ⟨by decide +kernel, rfl⟩
theorem dX5_costWith_12 : zD cX5_costWith 12 (.getfield 43) 3 15 := ⟨by decide +kernel, rfl⟩
theorem dX5_costWith_15 : zD cX5_costWith 15 (.iload_n 1) 1 16 := ⟨by decide +kernel, rfl⟩
theorem dX5_costWith_16 : zD cX5_costWith 16 (.iload_n 2) 1 17 := ⟨by decide +kernel, rfl⟩
theorem dX5_costWith_17 : zD cX5_costWith 17 (.invokevirtual 310) 3 20 := ⟨by decide +kernel, rfl⟩
theorem dX5_costWith_20 : zD cX5_costWith 20 (.ifCond .eq 16) 3 23 := ⟨by decide +kernel, rfl⟩
theorem dX5_costWith_23 : zD cX5_costWith 23 (.aload_n 0) 1 24 := ⟨by decide +kernel, rfl⟩
theorem dX5_costWith_24 : zD cX5_costWith 24 (.getfield 43) 3 27 := ⟨by decide +kernel, rfl⟩
theorem dX5_costWith_27 : zD cX5_costWith 27 (.iload_n 3) 1 28 := ⟨by decide +kernel, rfl⟩
theorem dX5_costWith_28 : zD cX5_costWith 28 (.iload 4) 2 30 := ⟨by decide +kernel, rfl⟩
theorem dX5_costWith_30 : zD cX5_costWith 30 (.invokevirtual 310) 3 33 := ⟨by decide +kernel, rfl⟩
theorem dX5_costWith_33 : zD cX5_costWith 33 (.ifCond .ne 5) 3 36 := ⟨by decide +kernel, rfl⟩
theorem dX5_costWith_36 : zD cX5_costWith 36 (.iconst (-1)) 1 37 := ⟨by decide +kernel, rfl⟩
theorem dX5_costWith_37 : zD cX5_costWith 37 .ireturn 1 38 := ⟨by decide +kernel, rfl⟩
theorem dX5_costWith_38 : zD cX5_costWith 38 (.aload_n 0) 1 39 := ⟨by decide +kernel, rfl⟩
theorem dX5_costWith_39 : zD cX5_costWith 39 (.getfield 43) 3 42 := ⟨by decide +kernel, rfl⟩
theorem dX5_costWith_42 : zD cX5_costWith 42 (.iload_n 1) 1 43 := ⟨by decide +kernel, rfl⟩
theorem dX5_costWith_43 : zD cX5_costWith 43 (.iload_n 2) 1 44 := ⟨by decide +kernel, rfl⟩
theorem dX5_costWith_44 : zD cX5_costWith 44 (.invokevirtual 147) 3 47 := ⟨by decide +kernel, rfl⟩
theorem dX5_costWith_47 : zD cX5_costWith 47 (.aload_n 0) 1 48 := ⟨by decide +kernel, rfl⟩
theorem dX5_costWith_48 : zD cX5_costWith 48 (.getfield 43) 3 51 := ⟨by decide +kernel, rfl⟩
theorem dX5_costWith_51 : zD cX5_costWith 51 (.iload_n 3) 1 52 := ⟨by decide +kernel, rfl⟩
theorem dX5_costWith_52 : zD cX5_costWith 52 (.iload 4) 2 54 := ⟨by decide +kernel, rfl⟩
theorem dX5_costWith_54 : zD cX5_costWith 54 (.invokevirtual 147) 3 57 := ⟨by decide +kernel, rfl⟩
theorem dX5_costWith_57 : zD cX5_costWith 57 (.aload_n 0) 1 58 := ⟨by decide +kernel, rfl⟩
theorem dX5_costWith_58 : zD cX5_costWith 58 (.getfield 46) 3 61 := ⟨by decide +kernel, rfl⟩
theorem dX5_costWith_61 : zD cX5_costWith 61 (.aload_n 0) 1 62 := ⟨by decide +kernel, rfl⟩
theorem dX5_costWith_62 : zD cX5_costWith 62 (.getfield 43) 3 65 := ⟨by decide +kernel, rfl⟩
theorem dX5_costWith_65 : zD cX5_costWith 65 (.invokevirtual 291) 3 68 := ⟨by decide +kernel, rfl⟩
theorem dX5_costWith_68 : zD cX5_costWith 68 (.aload_n 0) 1 69 := ⟨by decide +kernel, rfl⟩
theorem dX5_costWith_69 : zD cX5_costWith 69 (.getfield 49) 3 72 := ⟨by decide +kernel, rfl⟩
theorem dX5_costWith_72 : zD cX5_costWith 72 (.aload_n 0) 1 73 := ⟨by decide +kernel, rfl⟩
theorem dX5_costWith_73 : zD cX5_costWith 73 (.getfield 43) 3 76 := ⟨by decide +kernel, rfl⟩
theorem dX5_costWith_76 : zD cX5_costWith 76 (.getfield 208) 3 79 := ⟨by decide +kernel, rfl⟩
theorem dX5_costWith_79 : zD cX5_costWith 79 (.aload_n 0) 1 80 := ⟨by decide +kernel, rfl⟩
theorem dX5_costWith_80 : zD cX5_costWith 80 (.getfield 43) 3 83 := ⟨by decide +kernel, rfl⟩
theorem dX5_costWith_83 : zD cX5_costWith 83 (.getfield 294) 3 86 := ⟨by decide +kernel, rfl⟩
theorem dX5_costWith_86 : zD cX5_costWith 86 (.invokevirtual 297) 3 89 := ⟨by decide +kernel, rfl⟩
theorem dX5_costWith_89 : zD cX5_costWith 89 (.aload_n 0) 1 90 := ⟨by decide +kernel, rfl⟩
theorem dX5_costWith_90 : zD cX5_costWith 90 (.getfield 49) 3 93 := ⟨by decide +kernel, rfl⟩
theorem dX5_costWith_93 : zD cX5_costWith 93 (.getfield 154) 3 96 := ⟨by decide +kernel, rfl⟩
theorem dX5_costWith_96 : zD cX5_costWith 96 .ireturn 1 97 := ⟨by decide +kernel, rfl⟩
theorem dX5_areTwoPieces_0 : zD cX5_areTwoPieces 0 (.aload_n 0) 1 1 := ⟨by decide +kernel, rfl⟩
theorem dX5_areTwoPieces_1 : zD cX5_areTwoPieces 1 (.getfield 19) 3 4 := ⟨by decide +kernel, rfl⟩
theorem dX5_areTwoPieces_4 : zD cX5_areTwoPieces 4 (.iload_n 1) 1 5 := ⟨by decide +kernel, rfl⟩
theorem dX5_areTwoPieces_5 : zD cX5_areTwoPieces 5 (.invokevirtual 140) 3 8 := ⟨by decide +kernel, rfl⟩
theorem dX5_areTwoPieces_8 : zD cX5_areTwoPieces 8 (.ifCond .eq 23) 3 11 := ⟨by decide +kernel, rfl⟩
theorem dX5_areTwoPieces_11 : zD cX5_areTwoPieces 11 (.aload_n 0) 1 12 := ⟨by decide +kernel, rfl⟩
theorem dX5_areTwoPieces_12 : zD cX5_areTwoPieces 12 (.getfield 19) 3 15 := ⟨by decide +kernel, rfl⟩
theorem dX5_areTwoPieces_15 : zD cX5_areTwoPieces 15 (.iload_n 2) 1 16 := ⟨by decide +kernel, rfl⟩
theorem dX5_areTwoPieces_16 : zD cX5_areTwoPieces 16 (.invokevirtual 140) 3 19 := ⟨by decide +kernel, rfl⟩
theorem dX5_areTwoPieces_19 : zD cX5_areTwoPieces 19 (.ifCond .eq 12) 3 22 := ⟨by decide +kernel, rfl⟩
theorem dX5_areTwoPieces_22 : zD cX5_areTwoPieces 22 (.iload_n 1) 1 23 := ⟨by decide +kernel, rfl⟩
theorem dX5_areTwoPieces_23 : zD cX5_areTwoPieces 23 (.iload_n 2) 1 24 := ⟨by decide +kernel, rfl⟩
theorem dX5_areTwoPieces_24 : zD cX5_areTwoPieces 24 (.if_icmp .eq 7) 3 27 := ⟨by decide +kernel, rfl⟩
theorem dX5_areTwoPieces_27 : zD cX5_areTwoPieces 27 (.iconst 1) 1 28 := ⟨by decide +kernel, rfl⟩
theorem dX5_areTwoPieces_28 : zD cX5_areTwoPieces 28 (.goto 4) 3 31 := ⟨by decide +kernel, rfl⟩
theorem dX5_areTwoPieces_31 : zD cX5_areTwoPieces 31 (.iconst 0) 1 32 := ⟨by decide +kernel, rfl⟩
theorem dX5_areTwoPieces_32 : zD cX5_areTwoPieces 32 .ireturn 1 33 := ⟨by decide +kernel, rfl⟩
theorem dX5_isPlace_0 : zD cX5_isPlace 0 (.iload_n 0) 1 1 := ⟨by decide +kernel, rfl⟩
theorem dX5_isPlace_1 : zD cX5_isPlace 1 (.ifCond .lt 13) 3 4 := ⟨by decide +kernel, rfl⟩
theorem dX5_isPlace_4 : zD cX5_isPlace 4 (.iload_n 0) 1 5 := ⟨by decide +kernel, rfl⟩
theorem dX5_isPlace_5 : zD cX5_isPlace 5 (.bipush 15) 2 7 := ⟨by decide +kernel, rfl⟩
theorem dX5_isPlace_7 : zD cX5_isPlace 7 (.if_icmp .gt 7) 3 10 := ⟨by decide +kernel, rfl⟩
theorem dX5_isPlace_10 : zD cX5_isPlace 10 (.iconst 1) 1 11 := ⟨by decide +kernel, rfl⟩
theorem dX5_isPlace_11 : zD cX5_isPlace 11 (.goto 4) 3 14 := ⟨by decide +kernel, rfl⟩
theorem dX5_isPlace_14 : zD cX5_isPlace 14 (.iconst 0) 1 15 := ⟨by decide +kernel, rfl⟩
theorem dX5_isPlace_15 : zD cX5_isPlace 15 .ireturn 1 16 := ⟨by decide +kernel, rfl⟩
theorem dX5_nextLot_0 : zD cX5_nextLot 0 (.iload_n 0) 1 1 := ⟨by decide +kernel, rfl⟩
theorem dX5_nextLot_1 : zD cX5_nextLot 1 .i2l 1 2 := ⟨by decide +kernel, rfl⟩
theorem dX5_nextLot_2 : zD cX5_nextLot 2 (.ldc2_w 313) 3 5 := ⟨by decide +kernel, rfl⟩
theorem dX5_nextLot_5 : zD cX5_nextLot 5 .lmul 1 6 := ⟨by decide +kernel, rfl⟩
theorem dX5_nextLot_6 : zD cX5_nextLot 6 (.ldc2_w 315) 3 9 := ⟨by decide +kernel, rfl⟩
theorem dX5_nextLot_9 : zD cX5_nextLot 9 .lrem 1 10 := ⟨by decide +kernel, rfl⟩
theorem dX5_nextLot_10 : zD cX5_nextLot 10 .l2i 1 11 := ⟨by decide +kernel, rfl⟩
theorem dX5_nextLot_11 : zD cX5_nextLot 11 .ireturn 1 12 := ⟨by decide +kernel, rfl⟩
theorem dX5_withoutLowest_0 : zD cX5_withoutLowest 0 (.iload_n 0) 1 1 := ⟨by decide +kernel, rfl⟩
theorem dX5_withoutLowest_1 : zD cX5_withoutLowest 1 (.iload_n 0) 1 2 := ⟨by decide +kernel, rfl⟩
theorem dX5_withoutLowest_2 : zD cX5_withoutLowest 2 (.iconst 1) 1 3 := ⟨by decide +kernel, rfl⟩
theorem dX5_withoutLowest_3 : zD cX5_withoutLowest 3 .isub 1 4 := ⟨by decide +kernel, rfl⟩
theorem dX5_withoutLowest_4 : zD cX5_withoutLowest 4 .iand 1 5 := ⟨by decide +kernel, rfl⟩
theorem dX5_withoutLowest_5 : zD cX5_withoutLowest 5 .ireturn 1 6 := ⟨by decide +kernel, rfl⟩
theorem dX5_lowestOf_0 : zD cX5_lowestOf 0 (.iload_n 0) 1 1 := ⟨by decide +kernel, rfl⟩
theorem dX5_lowestOf_1 : zD cX5_lowestOf 1 (.ifCond .ne 7) 3 4 := ⟨by decide +kernel, rfl⟩
theorem dX5_lowestOf_4 : zD cX5_lowestOf 4 (.iconst (-1)) 1 5 := ⟨by decide +kernel, rfl⟩
theorem dX5_lowestOf_5 : zD cX5_lowestOf 5 (.goto 12) 3 8 := ⟨by decide +kernel, rfl⟩
theorem dX5_lowestOf_8 : zD cX5_lowestOf 8 (.iload_n 0) 1 9 := ⟨by decide +kernel, rfl⟩
theorem dX5_lowestOf_9 : zD cX5_lowestOf 9 (.iload_n 0) 1 10 := ⟨by decide +kernel, rfl⟩
theorem dX5_lowestOf_10 : zD cX5_lowestOf 10 .ineg 1 11 := ⟨by decide +kernel, rfl⟩
theorem dX5_lowestOf_11 : zD cX5_lowestOf 11 .iand 1 12 := ⟨by decide +kernel, rfl⟩
theorem dX5_lowestOf_12 : zD cX5_lowestOf 12 (.iconst 1) 1 13 := ⟨by decide +kernel, rfl⟩
theorem dX5_lowestOf_13 : zD cX5_lowestOf 13 .isub 1 14 := ⟨by decide +kernel, rfl⟩
theorem dX5_lowestOf_14 : zD cX5_lowestOf 14 (.invokestatic 226) 3 17 := ⟨by decide +kernel, rfl⟩
theorem dX5_lowestOf_17 : zD cX5_lowestOf 17 .ireturn 1 18 := ⟨by decide +kernel, rfl⟩
end
section
theorem dX6_init_0 : zD cX6_init 0 (.aload_n 0) 1 1 := ⟨by decide +kernel, rfl⟩
theorem dX6_init_1 : zD cX6_init 1 (.invokespecial 1) 3 4 := ⟨by decide +kernel, rfl⟩
theorem dX6_init_4 : zD cX6_init 4 (.aload_n 0) 1 5 := ⟨by decide +kernel, rfl⟩
theorem dX6_init_5 : zD cX6_init 5 (.bipush 78) 2 7 := ⟨by decide +kernel, rfl⟩
theorem dX6_init_7 : zD cX6_init 7 (.newarray .int) 2 9 := ⟨by decide +kernel, rfl⟩
theorem dX6_init_9 : zD cX6_init 9 (.putfield 7) 3 12 := ⟨by decide +kernel, rfl⟩
theorem dX6_init_12 : zD cX6_init 12 (.aload_n 0) 1 13 := ⟨by decide +kernel, rfl⟩
theorem dX6_init_13 : zD cX6_init 13 (.sipush 624) 3 16 := ⟨by decide +kernel, rfl⟩
theorem dX6_init_16 : zD cX6_init 16 (.newarray .int) 2 18 := ⟨by decide +kernel, rfl⟩
theorem dX6_init_18 : zD cX6_init 18 (.putfield 13) 3 21 := ⟨by decide +kernel, rfl⟩
theorem dX6_init_21 : zD cX6_init 21 (.aload_n 0) 1 22 := ⟨by decide +kernel, rfl⟩
theorem dX6_init_22 : zD cX6_init 22 (.sipush 156) 3 25 := ⟨by decide +kernel, rfl⟩
theorem dX6_init_25 : zD cX6_init 25 (.newarray .int) 2 27 := ⟨by decide +kernel, rfl⟩
theorem dX6_init_27 : zD cX6_init 27 (.putfield 16) 3 30 := ⟨by decide +kernel, rfl⟩
theorem dX6_init_30 : zD cX6_init 30 (.aload_n 0) 1 31 := ⟨by decide +kernel, rfl⟩
theorem dX6_init_31 : zD cX6_init 31 (.iconst 2) 1 32 := ⟨by decide +kernel, rfl⟩
theorem dX6_init_32 : zD cX6_init 32 (.newarray .boolean) 2 34 := ⟨by decide +kernel, rfl⟩
theorem dX6_init_34 : zD cX6_init 34 (.putfield 19) 3 37 := ⟨by decide +kernel, rfl⟩
theorem dX6_init_37 : zD cX6_init 37 (.aload_n 0) 1 38 := ⟨by decide +kernel, rfl⟩
theorem dX6_init_38 : zD cX6_init 38 (.bipush 14) 2 40 := ⟨by decide +kernel, rfl⟩
theorem dX6_init_40 : zD cX6_init 40 (.newarray .int) 2 42 := ⟨by decide +kernel, rfl⟩
theorem dX6_init_42 : zD cX6_init 42 (.putfield 23) 3 45 := ⟨by decide +kernel, rfl⟩
theorem dX6_init_45 : zD cX6_init 45 (.aload_n 0) 1 46 := ⟨by decide +kernel, rfl⟩
theorem dX6_init_46 : zD cX6_init 46 (.bipush 14) 2 48 := ⟨by decide +kernel, rfl⟩
theorem dX6_init_48 : zD cX6_init 48 (.newarray .int) 2 50 := ⟨by decide +kernel, rfl⟩
theorem dX6_init_50 : zD cX6_init 50 (.putfield 26) 3 53 := ⟨by decide +kernel, rfl⟩
theorem dX6_init_53 : zD cX6_init 53 (.aload_n 0) 1 54 := ⟨by decide +kernel, rfl⟩
theorem dX6_init_54 : zD cX6_init 54 (.bipush 14) 2 56 := ⟨by decide +kernel, rfl⟩
theorem dX6_init_56 : zD cX6_init 56 (.newarray .int) 2 58 := ⟨by decide +kernel, rfl⟩
theorem dX6_init_58 : zD cX6_init 58 (.putfield 29) 3 61 := ⟨by decide +kernel, rfl⟩
theorem dX6_init_61 : zD cX6_init 61 (.aload_n 0) 1 62 := ⟨by decide +kernel, rfl⟩
theorem dX6_init_62 : zD cX6_init 62 (.bipush 14) 2 64 := ⟨by decide +kernel, rfl⟩
theorem dX6_init_64 : zD cX6_init 64 (.newarray .int) 2 66 := ⟨by decide +kernel, rfl⟩
theorem dX6_init_66 : zD cX6_init 66 (.putfield 32) 3 69 := ⟨by decide +kernel, rfl⟩
theorem dX6_init_69 : zD cX6_init 69 (.aload_n 0) 1 70 := ⟨by decide +kernel, rfl⟩
theorem dX6_init_70 : zD cX6_init 70 (.bipush 14) 2 72 := ⟨by decide +kernel, rfl⟩
theorem dX6_init_72 : zD cX6_init 72 (.newarray .int) 2 74 := ⟨by decide +kernel, rfl⟩
theorem dX6_init_74 : zD cX6_init 74 (.putfield 35) 3 77 := ⟨by decide +kernel, rfl⟩
theorem dX6_init_77 : zD cX6_init 77 (.aload_n 0) 1 78 := ⟨by decide +kernel, rfl⟩
theorem dX6_init_78 : zD cX6_init 78 (.bipush 78) 2 80 := ⟨by decide +kernel, rfl⟩
theorem dX6_init_80 : zD cX6_init 80 (.newarray .int) 2 82 := ⟨by decide +kernel, rfl⟩
theorem dX6_init_82 : zD cX6_init 82 (.putfield 38) 3 85 := ⟨by decide +kernel, rfl⟩
theorem dX6_init_85 : zD cX6_init 85 (.aload_n 0) 1 86 := ⟨by decide +kernel, rfl⟩
theorem dX6_init_86 : zD cX6_init 86 (.getfield 7) 3 89 := ⟨by decide +kernel, rfl⟩
theorem dX6_init_89 : zD cX6_init 89 (.bipush 61) 2 91 := ⟨by decide +kernel, rfl⟩
theorem dX6_init_91 : zD cX6_init 91 (.iconst 2) 1 92 := ⟨by decide +kernel, rfl⟩
theorem dX6_init_92 : zD cX6_init 92 .iastore 1 93 := ⟨by decide +kernel, rfl⟩
theorem dX6_init_93 : zD cX6_init 93 (.aload_n 0) 1 94 := ⟨by decide +kernel, rfl⟩
theorem dX6_init_94 : zD cX6_init 94 (.getfield 7) 3 97 := ⟨by decide +kernel, rfl⟩
theorem dX6_init_97 : zD cX6_init 97 (.bipush 62) 2 99 := ⟨by decide +kernel, rfl⟩
theorem dX6_init_99 : zD cX6_init 99 (.iconst 1) 1 100 := ⟨by decide +kernel, rfl⟩
theorem dX6_init_100 : zD cX6_init 100 .iastore 1 101 := ⟨by decide +kernel, rfl⟩
theorem dX6_init_101 : zD cX6_init 101 (.aload_n 0) 1 102 := ⟨by decide +kernel, rfl⟩
theorem dX6_init_102 : zD cX6_init 102 (.getfield 7) 3 105 := ⟨by decide +kernel, rfl⟩
theorem dX6_init_105 : zD cX6_init 105 (.bipush 63) 2 107 := ⟨by decide +kernel, rfl⟩
theorem dX6_init_107 : zD cX6_init 107 (.bipush 10) 2 109 := ⟨by decide +kernel, rfl⟩
theorem dX6_init_109 : zD cX6_init 109 .iastore 1 110 := ⟨by decide +kernel, rfl⟩
theorem dX6_init_110 : zD cX6_init 110 .return_ 1 111 := ⟨by decide +kernel, rfl⟩
theorem dX6_in_0 : zD cX6_in 0 (.lload_n 0) 1 1 := ⟨by decide +kernel, rfl⟩
theorem dX6_in_1 : zD cX6_in 1 (.lload_n 2) 1 2 := ⟨by decide +kernel, rfl⟩
theorem dX6_in_2 : zD cX6_in 2 .lcmp 1 3 := ⟨by decide +kernel, rfl⟩
theorem dX6_in_3 : zD cX6_in 3 (.ifCond .lt 14) 3 6 := ⟨by decide +kernel, rfl⟩
theorem dX6_in_6 : zD cX6_in 6 (.lload_n 0) 1 7 := ⟨by decide +kernel, rfl⟩
theorem dX6_in_7 : zD cX6_in 7 (.lload 4) 2 9 := ⟨by decide +kernel, rfl⟩
theorem dX6_in_9 : zD cX6_in 9 .lcmp 1 10 := ⟨by decide +kernel, rfl⟩
theorem dX6_in_10 : zD cX6_in 10 (.ifCond .gt 7) 3 13 := ⟨by decide +kernel, rfl⟩
theorem dX6_in_13 : zD cX6_in 13 (.iconst 1) 1 14 := ⟨by decide +kernel, rfl⟩
theorem dX6_in_14 : zD cX6_in 14 (.goto 4) 3 17 := ⟨by decide +kernel, rfl⟩
theorem dX6_in_17 : zD cX6_in 17 (.iconst 0) 1 18 := ⟨by decide +kernel, rfl⟩
theorem dX6_in_18 : zD cX6_in 18 .ireturn 1 19 := ⟨by decide +kernel, rfl⟩
theorem dX6_has_0 : zD cX6_has 0 (.iload_n 0) 1 1 := ⟨by decide +kernel, rfl⟩
theorem dX6_has_1 : zD cX6_has 1 (.iload_n 1) 1 2 := ⟨by decide +kernel, rfl⟩
theorem dX6_has_2 : zD cX6_has 2 .ishr 1 3 := ⟨by decide +kernel, rfl⟩
theorem dX6_has_3 : zD cX6_has 3 (.iconst 1) 1 4 := ⟨by decide +kernel, rfl⟩
theorem dX6_has_4 : zD cX6_has 4 .iand 1 5 := ⟨by decide +kernel, rfl⟩
theorem dX6_has_5 : zD cX6_has 5 (.iconst 1) 1 6 := ⟨by decide +kernel, rfl⟩
theorem dX6_has_6 : zD cX6_has 6 (.if_icmp .ne 7) 3 9 := ⟨by decide +kernel, rfl⟩
theorem dX6_has_9 : zD cX6_has 9 (.iconst 1) 1 10 := ⟨by decide +kernel, rfl⟩
theorem dX6_has_10 : zD cX6_has 10 (.goto 4) 3 13 := ⟨by decide +kernel, rfl⟩
theorem dX6_has_13 : zD cX6_has 13 (.iconst 0) 1 14 := ⟨by decide +kernel, rfl⟩
theorem dX6_has_14 : zD cX6_has 14 .ireturn 1 15 := ⟨by decide +kernel, rfl⟩
theorem dX6_ones_0 : zD cX6_ones 0 (.iconst 0) 1 1 := ⟨by decide +kernel, rfl⟩
theorem dX6_ones_1 : zD cX6_ones 1 (.istore_n 1) 1 2 := ⟨by decide +kernel, rfl⟩
theorem dX6_ones_2 : zD cX6_ones 2 (.iload_n 0) 1 3 := ⟨by decide +kernel, rfl⟩
theorem dX6_ones_3 : zD cX6_ones 3 (.istore_n 2) 1 4 := ⟨by decide +kernel, rfl⟩
theorem dX6_ones_4 : zD cX6_ones 4 (.iload_n 2) 1 5 := ⟨by decide +kernel, rfl⟩
theorem dX6_ones_5 : zD cX6_ones 5 (.ifCond .eq 15) 3 8 := ⟨by decide +kernel, rfl⟩
theorem dX6_ones_8 : zD cX6_ones 8 (.iinc 1 1) 3 11 := ⟨by decide +kernel, rfl⟩
theorem dX6_ones_11 : zD cX6_ones 11 (.iload_n 2) 1 12 := ⟨by decide +kernel, rfl⟩
theorem dX6_ones_12 : zD cX6_ones 12 (.iload_n 2) 1 13 := ⟨by decide +kernel, rfl⟩
theorem dX6_ones_13 : zD cX6_ones 13 (.iconst 1) 1 14 := ⟨by decide +kernel, rfl⟩
theorem dX6_ones_14 : zD cX6_ones 14 .isub 1 15 := ⟨by decide +kernel, rfl⟩
theorem dX6_ones_15 : zD cX6_ones 15 .iand 1 16 := ⟨by decide +kernel, rfl⟩
theorem dX6_ones_16 : zD cX6_ones 16 (.istore_n 2) 1 17 := ⟨by decide +kernel, rfl⟩
theorem dX6_ones_17 : zD cX6_ones 17 (.goto (-13)) 3 20 := ⟨by decide +kernel, rfl⟩
theorem dX6_ones_20 : zD cX6_ones 20 (.iload_n 1) 1 21 := ⟨by decide +kernel, rfl⟩
theorem dX6_ones_21 : zD cX6_ones 21 .ireturn 1 22 := ⟨by decide +kernel, rfl⟩
theorem dX6_isShape_0 : zD cX6_isShape 0 (.iload_n 1) 1 1 := ⟨by decide +kernel, rfl⟩
theorem dX6_isShape_1 : zD cX6_isShape 1 .i2l 1 2 := ⟨by decide +kernel, rfl⟩
theorem dX6_isShape_2 : zD cX6_isShape 2 (.lconst 0) 1 3 := ⟨by decide +kernel, rfl⟩
theorem dX6_isShape_3 : zD cX6_isShape 3 (.aload_n 0) 1 4 := ⟨by decide +kernel, rfl⟩
theorem dX6_isShape_4 : zD cX6_isShape 4 (.getfield 7) 3 7 := ⟨by decide +kernel, rfl⟩
theorem dX6_isShape_7 : zD cX6_isShape 7 (.iconst 0) 1 8 := ⟨by decide +kernel, rfl⟩
theorem dX6_isShape_8 : zD cX6_isShape 8 .iaload 1 9 := ⟨by decide +kernel, rfl⟩
theorem dX6_isShape_9 : zD cX6_isShape 9 (.iconst 1) 1 10 := ⟨by decide +kernel, rfl⟩
theorem dX6_isShape_10 : zD cX6_isShape 10 .isub 1 11 := ⟨by decide +kernel, rfl⟩
theorem dX6_isShape_11 : zD cX6_isShape 11 .i2l 1 12 := ⟨by decide +kernel, rfl⟩
theorem dX6_isShape_12 : zD cX6_isShape 12 (.invokestatic 41) 3 15 := ⟨by decide +kernel, rfl⟩
theorem dX6_isShape_15 : zD cX6_isShape 15 .ireturn 1 16 := ⟨by decide +kernel, rfl⟩
theorem dX6_part_0 : zD cX6_part 0 (.aload_n 0) 1 1 := ⟨by decide +kernel, rfl⟩
theorem dX6_part_1 : zD cX6_part 1 (.getfield 7) 3 4 := ⟨by decide +kernel, rfl⟩
theorem dX6_part_4 : zD cX6_part 4 (.iconst 1) 1 5 := ⟨by decide +kernel, rfl⟩
theorem dX6_part_5 : zD cX6_part 5 (.bipush 6) 2 7 := ⟨by decide +kernel, rfl⟩
theorem dX6_part_7 : zD cX6_part 7 (.iload_n 1) 1 8 := ⟨by decide +kernel, rfl⟩
theorem dX6_part_8 : zD cX6_part 8 .imul 1 9 := ⟨by decide +kernel, rfl⟩
theorem dX6_part_9 : zD cX6_part 9 .iadd 1 10 := ⟨by decide +kernel, rfl⟩
theorem dX6_part_10 : zD cX6_part 10 (.iload_n 2) 1 11 := ⟨by decide +kernel, rfl⟩
theorem dX6_part_11 : zD cX6_part 11 .iadd 1 12 := ⟨by decide +kernel, rfl⟩
theorem dX6_part_12 : zD cX6_part 12 .iaload 1 13 := ⟨by decide +kernel, rfl⟩
theorem dX6_part_13 : zD cX6_part 13 .ireturn 1 14 := ⟨by decide +kernel, rfl⟩
theorem dX6_cutsOf_0 : zD cX6_cutsOf 0 (.aload_n 0) 1 1 := ⟨by decide +kernel, rfl⟩
theorem dX6_cutsOf_1 : zD cX6_cutsOf 1 (.iload_n 1) 1 2 := ⟨by decide +kernel, rfl⟩
theorem dX6_cutsOf_2 : zD cX6_cutsOf 2 (.iconst 4) 1 3 := ⟨by decide +kernel, rfl⟩
theorem dX6_cutsOf_3 : zD cX6_cutsOf 3 (.invokevirtual 45) 3 6 := ⟨by decide +kernel, rfl⟩
theorem dX6_cutsOf_6 : zD cX6_cutsOf 6 (.ifCond .le 7) 3 9 := ⟨by decide +kernel, rfl⟩
theorem dX6_cutsOf_9 : zD cX6_cutsOf 9 (.iconst 1) 1 10 := ⟨by decide +kernel, rfl⟩
theorem dX6_cutsOf_10 : zD cX6_cutsOf 10 (.goto 4) 3 13 := ⟨by decide +kernel, rfl⟩
theorem dX6_cutsOf_13 : zD cX6_cutsOf 13 (.iconst 0) 1 14 := ⟨by decide +kernel, rfl⟩
theorem dX6_cutsOf_14 : zD cX6_cutsOf 14 (.aload_n 0) 1 15 := ⟨by decide +kernel, rfl⟩
theorem dX6_cutsOf_15 : zD cX6_cutsOf 15 (.iload_n 1) 1 16 := ⟨by decide +kernel, rfl⟩
theorem dX6_cutsOf_16 : zD cX6_cutsOf 16 (.iconst 5) 1 17 := ⟨by decide +kernel, rfl⟩
theorem dX6_cutsOf_17 : zD cX6_cutsOf 17 (.invokevirtual 45) 3 20 := ⟨by decide +kernel, rfl⟩
theorem dX6_cutsOf_20 : zD cX6_cutsOf 20 (.ifCond .le 7) 3 23 := ⟨by decide +kernel, rfl⟩
theorem dX6_cutsOf_23 : zD cX6_cutsOf 23 (.iconst 1) 1 24 := ⟨by decide +kernel, rfl⟩
theorem dX6_cutsOf_24 : zD cX6_cutsOf 24 (.goto 4) 3 27 := ⟨by decide +kernel, rfl⟩
theorem dX6_cutsOf_27 : zD cX6_cutsOf 27 (.iconst 0) 1 28 := ⟨by decide +kernel, rfl⟩
theorem dX6_cutsOf_28 : zD cX6_cutsOf 28 .iadd 1 29 := ⟨by decide +kernel, rfl⟩
theorem dX6_cutsOf_29 : zD cX6_cutsOf 29 .ireturn 1 30 := ⟨by decide +kernel, rfl⟩
theorem dX6_addPiece_0 : zD cX6_addPiece 0 (.aload_n 0) 1 1 := ⟨by decide +kernel, rfl⟩
theorem dX6_addPiece_1 : zD cX6_addPiece 1 (.getfield 23) 3 4 := ⟨by decide +kernel, rfl⟩
theorem dX6_addPiece_4 : zD cX6_addPiece 4 (.aload_n 0) 1 5 := ⟨by decide +kernel, rfl⟩
theorem dX6_addPiece_5 : zD cX6_addPiece 5 (.getfield 49) 3 8 := ⟨by decide +kernel, rfl⟩
theorem dX6_addPiece_8 : zD cX6_addPiece 8 (.iload_n 1) 1 9 := ⟨by decide +kernel, rfl⟩
theorem dX6_addPiece_9 : zD cX6_addPiece 9 .iastore 1 10 := ⟨by decide +kernel, rfl⟩
theorem dX6_addPiece_10 : zD cX6_addPiece 10 (.aload_n 0) 1 11 := ⟨by decide +kernel, rfl⟩
theorem dX6_addPiece_11 : zD cX6_addPiece 11 (.getfield 26) 3 14 := ⟨by decide +kernel, rfl⟩
theorem dX6_addPiece_14 : zD cX6_addPiece 14 (.aload_n 0) 1 15 := ⟨by decide +kernel, rfl⟩
theorem dX6_addPiece_15 : zD cX6_addPiece 15 (.getfield 49) 3 18 := ⟨by decide +kernel, rfl⟩
theorem dX6_addPiece_18 : zD cX6_addPiece 18 (.iload_n 2) 1 19 := ⟨by decide +kernel, rfl⟩
theorem dX6_addPiece_19 : zD cX6_addPiece 19 .iastore 1 20 := ⟨by decide +kernel, rfl⟩
theorem dX6_addPiece_20 : zD cX6_addPiece 20 (.aload_n 0) 1 21 := ⟨by decide +kernel, rfl⟩
theorem dX6_addPiece_21 : zD cX6_addPiece 21 (.getfield 29) 3 24 := ⟨by decide +kernel, rfl⟩
theorem dX6_addPiece_24 : zD cX6_addPiece 24 (.aload_n 0) 1 25 := ⟨by decide +kernel, rfl⟩
theorem dX6_addPiece_25 : zD cX6_addPiece 25 (.getfield 49) 3 28 := ⟨by decide +kernel, rfl⟩
theorem dX6_addPiece_28 : zD cX6_addPiece 28 (.iload_n 3) 1 29 := ⟨by decide +kernel, rfl⟩
theorem dX6_addPiece_29 : zD cX6_addPiece 29 .iastore 1 30 := ⟨by decide +kernel, rfl⟩
theorem dX6_addPiece_30 : zD cX6_addPiece 30 (.aload_n 0) 1 31 := ⟨by decide +kernel, rfl⟩
theorem dX6_addPiece_31 : zD cX6_addPiece 31 .dup 1 32 := ⟨by decide +kernel, rfl⟩
theorem dX6_addPiece_32 : zD cX6_addPiece 32 (.getfield 49) 3 35 := ⟨by decide +kernel, rfl⟩
theorem dX6_addPiece_35 : zD cX6_addPiece 35 (.iconst 1) 1 36 := ⟨by decide +kernel, rfl⟩
theorem dX6_addPiece_36 : zD cX6_addPiece 36 .iadd 1 37 := ⟨by decide +kernel, rfl⟩
theorem dX6_addPiece_37 : zD cX6_addPiece 37 (.putfield 49) 3 40 := ⟨by decide +kernel, rfl⟩
theorem dX6_addPiece_40 : zD cX6_addPiece 40 .return_ 1 41 := ⟨by decide +kernel, rfl⟩
theorem dX6_apart_0 : zD cX6_apart 0 (.iload_n 1) 1 1 := ⟨by decide +kernel, rfl⟩
theorem dX6_apart_1 : zD cX6_apart 1 (.iload_n 2) 1 2 := ⟨by decide +kernel, rfl⟩
theorem dX6_apart_2 : zD cX6_apart 2 (.if_icmp .ge 9) 3 5 := ⟨by decide +kernel, rfl⟩
theorem dX6_apart_5 : zD cX6_apart 5 (.iload_n 2) 1 6 := ⟨by decide +kernel, rfl⟩
theorem dX6_apart_6 : zD cX6_apart 6 (.iload_n 1) 1 7 := ⟨by decide +kernel, rfl⟩
theorem dX6_apart_7 : zD cX6_apart 7 .isub 1 8 := ⟨by decide +kernel, rfl⟩
theorem dX6_apart_8 : zD cX6_apart 8 (.goto 15) 3 11 := ⟨by decide +kernel, rfl⟩
theorem dX6_apart_11 : zD cX6_apart 11 (.iload_n 3) 1 12 := ⟨by decide +kernel, rfl⟩
theorem dX6_apart_12 : zD cX6_apart 12 (.iload_n 0) 1 13 := ⟨by decide +kernel, rfl⟩
theorem dX6_apart_13 : zD cX6_apart 13 (.if_icmp .ge 9) 3 16 := ⟨by decide +kernel, rfl⟩
theorem dX6_apart_16 : zD cX6_apart 16 (.iload_n 0) 1 17 := ⟨by decide +kernel, rfl⟩
theorem dX6_apart_17 : zD cX6_apart 17 (.iload_n 3) 1 18 := ⟨by decide +kernel, rfl⟩
theorem dX6_apart_18 : zD cX6_apart 18 .isub 1 19 := ⟨by decide +kernel, rfl⟩
theorem dX6_apart_19 : zD cX6_apart 19 (.goto 4) 3 22 := ⟨by decide +kernel, rfl⟩
theorem dX6_apart_22 : zD cX6_apart 22 (.iconst 0) 1 23 := ⟨by decide +kernel, rfl⟩
theorem dX6_apart_23 : zD cX6_apart 23 .ireturn 1 24 := ⟨by decide +kernel, rfl⟩
theorem dX6_gapOf_0 : zD cX6_gapOf 0 (.aload_n 0) 1 1 := ⟨by decide +kernel, rfl⟩
theorem dX6_gapOf_1 : zD cX6_gapOf 1 (.getfield 26) 3 4 := ⟨by decide +kernel, rfl⟩
theorem dX6_gapOf_4 : zD cX6_gapOf 4 (.iload_n 1) 1 5 := ⟨by decide +kernel, rfl⟩
theorem dX6_gapOf_5 : zD cX6_gapOf 5 .iaload 1 6 := ⟨by decide +kernel, rfl⟩
theorem dX6_gapOf_6 : zD cX6_gapOf 6 (.aload_n 0) 1 7 := ⟨by decide +kernel, rfl⟩
theorem dX6_gapOf_7 : zD cX6_gapOf 7 (.getfield 29) 3 10 := ⟨by decide +kernel, rfl⟩
theorem dX6_gapOf_10 : zD cX6_gapOf 10 (.iload_n 1) 1 11 := ⟨by decide +kernel, rfl⟩
theorem dX6_gapOf_11 : zD cX6_gapOf 11 .iaload 1 12 := ⟨by decide +kernel, rfl⟩
theorem dX6_gapOf_12 : zD cX6_gapOf 12 (.aload_n 0) 1 13 := ⟨by decide +kernel, rfl⟩
theorem dX6_gapOf_13 : zD cX6_gapOf 13 (.getfield 26) 3 16 := ⟨by decide +kernel, rfl⟩
theorem dX6_gapOf_16 : zD cX6_gapOf 16 (.iload_n 2) 1 17 := ⟨by decide +kernel, rfl⟩
theorem dX6_gapOf_17 : zD cX6_gapOf 17 .iaload 1 18 := ⟨by decide +kernel, rfl⟩
theorem dX6_gapOf_18 : zD cX6_gapOf 18 (.aload_n 0) 1 19 := ⟨by decide +kernel, rfl⟩
theorem dX6_gapOf_19 : zD cX6_gapOf 19 (.getfield 29) 3 22 := ⟨by decide +kernel, rfl⟩
theorem dX6_gapOf_22 : zD cX6_gapOf 22 (.iload_n 2) 1 23 := ⟨by decide +kernel, rfl⟩
theorem dX6_gapOf_23 : zD cX6_gapOf 23 .iaload 1 24 := ⟨by decide +kernel, rfl⟩
theorem dX6_gapOf_24 : zD cX6_gapOf 24 (.invokestatic 53) 3 27 := ⟨by decide +kernel, rfl⟩
theorem dX6_gapOf_27 : zD cX6_gapOf 27 (.istore_n 3) 1 28 := ⟨by decide +kernel, rfl⟩
theorem dX6_gapOf_28 : zD cX6_gapOf 28 (.aload_n 0) 1 29 := ⟨by decide +kernel, rfl⟩
theorem dX6_gapOf_29 : zD cX6_gapOf 29 (.aload_n 0) 1 30 := ⟨by decide +kernel, rfl⟩
theorem dX6_gapOf_30 : zD cX6_gapOf 30 (.getfield 23) 3 33 := ⟨by decide +kernel, rfl⟩
theorem dX6_gapOf_33 : zD cX6_gapOf 33 (.iload_n 1) 1 34 := ⟨by decide +kernel, rfl⟩
theorem dX6_gapOf_34 : zD cX6_gapOf 34 .iaload 1 35 := ⟨by decide +kernel, rfl⟩
theorem dX6_gapOf_35 : zD cX6_gapOf 35 (.iconst 1) 1 36 := ⟨by decide +kernel, rfl⟩
theorem dX6_gapOf_36 : zD cX6_gapOf 36 (.invokevirtual 45) 3 39 := ⟨by decide +kernel, rfl⟩
theorem dX6_gapOf_39 : zD cX6_gapOf 39 (.aload_n 0) 1 40 := ⟨by decide +kernel, rfl⟩
theorem dX6_gapOf_40 : zD cX6_gapOf 40 (.aload_n 0) 1 41 := ⟨by decide +kernel, rfl⟩
theorem dX6_gapOf_41 : zD cX6_gapOf 41 (.getfield 23) 3 44 := ⟨by decide +kernel, rfl⟩
theorem dX6_gapOf_44 : zD cX6_gapOf 44 (.iload_n 1) 1 45 := ⟨by decide +kernel, rfl⟩
theorem dX6_gapOf_45 : zD cX6_gapOf 45 .iaload 1 46 := ⟨by decide +kernel, rfl⟩
theorem dX6_gapOf_46 : zD cX6_gapOf 46 (.iconst 3) 1 47 := ⟨by decide +kernel, rfl⟩
theorem dX6_gapOf_47 : zD cX6_gapOf 47 (.invokevirtual 45) 3 50 := ⟨by decide +kernel, rfl⟩
theorem dX6_gapOf_50 : zD cX6_gapOf 50 (.aload_n 0) 1 51 := ⟨by decide +kernel, rfl⟩
theorem dX6_gapOf_51 : zD cX6_gapOf 51 (.aload_n 0) 1 52 := ⟨by decide +kernel, rfl⟩
theorem dX6_gapOf_52 : zD cX6_gapOf 52 (.getfield 23) 3 55 := ⟨by decide +kernel, rfl⟩
theorem dX6_gapOf_55 : zD cX6_gapOf 55 (.iload_n 2) 1 56 := ⟨by decide +kernel, rfl⟩
theorem dX6_gapOf_56 : zD cX6_gapOf 56 .iaload 1 57 := ⟨by decide +kernel, rfl⟩
theorem dX6_gapOf_57 : zD cX6_gapOf 57 (.iconst 1) 1 58 := ⟨by decide +kernel, rfl⟩
theorem dX6_gapOf_58 : zD cX6_gapOf 58 (.invokevirtual 45) 3 61 := ⟨by decide +kernel, rfl⟩
theorem dX6_gapOf_61 : zD cX6_gapOf 61 (.aload_n 0) 1 62 := ⟨by decide +kernel, rfl⟩
theorem dX6_gapOf_62 : zD cX6_gapOf 62 (.aload_n 0) 1 63 := ⟨by decide +kernel, rfl⟩
theorem dX6_gapOf_63 : zD cX6_gapOf 63 (.getfield 23) 3 66 := ⟨by decide +kernel, rfl⟩
theorem dX6_gapOf_66 : zD cX6_gapOf 66 (.iload_n 2) 1 67 := ⟨by decide +kernel, rfl⟩
theorem dX6_gapOf_67 : zD cX6_gapOf 67 .iaload 1 68 := ⟨by decide +kernel, rfl⟩
theorem dX6_gapOf_68 : zD cX6_gapOf 68 (.iconst 3) 1 69 := ⟨by decide +kernel, rfl⟩
theorem dX6_gapOf_69 : zD cX6_gapOf 69 (.invokevirtual 45) 3 72 := ⟨by decide +kernel, rfl⟩
theorem dX6_gapOf_72 : zD cX6_gapOf 72 (.invokestatic 53) 3 75 := ⟨by decide +kernel, rfl⟩
theorem dX6_gapOf_75 : zD cX6_gapOf 75 (.istore 4) 2 77 := ⟨by decide +kernel, rfl⟩
theorem dX6_gapOf_77 : zD cX6_gapOf 77 (.iload_n 3) 1 78 := ⟨by decide +kernel, rfl⟩
theorem dX6_gapOf_78 : zD cX6_gapOf 78 (.iload_n 3) 1 79 := ⟨by decide +kernel, rfl⟩
theorem dX6_gapOf_79 : zD cX6_gapOf 79 .imul 1 80 := ⟨by decide +kernel, rfl⟩
theorem dX6_gapOf_80 : zD cX6_gapOf 80 (.iload 4) 2 82 := ⟨by decide +kernel, rfl⟩
theorem dX6_gapOf_82 : zD cX6_gapOf 82 (.iload 4) 2 84 := ⟨by decide +kernel, rfl⟩
theorem dX6_gapOf_84 : zD cX6_gapOf 84 .imul 1 85 := ⟨by decide +kernel, rfl⟩
theorem dX6_gapOf_85 : zD cX6_gapOf 85 .iadd 1 86 := ⟨by decide +kernel, rfl⟩
theorem dX6_gapOf_86 : zD cX6_gapOf 86 .ireturn 1 87 := ⟨by decide +kernel, rfl⟩
theorem dX6_areaOf_0 : zD cX6_areaOf 0 (.aload_n 0) 1 1 := ⟨by decide +kernel, rfl⟩
theorem dX6_areaOf_1 : zD cX6_areaOf 1 (.getfield 29) 3 4 := ⟨by decide +kernel, rfl⟩
theorem dX6_areaOf_4 : zD cX6_areaOf 4 (.iload_n 1) 1 5 := ⟨by decide +kernel, rfl⟩
theorem dX6_areaOf_5 : zD cX6_areaOf 5 .iaload 1 6 := ⟨by decide +kernel, rfl⟩
theorem dX6_areaOf_6 : zD cX6_areaOf 6 (.aload_n 0) 1 7 := ⟨by decide +kernel, rfl⟩
theorem dX6_areaOf_7 : zD cX6_areaOf 7 (.getfield 26) 3 10 := ⟨by decide +kernel, rfl⟩
theorem dX6_areaOf_10 : zD cX6_areaOf 10 (.iload_n 1) 1 11 := ⟨by decide +kernel, rfl⟩
theorem dX6_areaOf_11 : zD cX6_areaOf 11 .iaload 1 12 := ⟨by decide +kernel, rfl⟩
theorem dX6_areaOf_12 : zD cX6_areaOf 12 .isub 1 13 := ⟨by decide +kernel, rfl⟩
theorem dX6_areaOf_13 : zD cX6_areaOf 13 (.iconst 1) 1 14 := ⟨by decide +kernel, rfl⟩
theorem dX6_areaOf_14 : zD cX6_areaOf 14 .iadd 1 15 := ⟨by decide +kernel, rfl⟩
theorem dX6_areaOf_15 : zD cX6_areaOf 15 (.aload_n 0) 1 16 := ⟨by decide +kernel, rfl⟩
theorem dX6_areaOf_16 : zD cX6_areaOf 16 (.aload_n 0) 1 17 := ⟨by decide +kernel, rfl⟩
theorem dX6_areaOf_17 : zD cX6_areaOf 17 (.getfield 23) 3 20 := ⟨by decide +kernel, rfl⟩
theorem dX6_areaOf_20 : zD cX6_areaOf 20 (.iload_n 1) 1 21 := ⟨by decide +kernel, rfl⟩
theorem dX6_areaOf_21 : zD cX6_areaOf 21 .iaload 1 22 := ⟨by decide +kernel, rfl⟩
theorem dX6_areaOf_22 : zD cX6_areaOf 22 (.iconst 3) 1 23 := ⟨by decide +kernel, rfl⟩
theorem dX6_areaOf_23 : zD cX6_areaOf 23 (.invokevirtual 45) 3 26 := ⟨by decide +kernel, rfl⟩
theorem dX6_areaOf_26 : zD cX6_areaOf 26 (.aload_n 0) 1 27 := ⟨by decide +kernel, rfl⟩
theorem dX6_areaOf_27 : zD cX6_areaOf 27 (.aload_n 0) 1 28 := ⟨by decide +kernel, rfl⟩
theorem dX6_areaOf_28 : zD cX6_areaOf 28 (.getfield 23) 3 31 := ⟨by decide +kernel, rfl⟩
theorem dX6_areaOf_31 : zD cX6_areaOf 31 (.iload_n 1) 1 32 := ⟨by decide +kernel, rfl⟩
theorem dX6_areaOf_32 : zD cX6_areaOf 32 .iaload 1 33 := ⟨by decide +kernel, rfl⟩
theorem dX6_areaOf_33 : zD cX6_areaOf 33 (.iconst 1) 1 34 := ⟨by decide +kernel, rfl⟩
theorem dX6_areaOf_34 : zD cX6_areaOf 34 (.invokevirtual 45) 3 37 := ⟨by decide +kernel, rfl⟩
theorem dX6_areaOf_37 : zD cX6_areaOf 37 .isub 1 38 := ⟨by decide +kernel, rfl⟩
theorem dX6_areaOf_38 : zD cX6_areaOf 38 (.iconst 1) 1 39 := ⟨by decide +kernel, rfl⟩
theorem dX6_areaOf_39 : zD cX6_areaOf 39 .iadd 1 40 := ⟨by decide +kernel, rfl⟩
theorem dX6_areaOf_40 : zD cX6_areaOf 40 .imul 1 41 := ⟨by decide +kernel, rfl⟩
theorem dX6_areaOf_41 : zD cX6_areaOf 41 .ireturn 1 42 := ⟨by decide +kernel, rfl⟩
theorem dX6_lay_0 : zD cX6_lay 0 (.aload_n 0) 1 1 := ⟨by decide +kernel, rfl⟩
theorem dX6_lay_1 : zD cX6_lay 1 (.iconst 0) 1 2 := ⟨by decide +kernel, rfl⟩
theorem dX6_lay_2 : zD cX6_lay 2 (.putfield 49) 3 5 := ⟨by decide +kernel, rfl⟩
theorem dX6_lay_5 : zD cX6_lay 5 (.iconst 0) 1 6 := ⟨by decide +kernel, rfl⟩
theorem dX6_lay_6 : zD cX6_lay 6 (.istore_n 1) 1 7 := ⟨by decide +kernel, rfl⟩
theorem dX6_lay_7 : zD cX6_lay 7 (.iload_n 1) 1 8 := ⟨by decide +kernel, rfl⟩
theorem dX6_lay_8 : zD cX6_lay 8 (.aload_n 0) 1 9 := ⟨by decide +kernel, rfl⟩
theorem dX6_lay_9 : zD cX6_lay 9 (.getfield 7) 3 12 := ⟨by decide +kernel, rfl⟩
theorem dX6_lay_12 : zD cX6_lay 12 (.iconst 0) 1 13 := ⟨by decide +kernel, rfl⟩
theorem dX6_lay_13 : zD cX6_lay 13 .iaload 1 14 := ⟨by decide +kernel, rfl⟩
theorem dX6_lay_14 : zD cX6_lay 14 (.if_icmp .ge 72) 3 17 := ⟨by decide +kernel, rfl⟩
theorem dX6_lay_17 : zD cX6_lay 17 (.aload_n 0) 1 18 := ⟨by decide +kernel, rfl⟩
theorem dX6_lay_18 : zD cX6_lay 18 (.iload_n 1) 1 19 := ⟨by decide +kernel, rfl⟩
theorem dX6_lay_19 : zD cX6_lay 19 (.iconst 0) 1 20 := ⟨by decide +kernel, rfl⟩
theorem dX6_lay_20 : zD cX6_lay 20 (.invokevirtual 45) 3 23 := ⟨by decide +kernel, rfl⟩
theorem dX6_lay_23 : zD cX6_lay 23 (.istore_n 2) 1 24 := ⟨by decide +kernel, rfl⟩
theorem dX6_lay_24 : zD cX6_lay 24 (.iconst 4) 1 25 := ⟨by decide +kernel, rfl⟩
theorem dX6_lay_25 : zD cX6_lay 25 (.istore_n 3) 1 26 := ⟨by decide +kernel, rfl⟩
theorem dX6_lay_26 : zD cX6_lay 26 (.iload_n 3) 1 27 := ⟨by decide +kernel, rfl⟩
theorem dX6_lay_27 : zD cX6_lay 27 (.bipush 6) 2 29 := ⟨by decide +kernel, rfl⟩
theorem dX6_lay_29 : zD cX6_lay 29 (.if_icmp .ge 39) 3 32 := ⟨by decide +kernel, rfl⟩
theorem dX6_lay_32 : zD cX6_lay 32 (.aload_n 0) 1 33 := ⟨by decide +kernel, rfl⟩
theorem dX6_lay_33 : zD cX6_lay 33 (.iload_n 1) 1 34 := ⟨by decide +kernel, rfl⟩
theorem dX6_lay_34 : zD cX6_lay 34 (.iload_n 3) 1 35 := ⟨by decide +kernel, rfl⟩
theorem dX6_lay_35 : zD cX6_lay 35 (.invokevirtual 45) 3 38 := ⟨by decide +kernel, rfl⟩
theorem dX6_lay_38 : zD cX6_lay 38 (.ifCond .le 24) 3 41 := ⟨by decide +kernel, rfl⟩
theorem dX6_lay_41 : zD cX6_lay 41 (.aload_n 0) 1 42 := ⟨by decide +kernel, rfl⟩
theorem dX6_lay_42 : zD cX6_lay 42 (.iload_n 1) 1 43 := ⟨by decide +kernel, rfl⟩
theorem dX6_lay_43 : zD cX6_lay 43 (.iload_n 2) 1 44 := ⟨by decide +kernel, rfl⟩
theorem dX6_lay_44 : zD cX6_lay 44 (.aload_n 0) 1 45 := ⟨by decide +kernel, rfl⟩
theorem dX6_lay_45 : zD cX6_lay 45 (.iload_n 1) 1 46 := ⟨by decide +kernel, rfl⟩
theorem dX6_lay_46 : zD cX6_lay 46 (.iload_n 3) 1 47 := ⟨by decide +kernel, rfl⟩
theorem dX6_lay_47 : zD cX6_lay 47 (.invokevirtual 45) 3 50 := ⟨by decide +kernel, rfl⟩
theorem dX6_lay_50 : zD cX6_lay 50 (.iconst 1) 1 51 := ⟨by decide +kernel, rfl⟩
theorem dX6_lay_51 : zD cX6_lay 51 .isub 1 52 := ⟨by decide +kernel, rfl⟩
theorem dX6_lay_52 : zD cX6_lay 52 (.invokevirtual 57) 3 55 := ⟨by decide +kernel, rfl⟩
theorem dX6_lay_55 : zD cX6_lay 55 (.aload_n 0) 1 56 := ⟨by decide +kernel, rfl⟩
theorem dX6_lay_56 : zD cX6_lay 56 (.iload_n 1) 1 57 := ⟨by decide +kernel, rfl⟩
theorem dX6_lay_57 : zD cX6_lay 57 (.iload_n 3) 1 58 := ⟨by decide +kernel, rfl⟩
theorem dX6_lay_58 : zD cX6_lay 58 (.invokevirtual 45) 3 61 := ⟨by decide +kernel, rfl⟩
theorem dX6_lay_61 : zD cX6_lay 61 (.istore_n 2) 1 62 := ⟨by decide +kernel, rfl⟩
theorem dX6_lay_62 : zD cX6_lay 62 (.iinc 3 1) 3 65 := ⟨by decide +kernel, rfl⟩
theorem dX6_lay_65 : zD cX6_lay 65 (.goto (-39)) 3 68 := ⟨by decide +kernel, rfl⟩
theorem dX6_lay_68 : zD cX6_lay 68 (.aload_n 0) 1 69 := ⟨by decide +kernel, rfl⟩
theorem dX6_lay_69 : zD cX6_lay 69 (.iload_n 1) 1 70 := ⟨by decide +kernel, rfl⟩
theorem dX6_lay_70 : zD cX6_lay 70 (.iload_n 2) 1 71 := ⟨by decide +kernel, rfl⟩
theorem dX6_lay_71 : zD cX6_lay 71 (.aload_n 0) 1 72 := ⟨by decide +kernel, rfl⟩
theorem dX6_lay_72 : zD cX6_lay 72 (.iload_n 1) 1 73 := ⟨by decide +kernel, rfl⟩
theorem dX6_lay_73 : zD cX6_lay 73 (.iconst 2) 1 74 := ⟨by decide +kernel, rfl⟩
theorem dX6_lay_74 : zD cX6_lay 74 (.invokevirtual 45) 3 77 := ⟨by decide +kernel, rfl⟩
theorem dX6_lay_77 : zD cX6_lay 77 (.invokevirtual 57) 3 80 := ⟨by decide +kernel, rfl⟩
theorem dX6_lay_80 : zD cX6_lay 80 (.iinc 1 1) 3 83 := ⟨by decide +kernel, rfl⟩
theorem dX6_lay_83 : zD cX6_lay 83 (.goto (-76)) 3 86 := ⟨by decide +kernel, rfl⟩
theorem dX6_lay_86 : zD cX6_lay 86 (.iconst 0) 1 87 := ⟨by decide +kernel, rfl⟩
theorem dX6_lay_87 : zD cX6_lay 87 (.istore_n 1) 1 88 := ⟨by decide +kernel, rfl⟩
theorem dX6_lay_88 : zD cX6_lay 88 (.iload_n 1) 1 89 := ⟨by decide +kernel, rfl⟩
theorem dX6_lay_89 : zD cX6_lay 89 (.aload_n 0) 1 90 := ⟨by decide +kernel, rfl⟩
theorem dX6_lay_90 : zD cX6_lay 90 (.getfield 49) 3 93 := ⟨by decide +kernel, rfl⟩
theorem dX6_lay_93 : zD cX6_lay 93 (.if_icmp .ge 138) 3 96 := ⟨by decide +kernel, rfl⟩
theorem dX6_lay_96 : zD cX6_lay 96 (.aload_n 0) 1 97 := ⟨by decide +kernel, rfl⟩
theorem dX6_lay_97 : zD cX6_lay 97 (.getfield 32) 3 100 := ⟨by decide +kernel, rfl⟩
theorem dX6_lay_100 : zD cX6_lay 100 (.iload_n 1) 1 101 := ⟨by decide +kernel, rfl⟩
theorem dX6_lay_101 : zD cX6_lay 101 (.iconst 0) 1 102 := ⟨by decide +kernel, rfl⟩
theorem dX6_lay_102 : zD cX6_lay 102 .iastore 1 103 := ⟨by decide +kernel, rfl⟩
theorem dX6_lay_103 : zD cX6_lay 103 (.aload_n 0) 1 104 := ⟨by decide +kernel, rfl⟩
theorem dX6_lay_104 : zD cX6_lay 104 (.getfield 35) 3 107 := ⟨by decide +kernel, rfl⟩
theorem dX6_lay_107 : zD cX6_lay 107 (.iload_n 1) 1 108 := ⟨by decide +kernel, rfl⟩
theorem dX6_lay_108 : zD cX6_lay 108 (.iconst 0) 1 109 := ⟨by decide +kernel, rfl⟩
theorem dX6_lay_109 : zD cX6_lay 109 .iastore 1 110 := ⟨by decide +kernel, rfl⟩
theorem dX6_lay_110 : zD cX6_lay 110 (.iconst 0) 1 111 := ⟨by decide +kernel, rfl⟩
theorem dX6_lay_111 : zD cX6_lay 111 (.istore_n 2) 1 112 := ⟨by decide +kernel, rfl⟩
theorem dX6_lay_112 : zD cX6_lay 112 (.iload_n 2) 1 113 := ⟨by decide +kernel, rfl⟩
theorem dX6_lay_113 : zD cX6_lay 113 (.aload_n 0) 1 114 := ⟨by decide +kernel, rfl⟩
theorem dX6_lay_114 : zD cX6_lay 114 (.getfield 49) 3 117 := ⟨by decide +kernel, rfl⟩
theorem dX6_lay_117 : zD cX6_lay 117 (.if_icmp .ge 108) 3 120 := ⟨by decide +kernel, rfl⟩
theorem dX6_lay_120 : zD cX6_lay 120 (.aload_n 0) 1 121 := ⟨by decide +kernel, rfl⟩
theorem dX6_lay_121 : zD cX6_lay 121 (.getfield 23) 3 124 := ⟨by decide +kernel, rfl⟩
theorem dX6_lay_124 : zD cX6_lay 124 (.iload_n 1) 1 125 := ⟨by decide +kernel, rfl⟩
theorem dX6_lay_125 : zD cX6_lay 125 .iaload 1 126 := ⟨by decide +kernel, rfl⟩
theorem dX6_lay_126 : zD cX6_lay 126 (.aload_n 0) 1 127 := ⟨by decide +kernel, rfl⟩
theorem dX6_lay_127 : zD cX6_lay 127 (.getfield 23) 3 130 := ⟨by decide +kernel, rfl⟩
theorem dX6_lay_130 : zD cX6_lay 130 (.iload_n 2) 1 131 := ⟨by decide +kernel, rfl⟩
theorem dX6_lay_131 : zD cX6_lay 131 .iaload 1 132 := ⟨by decide +kernel, rfl⟩
theorem dX6_lay_132 : zD cX6_lay 132 (.if_icmp .ne 7) 3 135 := ⟨by decide +kernel, rfl⟩
theorem dX6_lay_135 : zD cX6_lay 135 (.iconst 1) 1 136 := ⟨by decide +kernel, rfl⟩
theorem dX6_lay_136 : zD cX6_lay 136 (.goto 4) 3 139 := ⟨by decide +kernel, rfl⟩
theorem dX6_lay_139 : zD cX6_lay 139 (.iconst 0) 1 140 := ⟨by decide +kernel, rfl⟩
theorem dX6_lay_140 : zD cX6_lay 140 (.istore_n 3) 1 141 := ⟨by decide +kernel, rfl⟩
theorem dX6_lay_141 : zD cX6_lay 141 (.aload_n 0) 1 142 := ⟨by decide +kernel, rfl⟩
theorem dX6_lay_142 : zD cX6_lay 142 (.getfield 32) 3 145 := ⟨by decide +kernel, rfl⟩
theorem dX6_lay_145 : zD cX6_lay 145 (.iload_n 1) 1 146 := ⟨by decide +kernel, rfl⟩
theorem dX6_lay_146 : zD cX6_lay 146 .dup2 1 147 := ⟨by decide +kernel, rfl⟩
theorem dX6_lay_147 : zD cX6_lay 147 .iaload 1 148 := ⟨by decide +kernel, rfl⟩
theorem dX6_lay_148 : zD cX6_lay 148 (.iload_n 3) 1 149 := ⟨by decide +kernel, rfl⟩
theorem dX6_lay_149 : zD cX6_lay 149 (.ifCond .ne 33) 3 152 := ⟨by decide +kernel, rfl⟩
theorem dX6_lay_152 : zD cX6_lay 152 (.aload_n 0) 1 153 := ⟨by decide +kernel, rfl⟩
theorem dX6_lay_153 : zD cX6_lay 153 (.iload_n 1) 1 154 := ⟨by decide +kernel, rfl⟩
theorem dX6_lay_154 : zD cX6_lay 154 (.iload_n 2) 1 155 := ⟨by decide +kernel, rfl⟩
theorem dX6_lay_155 : zD cX6_lay 155 (.invokevirtual 61) 3 158 := ⟨by decide +kernel, rfl⟩
theorem dX6_lay_158 : zD cX6_lay 158 (.aload_n 0) 1 159 := ⟨by decide +kernel, rfl⟩
theorem dX6_lay_159 : zD cX6_lay 159 (.getfield 7) 3 162 := ⟨by decide +kernel, rfl⟩
theorem dX6_lay_162 : zD cX6_lay 162 (.bipush 61) 2 164 := ⟨by decide +kernel, rfl⟩
theorem dX6_lay_164 : zD cX6_lay 164 .iaload 1 165 := ⟨by decide +kernel, rfl⟩
theorem dX6_lay_165 : zD cX6_lay 165 (.aload_n 0) 1 166 := ⟨by decide +kernel, rfl⟩
theorem dX6_lay_166 : zD cX6_lay 166 (.getfield 7) 3 169 := ⟨by decide +kernel, rfl⟩
theorem dX6_lay_169 : zD cX6_lay 169 (.bipush 61) 2 171 := ⟨by decide +kernel, rfl⟩
theorem dX6_lay_171 : zD cX6_lay 171 .iaload 1 172 := ⟨by decide +kernel, rfl⟩
theorem dX6_lay_172 : zD cX6_lay 172 .imul 1 173 := ⟨by decide +kernel, rfl⟩
theorem dX6_lay_173 : zD cX6_lay 173 (.if_icmp .ge 9) 3 176 := ⟨by decide +kernel, rfl⟩
theorem dX6_lay_176 : zD cX6_lay 176 (.iconst 1) 1 177 := ⟨by decide +kernel, rfl⟩
theorem dX6_lay_177 : zD cX6_lay 177 (.iload_n 2) 1 178 := ⟨by decide +kernel, rfl⟩
theorem dX6_lay_178 : zD cX6_lay 178 .ishl 1 179 := ⟨by decide +kernel, rfl⟩
theorem dX6_lay_179 : zD cX6_lay 179 (.goto 4) 3 182 := ⟨by decide +kernel, rfl⟩
theorem dX6_lay_182 : zD cX6_lay 182 (.iconst 0) 1 183 := ⟨by decide +kernel, rfl⟩
theorem dX6_lay_183 : zD cX6_lay 183 .ior 1 184 := ⟨by decide +kernel, rfl⟩
theorem dX6_lay_184 : zD cX6_lay 184 .iastore 1 185 := ⟨by decide +kernel, rfl⟩
theorem dX6_lay_185 : zD cX6_lay 185 (.aload_n 0) 1 186 := ⟨by decide +kernel, rfl⟩
theorem dX6_lay_186 : zD cX6_lay 186 (.getfield 35) 3 189 := ⟨by decide +kernel, rfl⟩
theorem dX6_lay_189 : zD cX6_lay 189 (.iload_n 1) 1 190 := ⟨by decide +kernel, rfl⟩
theorem dX6_lay_190 : zD cX6_lay 190 .dup2 1 191 := ⟨by decide +kernel, rfl⟩
theorem dX6_lay_191 : zD cX6_lay 191 .iaload 1 192 := ⟨by decide +kernel, rfl⟩
theorem dX6_lay_192 : zD cX6_lay 192 (.iload_n 3) 1 193 := ⟨by decide +kernel, rfl⟩
theorem dX6_lay_193 : zD cX6_lay 193 (.ifCond .eq 23) 3 196 := ⟨by decide +kernel, rfl⟩
theorem dX6_lay_196 : zD cX6_lay 196 (.iload_n 2) 1 197 := ⟨by decide +kernel, rfl⟩
theorem dX6_lay_197 : zD cX6_lay 197 (.iload_n 1) 1 198 := ⟨by decide +kernel, rfl⟩
theorem dX6_lay_198 : zD cX6_lay 198 (.iconst 1) 1 199 := ⟨by decide +kernel, rfl⟩
theorem dX6_lay_199 : zD cX6_lay 199 .iadd 1 200 := ⟨by decide +kernel, rfl⟩
theorem dX6_lay_200 : zD cX6_lay 200 (.if_icmp .eq 10) 3 203 := ⟨by decide +kernel, rfl⟩
theorem dX6_lay_203 : zD cX6_lay 203 (.iload_n 2) 1 204 := ⟨by decide +kernel, rfl⟩
theorem dX6_lay_204 : zD cX6_lay 204 (.iload_n 1) 1 205 := ⟨by decide +kernel, rfl⟩
theorem dX6_lay_205 : zD cX6_lay 205 (.iconst 1) 1 206 := ⟨by decide +kernel, rfl⟩
theorem dX6_lay_206 : zD cX6_lay 206 .isub 1 207 := ⟨by decide +kernel, rfl⟩
theorem dX6_lay_207 : zD cX6_lay 207 (.if_icmp .ne 9) 3 210 := ⟨by decide +kernel, rfl⟩
theorem dX6_lay_210 : zD cX6_lay 210 (.iconst 1) 1 211 := ⟨by decide +kernel, rfl⟩
theorem dX6_lay_211 : zD cX6_lay 211 (.iload_n 2) 1 212 := ⟨by decide +kernel, rfl⟩
theorem dX6_lay_212 : zD cX6_lay 212 .ishl 1 213 := ⟨by decide +kernel, rfl⟩
theorem dX6_lay_213 : zD cX6_lay 213 (.goto 4) 3 216 := ⟨by decide +kernel, rfl⟩
theorem dX6_lay_216 : zD cX6_lay 216 (.iconst 0) 1 217 := ⟨by decide +kernel, rfl⟩
theorem dX6_lay_217 : zD cX6_lay 217 .ior 1 218 := ⟨by decide +kernel, rfl⟩
theorem dX6_lay_218 : zD cX6_lay 218 .iastore 1 219 := ⟨by decide +kernel, rfl⟩
theorem dX6_lay_219 : zD cX6_lay 219 (.iinc 2 1) 3 222 := ⟨by decide +kernel, rfl⟩
theorem dX6_lay_222 : zD cX6_lay 222 (.goto (-110)) 3 225 := ⟨by decide +kernel, rfl⟩
theorem dX6_lay_225 : zD cX6_lay 225 (.iinc 1 1) 3 228 := ⟨by decide +kernel, rfl⟩
theorem dX6_lay_228 : zD cX6_lay 228 (.goto (-140)) 3 231 := ⟨by decide +kernel, rfl⟩
theorem dX6_lay_231 : zD cX6_lay 231 .return_ 1 232 := ⟨by decide +kernel, rfl⟩
theorem dX6_manyPieces_0 : zD cX6_manyPieces 0 (.iconst 0) 1 1 := ⟨by decide +kernel, rfl⟩
theorem dX6_manyPieces_1 : zD cX6_manyPieces 1 (.istore_n 1) 1 2 := ⟨by decide +kernel, rfl⟩
theorem dX6_manyPieces_2 : zD cX6_manyPieces 2 (.iconst 0) 1 3 := ⟨by decide +kernel, rfl⟩
theorem dX6_manyPieces_3 : zD cX6_manyPieces 3 (.istore_n 2) 1 4 := ⟨by decide +kernel, rfl⟩
theorem dX6_manyPieces_4 : zD cX6_manyPieces 4 (.iload_n 2) 1 5 := ⟨by decide +kernel, rfl⟩
theorem dX6_manyPieces_5 : zD cX6_manyPieces 5 (.aload_n 0) 1 6 := ⟨by decide +kernel, rfl⟩
theorem dX6_manyPieces_6 : zD cX6_manyPieces 6 (.getfield 7) 3 9 := ⟨by decide +kernel, rfl⟩
theorem dX6_manyPieces_9 : zD cX6_manyPieces 9 (.iconst 0) 1 10 := ⟨by decide +kernel, rfl⟩
theorem dX6_manyPieces_10 : zD cX6_manyPieces 10 .iaload 1 11 := ⟨by decide +kernel, rfl⟩
theorem dX6_manyPieces_11 : zD cX6_manyPieces 11 (.if_icmp .ge 19) 3 14 := ⟨by decide +kernel, rfl⟩
theorem dX6_manyPieces_14 : zD cX6_manyPieces 14 (.iload_n 1) 1 15 := ⟨by decide +kernel, rfl⟩
theorem dX6_manyPieces_15 : zD cX6_manyPieces 15 (.iconst 1) 1 16 := ⟨by decide +kernel, rfl⟩
theorem dX6_manyPieces_16 : zD cX6_manyPieces 16 (.aload_n 0) 1 17 := ⟨by decide +kernel, rfl⟩
theorem dX6_manyPieces_17 : zD cX6_manyPieces 17 (.iload_n 2) 1 18 := ⟨by decide +kernel, rfl⟩
theorem dX6_manyPieces_18 : zD cX6_manyPieces 18 (.invokevirtual 64) 3 21 := ⟨by decide +kernel, rfl⟩
theorem dX6_manyPieces_21 : zD cX6_manyPieces 21 .iadd 1 22 := ⟨by decide +kernel, rfl⟩
theorem dX6_manyPieces_22 : zD cX6_manyPieces 22 .iadd 1 23 := ⟨by decide +kernel, rfl⟩
theorem dX6_manyPieces_23 : zD cX6_manyPieces 23 (.istore_n 1) 1 24 := ⟨by decide +kernel, rfl⟩
theorem dX6_manyPieces_24 : zD cX6_manyPieces 24 (.iinc 2 1) 3 27 := ⟨by decide +kernel, rfl⟩
theorem dX6_manyPieces_27 : zD cX6_manyPieces 27 (.goto (-23)) 3 30 := ⟨by decide +kernel, rfl⟩
theorem dX6_manyPieces_30 : zD cX6_manyPieces 30 (.iload_n 1) 1 31 := ⟨by decide +kernel, rfl⟩
theorem dX6_manyPieces_31 : zD cX6_manyPieces 31 .ireturn 1 32 := ⟨by decide +kernel, rfl⟩
theorem dX6_all_0 : zD cX6_all 0 (.iconst 1) 1 1 := ⟨by decide +kernel, rfl⟩
theorem dX6_all_1 : zD cX6_all 1 (.aload_n 0) 1 2 := ⟨by decide +kernel, rfl⟩
theorem dX6_all_2 : zD cX6_all 2 (.getfield 49) 3 5 := ⟨by decide +kernel, rfl⟩
theorem dX6_all_5 : zD cX6_all 5 .ishl 1 6 := ⟨by decide +kernel, rfl⟩
theorem dX6_all_6 : zD cX6_all 6 (.iconst 1) 1 7 := ⟨by decide +kernel, rfl⟩
theorem dX6_all_7 : zD cX6_all 7 .isub 1 8 := ⟨by decide +kernel, rfl⟩
theorem dX6_all_8 : zD cX6_all 8 .ireturn 1 9 := ⟨by decide +kernel, rfl⟩
theorem dX6_clashesOf_0 : zD cX6_clashesOf 0 (.iconst 0) 1 1 := ⟨by decide +kernel, rfl⟩
theorem dX6_clashesOf_1 : zD cX6_clashesOf 1 (.istore_n 2) 1 2 := ⟨by decide +kernel, rfl⟩
theorem dX6_clashesOf_2 : zD cX6_clashesOf 2 (.iconst 0) 1 3 := ⟨by decide +kernel, rfl⟩
theorem dX6_clashesOf_3 : zD cX6_clashesOf 3 (.istore_n 3) 1 4 := ⟨by decide +kernel, rfl⟩
theorem dX6_clashesOf_4 : zD cX6_clashesOf 4 (.iload_n 3) 1 5 := ⟨by decide +kernel, rfl⟩
theorem dX6_clashesOf_5 : zD cX6_clashesOf 5 (.aload_n 0) 1 6 := ⟨by decide +kernel, rfl⟩
theorem dX6_clashesOf_6 : zD cX6_clashesOf 6 (.getfield 49) 3 9 := ⟨by decide +kernel, rfl⟩
theorem dX6_clashesOf_9 : zD cX6_clashesOf 9 (.if_icmp .ge 46) 3 12 := ⟨by decide +kernel, rfl⟩
theorem dX6_clashesOf_12 : zD cX6_clashesOf 12 (.iload_n 1) 1 13 := ⟨by decide +kernel, rfl⟩
theorem dX6_clashesOf_13 : zD cX6_clashesOf 13 (.iload_n 3) 1 14 := ⟨by decide +kernel, rfl⟩
theorem dX6_clashesOf_14 : zD cX6_clashesOf 14 (.invokestatic 68) 3 17 := ⟨by decide +kernel, rfl⟩
theorem dX6_clashesOf_17 : zD cX6_clashesOf 17 (.ifCond .eq 7) 3 20 := ⟨by decide +kernel, rfl⟩
theorem dX6_clashesOf_20 : zD cX6_clashesOf 20 (.iload_n 1) 1 21 := ⟨by decide +kernel, rfl⟩
theorem dX6_clashesOf_21 : zD cX6_clashesOf 21 (.goto 11) 3 24 := ⟨by decide +kernel, rfl⟩
theorem dX6_clashesOf_24 : zD cX6_clashesOf 24 (.iload_n 1) 1 25 := ⟨by decide +kernel, rfl⟩
theorem dX6_clashesOf_25 : zD cX6_clashesOf 25 (.iconst (-1)) 1 26 := ⟨by decide +kernel, rfl⟩
theorem dX6_clashesOf_26 : zD cX6_clashesOf 26 .ixor 1 27 := ⟨by decide +kernel, rfl⟩
theorem dX6_clashesOf_27 : zD cX6_clashesOf 27 (.aload_n 0) 1 28 := ⟨by decide +kernel, rfl⟩
theorem dX6_clashesOf_28 : zD cX6_clashesOf 28 (.invokevirtual 72) 3 31 := ⟨by decide +kernel, rfl⟩
theorem dX6_clashesOf_31 : zD cX6_clashesOf 31 .iand 1 32 := ⟨by decide +kernel, rfl⟩
theorem dX6_clashesOf_32 : zD cX6_clashesOf 32 (.istore 4) 2 34 := ⟨by decide +kernel, rfl⟩
theorem dX6_clashesOf_34 : zD cX6_clashesOf 34 (.iload_n 2) 1 35 := ⟨by decide +kernel, rfl⟩
theorem dX6_clashesOf_35 : zD cX6_clashesOf 35 (.aload_n 0) 1 36 := ⟨by decide +kernel, rfl⟩
theorem dX6_clashesOf_36 : zD cX6_clashesOf 36 (.getfield 32) 3 39 := ⟨by decide +kernel, rfl⟩
theorem dX6_clashesOf_39 : zD cX6_clashesOf 39 (.iload_n 3) 1 40 := ⟨by decide +kernel, rfl⟩
theorem dX6_clashesOf_40 : zD cX6_clashesOf 40 .iaload 1 41 := ⟨by decide +kernel, rfl⟩
theorem dX6_clashesOf_41 : zD cX6_clashesOf 41 (.iload 4) 2 43 := ⟨by decide +kernel, rfl⟩
theorem dX6_clashesOf_43 : zD cX6_clashesOf 43 .iand 1 44 := ⟨by decide +kernel, rfl⟩
theorem dX6_clashesOf_44 : zD cX6_clashesOf 44 (.invokestatic 76) 3 47 := ⟨by decide +kernel, rfl⟩
theorem dX6_clashesOf_47 : zD cX6_clashesOf 47 .iadd 1 48 := ⟨by decide +kernel, rfl⟩
theorem dX6_clashesOf_48 : zD cX6_clashesOf 48 (.istore_n 2) 1 49 := ⟨by decide +kernel, rfl⟩
theorem dX6_clashesOf_49 : zD cX6_clashesOf 49 (.iinc 3 1) 3 52 := ⟨by decide +kernel, rfl⟩
theorem dX6_clashesOf_52 : zD cX6_clashesOf 52 (.goto (-48)) 3 55 := ⟨by decide +kernel, rfl⟩
theorem dX6_clashesOf_55 : zD cX6_clashesOf 55 (.iload_n 2) 1 56 := ⟨by decide +kernel, rfl⟩
theorem dX6_clashesOf_56 : zD cX6_clashesOf 56 (.iconst 2) 1 57 := ⟨by decide +kernel, rfl⟩
theorem dX6_clashesOf_57 : zD cX6_clashesOf 57 .idiv 1 58 := ⟨by decide +kernel, rfl⟩
theorem dX6_clashesOf_58 : zD cX6_clashesOf 58 .ireturn 1 59 := ⟨by decide +kernel, rfl⟩
theorem dX6_stitchesOf_0 : zD cX6_stitchesOf 0 (.iconst 0) 1 1 := ⟨by decide +kernel, rfl⟩
theorem dX6_stitchesOf_1 : zD cX6_stitchesOf 1 (.istore_n 2) 1 2 := ⟨by decide +kernel, rfl⟩
theorem dX6_stitchesOf_2 : zD cX6_stitchesOf 2 (.iconst 0) 1 3 := ⟨by decide +kernel, rfl⟩
theorem dX6_stitchesOf_3 : zD cX6_stitchesOf 3 (.istore_n 3) 1 4 := ⟨by decide +kernel, rfl⟩
theorem dX6_stitchesOf_4 : zD cX6_stitchesOf 4 (.iload_n 3) 1 5 := ⟨by decide +kernel, rfl⟩
theorem dX6_stitchesOf_5 : zD cX6_stitchesOf 5 (.aload_n 0) 1 6 := ⟨by decide +kernel, rfl⟩
theorem dX6_stitchesOf_6 : zD cX6_stitchesOf 6 (.getfield 49) 3 9 := ⟨by decide +kernel, rfl⟩
theorem dX6_stitchesOf_9 : zD cX6_stitchesOf 9 (.if_icmp .ge 46) 3 12 := ⟨by decide +kernel, rfl⟩
theorem dX6_stitchesOf_12 : zD cX6_stitchesOf 12 (.iload_n 1) 1 13 := ⟨by decide +kernel, rfl⟩
theorem dX6_stitchesOf_13 : zD cX6_stitchesOf 13 (.iload_n 3) 1 14 := ⟨by decide +kernel, rfl⟩
theorem dX6_stitchesOf_14 : zD cX6_stitchesOf 14 (.invokestatic 68) 3 17 := ⟨by decide +kernel, rfl⟩
theorem dX6_stitchesOf_17 : zD cX6_stitchesOf 17 (.ifCond .eq 14) 3 20 := ⟨by decide +kernel, rfl⟩
theorem dX6_stitchesOf_20 : zD cX6_stitchesOf 20 (.iload_n 1) 1 21 := ⟨by decide +kernel, rfl⟩
theorem dX6_stitchesOf_21 : zD cX6_stitchesOf 21 (.iconst (-1)) 1 22 := ⟨by decide +kernel, rfl⟩
theorem dX6_stitchesOf_22 : zD cX6_stitchesOf 22 .ixor 1 23 := ⟨by decide +kernel, rfl⟩
theorem dX6_stitchesOf_23 : zD cX6_stitchesOf 23 (.aload_n 0) 1 24 := ⟨by decide +kernel, rfl⟩
theorem dX6_stitchesOf_24 : zD cX6_stitchesOf 24 (.invokevirtual 72) 3 27 := ⟨by decide +kernel, rfl⟩
theorem dX6_stitchesOf_27 : zD cX6_stitchesOf 27 .iand 1 28 := ⟨by decide +kernel, rfl⟩
theorem dX6_stitchesOf_28 : zD cX6_stitchesOf 28 (.goto 4) 3 31 := ⟨by decide +kernel, rfl⟩
theorem dX6_stitchesOf_31 : zD cX6_stitchesOf 31 (.iload_n 1) 1 32 := ⟨by decide +kernel, rfl⟩
theorem dX6_stitchesOf_32 : zD cX6_stitchesOf 32 (.istore 4) 2 34 := ⟨by decide +kernel, rfl⟩
theorem dX6_stitchesOf_34 : zD cX6_stitchesOf 34 (.iload_n 2) 1 35 := ⟨by decide +kernel, rfl⟩
theorem dX6_stitchesOf_35 : zD cX6_stitchesOf 35 (.aload_n 0) 1 36 := ⟨by decide +kernel, rfl⟩
theorem dX6_stitchesOf_36 : zD cX6_stitchesOf 36 (.getfield 35) 3 39 := ⟨by decide +kernel, rfl⟩
theorem dX6_stitchesOf_39 : zD cX6_stitchesOf 39 (.iload_n 3) 1 40 := ⟨by decide +kernel, rfl⟩
theorem dX6_stitchesOf_40 : zD cX6_stitchesOf 40 .iaload 1 41 := ⟨by decide +kernel, rfl⟩
theorem dX6_stitchesOf_41 : zD cX6_stitchesOf 41 (.iload 4) 2 43 := ⟨by decide +kernel, rfl⟩
theorem dX6_stitchesOf_43 : zD cX6_stitchesOf 43 .iand 1 44 := ⟨by decide +kernel, rfl⟩
theorem dX6_stitchesOf_44 : zD cX6_stitchesOf 44 (.invokestatic 76) 3 47 := ⟨by decide +kernel, rfl⟩
theorem dX6_stitchesOf_47 : zD cX6_stitchesOf 47 .iadd 1 48 := ⟨by decide +kernel, rfl⟩
theorem dX6_stitchesOf_48 : zD cX6_stitchesOf 48 (.istore_n 2) 1 49 := ⟨by decide +kernel, rfl⟩
theorem dX6_stitchesOf_49 : zD cX6_stitchesOf 49 (.iinc 3 1) 3 52 := ⟨by decide +kernel, rfl⟩
theorem dX6_stitchesOf_52 : zD cX6_stitchesOf 52 (.goto (-48)) 3 55 := ⟨by decide +kernel, rfl⟩
theorem dX6_stitchesOf_55 : zD cX6_stitchesOf 55 (.iload_n 2) 1 56 := ⟨by decide +kernel, rfl⟩
theorem dX6_stitchesOf_56 : zD cX6_stitchesOf 56 (.iconst 2) 1 57 := ⟨by decide +kernel, rfl⟩
theorem dX6_stitchesOf_57 : zD cX6_stitchesOf 57 .idiv 1 58 := ⟨by decide +kernel, rfl⟩
theorem dX6_stitchesOf_58 : zD cX6_stitchesOf 58 .ireturn 1 59 := ⟨by decide +kernel, rfl⟩
theorem dX6_costOf_0 : zD cX6_costOf 0 (.aload_n 0) 1 1 := ⟨by decide +kernel, rfl⟩
theorem dX6_costOf_1 : zD cX6_costOf 1 (.getfield 7) 3 4 := ⟨by decide +kernel, rfl⟩
theorem dX6_costOf_4 : zD cX6_costOf 4 (.bipush 63) 2 6 := ⟨by decide +kernel, rfl⟩
theorem dX6_costOf_6 : zD cX6_costOf 6 .iaload 1 7 := ⟨by decide +kernel, rfl⟩
theorem dX6_costOf_7 : zD cX6_costOf 7 (.aload_n 0) 1 8 := ⟨by decide +kernel, rfl⟩
theorem dX6_costOf_8 : zD cX6_costOf 8 (.iload_n 1) 1 9 := ⟨by decide +kernel, rfl⟩
theorem dX6_costOf_9 : zD cX6_costOf 9 (.invokevirtual 79) 3 12 := ⟨by decide +kernel, rfl⟩
theorem dX6_costOf_12 : zD cX6_costOf 12 .imul 1 13 := ⟨by decide +kernel, rfl⟩
theorem dX6_costOf_13 : zD cX6_costOf 13 (.aload_n 0) 1 14 := ⟨by decide +kernel, rfl⟩
theorem dX6_costOf_14 : zD cX6_costOf 14 (.getfield 7) 3 17 := ⟨by decide +kernel, rfl⟩
theorem dX6_costOf_17 : zD cX6_costOf 17 (.bipush 62) 2 19 := ⟨by decide +kernel, rfl⟩
theorem dX6_costOf_19 : zD cX6_costOf 19 .iaload 1 20 := ⟨by decide +kernel, rfl⟩
theorem dX6_costOf_20 : zD cX6_costOf 20 (.aload_n 0) 1 21 := ⟨by decide +kernel, rfl⟩
theorem dX6_costOf_21 : zD cX6_costOf 21 (.iload_n 1) 1 22 := ⟨by decide +kernel, rfl⟩
theorem dX6_costOf_22 : zD cX6_costOf 22 (.invokevirtual 82) 3 25 := ⟨by decide +kernel, rfl⟩
theorem dX6_costOf_25 : zD cX6_costOf 25 .imul 1 26 := ⟨by decide +kernel, rfl⟩
theorem dX6_costOf_26 : zD cX6_costOf 26 .iadd 1 27 := ⟨by decide +kernel, rfl⟩
theorem dX6_costOf_27 : zD cX6_costOf 27 .ireturn 1 28 := ⟨by decide +kernel, rfl⟩
theorem dX6_areaOn_0 : zD cX6_areaOn 0 (.iconst 0) 1 1 := ⟨by decide +kernel, rfl⟩
theorem dX6_areaOn_1 : zD cX6_areaOn 1 (.istore_n 2) 1 2 := ⟨by decide +kernel, rfl⟩
theorem dX6_areaOn_2 : zD cX6_areaOn 2 (.iconst 0) 1 3 := ⟨by decide +kernel, rfl⟩
theorem dX6_areaOn_3 : zD cX6_areaOn 3 (.istore_n 3) 1 4 := ⟨by decide +kernel, rfl⟩
theorem dX6_areaOn_4 : zD cX6_areaOn 4 (.iload_n 3) 1 5 := ⟨by decide +kernel, rfl⟩
theorem dX6_areaOn_5 : zD cX6_areaOn 5 (.aload_n 0) 1 6 := ⟨by decide +kernel, rfl⟩
theorem dX6_areaOn_6 : zD cX6_areaOn 6 (.getfield 49) 3 9 := ⟨by decide +kernel, rfl⟩
theorem dX6_areaOn_9 : zD cX6_areaOn 9 (.if_icmp .ge 29) 3 12 := ⟨by decide +kernel, rfl⟩
theorem dX6_areaOn_12 : zD cX6_areaOn 12 (.iload_n 2) 1 13 := ⟨by decide +kernel, rfl⟩
theorem dX6_areaOn_13 : zD cX6_areaOn 13 (.iload_n 1) 1 14 := ⟨by decide +kernel, rfl⟩
theorem dX6_areaOn_14 : zD cX6_areaOn 14 (.iload_n 3) 1 15 := ⟨by decide +kernel, rfl⟩
theorem dX6_areaOn_15 : zD cX6_areaOn 15 (.invokestatic 68) 3 18 := ⟨by decide +kernel, rfl⟩
theorem dX6_areaOn_18 : zD cX6_areaOn 18 (.ifCond .eq 11) 3 21 := ⟨by decide +kernel, rfl⟩
theorem dX6_areaOn_21 : zD cX6_areaOn 21 (.aload_n 0) 1 22 := ⟨by decide +kernel, rfl⟩
theorem dX6_areaOn_22 : zD cX6_areaOn 22 (.iload_n 3) 1 23 := ⟨by decide +kernel, rfl⟩
theorem dX6_areaOn_23 : zD cX6_areaOn 23 (.invokevirtual 85) 3 26 := ⟨by decide +kernel, rfl⟩
theorem dX6_areaOn_26 : zD cX6_areaOn 26 (.goto 4) 3 29 := ⟨by decide +kernel, rfl⟩
theorem dX6_areaOn_29 : zD cX6_areaOn 29 (.iconst 0) 1 30 := ⟨by decide +kernel, rfl⟩
theorem dX6_areaOn_30 : zD cX6_areaOn 30 .iadd 1 31 := ⟨by decide +kernel, rfl⟩
theorem dX6_areaOn_31 : zD cX6_areaOn 31 (.istore_n 2) 1 32 := ⟨by decide +kernel, rfl⟩
theorem dX6_areaOn_32 : zD cX6_areaOn 32 (.iinc 3 1) 3 35 := ⟨by decide +kernel, rfl⟩
theorem dX6_areaOn_35 : zD cX6_areaOn 35 (.goto (-31)) 3 38 := ⟨by decide +kernel, rfl⟩
theorem dX6_areaOn_38 : zD cX6_areaOn 38 (.iload_n 2) 1 39 := ⟨by decide +kernel, rfl⟩
theorem dX6_areaOn_39 : zD cX6_areaOn 39 .ireturn 1 40 := ⟨by decide +kernel, rfl⟩
theorem dX6_areFixed_0 : zD cX6_areFixed 0 (.iconst 1) 1 1 := ⟨by decide +kernel, rfl⟩
theorem dX6_areFixed_1 : zD cX6_areFixed 1 (.istore_n 2) 1 2 := ⟨by decide +kernel, rfl⟩
theorem dX6_areFixed_2 : zD cX6_areFixed 2 (.iconst 0) 1 3 := ⟨by decide +kernel, rfl⟩
theorem dX6_areFixed_3 : zD cX6_areFixed 3 (.istore_n 3) 1 4 := ⟨by decide +kernel, rfl⟩
theorem dX6_areFixed_4 : zD cX6_areFixed 4 (.iload_n 3) 1 5 := ⟨by decide +kernel, rfl⟩
theorem dX6_areFixed_5 : zD cX6_areFixed 5 (.aload_n 0) 1 6 := ⟨by decide +kernel, rfl⟩
theorem dX6_areFixed_6 : zD cX6_areFixed 6 (.getfield 49) 3 9 := ⟨by decide +kernel, rfl⟩
theorem dX6_areFixed_9 : zD cX6_areFixed 9 (.if_icmp .ge 57) 3 12 := ⟨by decide +kernel, rfl⟩
theorem dX6_areFixed_12 : zD cX6_areFixed 12 (.iload_n 2) 1 13 := ⟨by decide +kernel, rfl⟩
theorem dX6_areFixed_13 : zD cX6_areFixed 13 (.ifCond .eq 45) 3 16 := ⟨by decide +kernel, rfl⟩
theorem dX6_areFixed_16 : zD cX6_areFixed 16 (.aload_n 0) 1 17 := ⟨by decide +kernel, rfl⟩
theorem dX6_areFixed_17 : zD cX6_areFixed 17 (.getfield 7) 3 20 := ⟨by decide +kernel, rfl⟩
theorem dX6_areFixed_20 : zD cX6_areFixed 20 (.bipush 64) 2 22 := ⟨by decide +kernel, rfl⟩
theorem dX6_areFixed_22 : zD cX6_areFixed 22 (.iload_n 3) 1 23 := ⟨by decide +kernel, rfl⟩
theorem dX6_areFixed_23 : zD cX6_areFixed 23 .iadd 1 24 := ⟨by decide +kernel, rfl⟩
theorem dX6_areFixed_24 : zD cX6_areFixed 24 .iaload 1 25 := ⟨by decide +kernel, rfl⟩
theorem dX6_areFixed_25 : zD cX6_areFixed 25 (.ifCond .eq 29) 3 28 := ⟨by decide +kernel, rfl⟩
theorem dX6_areFixed_28 : zD cX6_areFixed 28 (.iload_n 1) 1 29 := ⟨by decide +kernel, rfl⟩
theorem dX6_areFixed_29 : zD cX6_areFixed 29 (.iload_n 3) 1 30 := ⟨by decide +kernel, rfl⟩
theorem dX6_areFixed_30 : zD cX6_areFixed 30 (.invokestatic 68) 3 33 := ⟨by decide +kernel, rfl⟩
theorem dX6_areFixed_33 : zD cX6_areFixed 33 (.aload_n 0) 1 34 := ⟨by decide +kernel, rfl⟩
theorem dX6_areFixed_34 : zD cX6_areFixed 34 (.getfield 7) 3 37 := ⟨by decide +kernel, rfl⟩
theorem dX6_areFixed_37 : zD cX6_areFixed 37 (.bipush 64) 2 39 := ⟨by decide +kernel, rfl⟩
theorem dX6_areFixed_39 : zD cX6_areFixed 39 (.iload_n 3) 1 40 := ⟨by decide +kernel, rfl⟩
theorem dX6_areFixed_40 : zD cX6_areFixed 40 .iadd 1 41 := ⟨by decide +kernel, rfl⟩
theorem dX6_areFixed_41 : zD cX6_areFixed 41 .iaload 1 42 := ⟨by decide +kernel, rfl⟩
theorem dX6_areFixed_42 : zD cX6_areFixed 42 (.iconst 2) 1 43 := ⟨by decide +kernel, rfl⟩
theorem dX6_areFixed_43 : zD cX6_areFixed 43 (.if_icmp .ne 7) 3 46 := ⟨by decide +kernel, rfl⟩
theorem dX6_areFixed_46 : zD cX6_areFixed 46 (.iconst 1) 1 47 := ⟨by decide +kernel, rfl⟩
theorem dX6_areFixed_47 : zD cX6_areFixed 47 (.goto 4) 3 50 := ⟨by decide +kernel, rfl⟩
theorem dX6_areFixed_50 : zD cX6_areFixed 50 (.iconst 0) 1 51 := ⟨by decide +kernel, rfl⟩
theorem dX6_areFixed_51 : zD cX6_areFixed 51 (.if_icmp .ne 7) 3 54 := ⟨by decide +kernel, rfl⟩
theorem dX6_areFixed_54 : zD cX6_areFixed 54 (.iconst 1) 1 55 := ⟨by decide +kernel, rfl⟩
theorem dX6_areFixed_55 : zD cX6_areFixed 55 (.goto 4) 3 58 := ⟨by decide +kernel, rfl⟩
theorem dX6_areFixed_58 : zD cX6_areFixed 58 (.iconst 0) 1 59 := ⟨by decide +kernel, rfl⟩
theorem dX6_areFixed_59 : zD cX6_areFixed 59 (.istore_n 2) 1 60 := ⟨by decide +kernel, rfl⟩
theorem dX6_areFixed_60 : zD cX6_areFixed 60 (.iinc 3 1) 3 63 := ⟨by decide +kernel, rfl⟩
theorem dX6_areFixed_63 : zD cX6_areFixed 63 (.goto (-59)) 3 66 := ⟨by decide +kernel, rfl⟩
theorem dX6_areFixed_66 : zD cX6_areFixed 66 (.iload_n 2) 1 67 := ⟨by decide +kernel, rfl⟩
theorem dX6_areFixed_67 : zD cX6_areFixed 67 .ireturn 1 68 := ⟨by decide +kernel, rfl⟩
theorem dX6_isFirst_0 : zD cX6_isFirst 0 (.iload_n 0) 1 1 := ⟨by decide +kernel, rfl⟩
theorem dX6_isFirst_1 : zD cX6_isFirst 1 (.iload_n 1) 1 2 := ⟨by decide +kernel, rfl⟩
theorem dX6_isFirst_2 : zD cX6_isFirst 2 .ixor 1 3 := ⟨by decide +kernel, rfl⟩
theorem dX6_isFirst_3 : zD cX6_isFirst 3 (.istore_n 2) 1 4 := ⟨by decide +kernel, rfl⟩
theorem dX6_isFirst_4 : zD cX6_isFirst 4 (.iload_n 2) 1 5 := ⟨by decide +kernel, rfl⟩
theorem dX6_isFirst_5 : zD cX6_isFirst 5 (.ifCond .eq 16) 3 8 := ⟨by decide +kernel, rfl⟩
theorem dX6_isFirst_8 : zD cX6_isFirst 8 (.iload_n 0) 1 9 := ⟨by decide +kernel, rfl⟩
theorem dX6_isFirst_9 : zD cX6_isFirst 9 (.iload_n 2) 1 10 := ⟨by decide +kernel, rfl⟩
theorem dX6_isFirst_10 : zD cX6_isFirst 10 .iand 1 11 := ⟨by decide +kernel, rfl⟩
theorem dX6_isFirst_11 : zD cX6_isFirst 11 (.iload_n 2) 1 12 := ⟨by decide +kernel, rfl⟩
theorem dX6_isFirst_12 : zD cX6_isFirst 12 .ineg 1 13 := ⟨by decide +kernel, rfl⟩
theorem dX6_isFirst_13 : zD cX6_isFirst 13 .iand 1 14 := ⟨by decide +kernel, rfl⟩
theorem dX6_isFirst_14 : zD cX6_isFirst 14 (.ifCond .ne 7) 3 17 := ⟨by decide +kernel, rfl⟩
theorem dX6_isFirst_17 : zD cX6_isFirst 17 (.iconst 1) 1 18 := ⟨by decide +kernel, rfl⟩
theorem dX6_isFirst_18 : zD cX6_isFirst 18 (.goto 4) 3 21 := ⟨by decide +kernel, rfl⟩
theorem dX6_isFirst_21 : zD cX6_isFirst 21 (.iconst 0) 1 22 := ⟨by decide +kernel, rfl⟩
theorem dX6_isFirst_22 : zD cX6_isFirst 22 .ireturn 1 23 := ⟨by decide +kernel, rfl⟩
theorem dX6_judgeAll_0 : zD cX6_judgeAll 0 (.aload_n 0) 1 1 := ⟨by decide +kernel, rfl⟩
theorem dX6_judgeAll_1 : zD cX6_judgeAll 1 (.invokevirtual 88) 3 4 := ⟨by decide +kernel, rfl⟩
theorem dX6_judgeAll_4 : zD cX6_judgeAll 4 (.aload_n 0) 1 5 := ⟨by decide +kernel, rfl⟩
theorem dX6_judgeAll_5 : zD cX6_judgeAll 5 (.iconst (-1)) 1 6 := ⟨by decide +kernel, rfl⟩
theorem dX6_judgeAll_6 : zD cX6_judgeAll 6 (.putfield 91) 3 9 := ⟨by decide +kernel, rfl⟩
theorem dX6_judgeAll_9 : zD cX6_judgeAll 9 (.aload_n 0) 1 10 := ⟨by decide +kernel, rfl⟩
theorem dX6_judgeAll_10 : zD cX6_judgeAll 10 (.iconst 0) 1 11 := ⟨by decide +kernel, rfl⟩
theorem dX6_judgeAll_11 : zD cX6_judgeAll 11 (.putfield 94) 3 14 := ⟨by decide +kernel, rfl⟩
theorem dX6_judgeAll_14 : zD cX6_judgeAll 14 (.aload_n 0) 1 15 := ⟨by decide +kernel, rfl⟩
theorem dX6_judgeAll_15 : zD cX6_judgeAll 15 (.iconst 0) 1 16 := ⟨by decide +kernel, rfl⟩
theorem dX6_judgeAll_16 : zD cX6_judgeAll 16 (.putfield 97) 3 19 := ⟨by decide +kernel, rfl⟩
theorem dX6_judgeAll_19 : zD cX6_judgeAll 19 (.iconst 0) 1 20 := ⟨by decide +kernel, rfl⟩
theorem dX6_judgeAll_20 : zD cX6_judgeAll 20 (.istore_n 1) 1 21 := ⟨by decide +kernel, rfl⟩
theorem dX6_judgeAll_21 : zD cX6_judgeAll 21 (.aload_n 0) 1 22 := ⟨by decide +kernel, rfl⟩
theorem dX6_judgeAll_22 : zD cX6_judgeAll 22 (.aload_n 0) 1 23 := ⟨by decide +kernel, rfl⟩
theorem dX6_judgeAll_23 : zD cX6_judgeAll 23 (.invokevirtual 72) 3 26 := ⟨by decide +kernel, rfl⟩
theorem dX6_judgeAll_26 : zD cX6_judgeAll 26 (.invokevirtual 100) 3 29 := ⟨by decide +kernel, rfl⟩
theorem dX6_judgeAll_29 : zD cX6_judgeAll 29 (.istore_n 2) 1 30 := ⟨by decide +kernel, rfl⟩
theorem dX6_judgeAll_30 : zD cX6_judgeAll 30 (.iconst 0) 1 31 := ⟨by decide +kernel, rfl⟩
theorem dX6_judgeAll_31 : zD cX6_judgeAll 31 (.istore_n 3) 1 32 := ⟨by decide +kernel, rfl⟩
theorem dX6_judgeAll_32 : zD cX6_judgeAll 32 (.iload_n 3) 1 33 := ⟨by decide +kernel, rfl⟩
theorem dX6_judgeAll_33 : zD cX6_judgeAll 33 (.aload_n 0) 1 34 := ⟨by decide +kernel, rfl⟩
theorem dX6_judgeAll_34 : zD cX6_judgeAll 34 (.invokevirtual 72) 3 37 := ⟨by decide +kernel, rfl⟩
theorem dX6_judgeAll_37 : zD cX6_judgeAll 37 (.if_icmp .gt 159) 3 40 := ⟨by decide +kernel, rfl⟩
theorem dX6_judgeAll_40 : zD cX6_judgeAll 40 (.aload_n 0) 1 41 := ⟨by decide +kernel, rfl⟩
theorem dX6_judgeAll_41 : zD cX6_judgeAll 41 (.iload_n 3) 1 42 := ⟨by decide +kernel, rfl⟩
theorem dX6_judgeAll_42 : zD cX6_judgeAll 42 (.invokevirtual 103) 3 45 := ⟨by decide +kernel, rfl⟩
theorem dX6_judgeAll_45 : zD cX6_judgeAll 45 (.ifCond .eq 11) 3 48 := ⟨by decide +kernel, rfl⟩
theorem dX6_judgeAll_48 : zD cX6_judgeAll 48 (.aload_n 0) 1 49 := ⟨by decide +kernel, rfl⟩
theorem dX6_judgeAll_49 : zD cX6_judgeAll 49 (.iload_n 3) 1 50 := ⟨by decide +kernel, rfl⟩
theorem dX6_judgeAll_50 : zD cX6_judgeAll 50 (.invokevirtual 107) 3 53 := ⟨by decide +kernel, rfl⟩
theorem dX6_judgeAll_53 : zD cX6_judgeAll 53 (.goto 4) 3 56 := ⟨by decide +kernel, rfl⟩
theorem dX6_judgeAll_56 : zD cX6_judgeAll 56 (.iconst (-1)) 1 57 := ⟨by decide +kernel, rfl⟩
theorem dX6_judgeAll_57 : zD cX6_judgeAll 57 (.istore 4) 2 59 := ⟨by decide +kernel, rfl⟩
theorem dX6_judgeAll_59 : zD cX6_judgeAll 59 (.iload 4) 2 61 := ⟨by decide +kernel, rfl⟩
theorem dX6_judgeAll_61 : zD cX6_judgeAll 61 (.ifCond .lt 129) 3 64 := ⟨by decide +kernel, rfl⟩
theorem dX6_judgeAll_64 : zD cX6_judgeAll 64 (.aload_n 0) 1 65 := ⟨by decide +kernel, rfl⟩
theorem dX6_judgeAll_65 : zD cX6_judgeAll 65 (.getfield 91) 3 68 := ⟨by decide +kernel, rfl⟩
theorem dX6_judgeAll_68 : zD cX6_judgeAll 68 (.ifCond .lt 12) 3 71 := ⟨by decide +kernel, rfl⟩
theorem dX6_judgeAll_71 : zD cX6_judgeAll 71 (.iload 4) 2 73 := ⟨by decide +kernel, rfl⟩
theorem dX6_judgeAll_73 : zD cX6_judgeAll 73 (.aload_n 0) 1 74 := ⟨by decide +kernel, rfl⟩
theorem dX6_judgeAll_74 : zD cX6_judgeAll 74 (.getfield 94) 3 77 := ⟨by decide +kernel, rfl⟩
theorem dX6_judgeAll_77 : zD cX6_judgeAll 77 (.if_icmp .gt 113) 3 80 := ⟨by decide +kernel, rfl⟩
theorem dX6_judgeAll_80 : zD cX6_judgeAll 80 (.iload_n 2) 1 81 := ⟨by decide +kernel, rfl⟩
theorem dX6_judgeAll_81 : zD cX6_judgeAll 81 (.iconst 2) 1 82 := ⟨by decide +kernel, rfl⟩
theorem dX6_judgeAll_82 : zD cX6_judgeAll 82 (.aload_n 0) 1 83 := ⟨by decide +kernel, rfl⟩
theorem dX6_judgeAll_83 : zD cX6_judgeAll 83 (.iload_n 3) 1 84 := ⟨by decide +kernel, rfl⟩
theorem dX6_judgeAll_84 : zD cX6_judgeAll 84 (.invokevirtual 100) 3 87 := ⟨by decide +kernel, rfl⟩
theorem dX6_judgeAll_87 : zD cX6_judgeAll 87 .imul 1 88 := ⟨by decide +kernel, rfl⟩
theorem dX6_judgeAll_88 : zD cX6_judgeAll 88 .isub 1 89 := ⟨by decide +kernel, rfl⟩
theorem dX6_judgeAll_89 : zD cX6_judgeAll 89 (.istore 5) 2 91 := ⟨by decide +kernel, rfl⟩
theorem dX6_judgeAll_91 : zD cX6_judgeAll 91 (.iload 5) 2 93 := ⟨by decide +kernel, rfl⟩
theorem dX6_judgeAll_93 : zD cX6_judgeAll 93 (.ifCond .ge 9) 3 96 := ⟨by decide +kernel, rfl⟩
theorem dX6_judgeAll_96 : zD cX6_judgeAll 96 (.iload 5) 2 98 := ⟨by decide +kernel, rfl⟩
theorem dX6_judgeAll_98 : zD cX6_judgeAll 98 .ineg 1 99 := ⟨by decide +kernel, rfl⟩
theorem dX6_judgeAll_99 : zD cX6_judgeAll 99 (.goto 5) 3 102 := ⟨by decide +kernel, rfl⟩
theorem dX6_judgeAll_102 : zD cX6_judgeAll 102 (.iload 5) 2 104 := ⟨by decide +kernel, rfl⟩
theorem dX6_judgeAll_104 : zD cX6_judgeAll 104 (.istore 5) 2 106 := ⟨by decide +kernel, rfl⟩
theorem dX6_judgeAll_106 : zD cX6_judgeAll 106 (.aload_n 0) 1 107 := ⟨by decide +kernel, rfl⟩
theorem dX6_judgeAll_107 : zD cX6_judgeAll 107 (.getfield 91) 3 110 := ⟨by decide +kernel, rfl⟩
theorem dX6_judgeAll_110 : zD cX6_judgeAll 110 (.ifCond .lt 12) 3 113 := ⟨by decide +kernel, rfl⟩
theorem dX6_judgeAll_113 : zD cX6_judgeAll 113 (.iload 4) 2 115 := ⟨by decide +kernel, rfl⟩
theorem dX6_judgeAll_115 : zD cX6_judgeAll 115 (.aload_n 0) 1 116 := ⟨by decide +kernel, rfl⟩
theorem dX6_judgeAll_116 : zD cX6_judgeAll 116 (.getfield 94) 3 119 := ⟨by decide +kernel, rfl⟩
theorem dX6_judgeAll_119 : zD cX6_judgeAll 119 (.if_icmp .ge 7) 3 122 := ⟨by decide +kernel, rfl⟩
theorem dX6_judgeAll_122 : zD cX6_judgeAll 122 (.iconst 1) 1 123 := ⟨by decide +kernel, rfl⟩
theorem dX6_judgeAll_123 : zD cX6_judgeAll 123 (.goto 4) 3 126 := ⟨by decide +kernel, rfl⟩
theorem dX6_judgeAll_126 : zD cX6_judgeAll 126 (.iconst 0) 1 127 := ⟨by decide +kernel, rfl⟩
theorem dX6_judgeAll_127 : zD cX6_judgeAll 127 (.istore 6) 2 129 := ⟨by decide +kernel, rfl⟩
theorem dX6_judgeAll_129 : zD cX6_judgeAll 129 (.aload_n 0) 1 130 := ⟨by decide +kernel, rfl⟩
theorem dX6_judgeAll_130 : zD cX6_judgeAll 130 (.iload 6) 2 132 := ⟨by decide +kernel, rfl⟩
theorem dX6_judgeAll_132 : zD cX6_judgeAll 132 (.ifCond .eq 7) 3 135 := ⟨by decide +kernel, rfl⟩
theorem dX6_judgeAll_135 : zD cX6_judgeAll 135 (.iconst 1) 1 136 := ⟨by decide +kernel, rfl⟩
theorem dX6_judgeAll_136 : zD cX6_judgeAll 136 (.goto 9) 3 139 := ⟨by decide +kernel, rfl⟩
theorem dX6_judgeAll_139 : zD cX6_judgeAll 139 (.aload_n 0) 1 140 := ⟨by decide +kernel, rfl⟩
theorem dX6_judgeAll_140 : zD cX6_judgeAll 140 (.getfield 97) 3 143 := ⟨by decide +kernel, rfl⟩
theorem dX6_judgeAll_143 : zD cX6_judgeAll 143 (.iconst 1) 1 144 := ⟨by decide +kernel, rfl⟩
theorem dX6_judgeAll_144 : zD cX6_judgeAll 144 .iadd 1 145 := ⟨by decide +kernel, rfl⟩
theorem dX6_judgeAll_145 : zD cX6_judgeAll 145 (.putfield 97) 3 148 := ⟨by decide +kernel, rfl⟩
theorem dX6_judgeAll_148 : zD cX6_judgeAll 148 (.iload 6) 2 150 := ⟨by decide +kernel, rfl⟩
theorem dX6_judgeAll_150 : zD cX6_judgeAll 150 (.ifCond .ne 26) 3 153 := ⟨by decide +kernel, rfl⟩
theorem dX6_judgeAll_153 : zD cX6_judgeAll 153 (.iload 5) 2 155 := ⟨by decide +kernel, rfl⟩
theorem dX6_judgeAll_155 : zD cX6_judgeAll 155 (.iload_n 1) 1 156 := ⟨by decide +kernel, rfl⟩
theorem dX6_judgeAll_156 : zD cX6_judgeAll 156 (.if_icmp .lt 20) 3 159 := ⟨by decide +kernel, rfl⟩
theorem dX6_judgeAll_159 : zD cX6_judgeAll 159 (.iload 5) 2 161 := ⟨by decide +kernel, rfl⟩
theorem dX6_judgeAll_161 : zD cX6_judgeAll 161 (.iload_n 1) 1 162 := ⟨by decide +kernel, rfl⟩
theorem dX6_judgeAll_162 : zD cX6_judgeAll 162 (.if_icmp .ne 22) 3 165 := ⟨by decide +kernel, rfl⟩
theorem dX6_judgeAll_165 : zD cX6_judgeAll 165 (.iload_n 3) 1 166 := ⟨by decide +kernel, rfl⟩
theorem dX6_judgeAll_166 : zD cX6_judgeAll 166 (.aload_n 0) 1 167 := ⟨by decide +kernel, rfl⟩
theorem dX6_judgeAll_167 : zD cX6_judgeAll 167 (.getfield 91) 3 170 := ⟨by decide +kernel, rfl⟩
theorem dX6_judgeAll_170 : zD cX6_judgeAll 170 (.invokestatic 110) 3 173 := ⟨by decide +kernel, rfl⟩
theorem dX6_judgeAll_173 : zD cX6_judgeAll 173 (.ifCond .eq 11) 3 176 := ⟨by decide +kernel, rfl⟩
theorem dX6_judgeAll_176 : zD cX6_judgeAll 176 (.aload_n 0) 1 177 := ⟨by decide +kernel, rfl⟩
theorem dX6_judgeAll_177 : zD cX6_judgeAll 177 (.iload_n 3) 1 178 := ⟨by decide +kernel, rfl⟩
theorem dX6_judgeAll_178 : zD cX6_judgeAll 178 (.putfield 91) 3 181 := ⟨by decide +kernel, rfl⟩
theorem dX6_judgeAll_181 : zD cX6_judgeAll 181 (.iload 5) 2 183 := ⟨by decide +kernel, rfl⟩
theorem dX6_judgeAll_183 : zD cX6_judgeAll 183 (.istore_n 1) 1 184 := ⟨by decide +kernel, rfl⟩
theorem dX6_judgeAll_184 : zD cX6_judgeAll 184 (.aload_n 0) 1 185 := ⟨by decide +kernel, rfl⟩
theorem dX6_judgeAll_185 : zD cX6_judgeAll 185 (.iload 4) 2 187 := ⟨by decide +kernel, rfl⟩
theorem dX6_judgeAll_187 : zD cX6_judgeAll 187 (.putfield 94) 3 190 := ⟨by decide +kernel, rfl⟩
theorem dX6_judgeAll_190 : zD cX6_judgeAll 190 (.iinc 3 1) 3 193 := ⟨by decide +kernel, rfl⟩
theorem dX6_judgeAll_193 : zD cX6_judgeAll 193 (.goto (-161)) 3 196 := ⟨by decide +kernel, rfl⟩
theorem dX6_judgeAll_196 : zD cX6_judgeAll 196 .return_ 1 197 := ⟨by decide +kernel, rfl⟩
theorem dX6_costOfBest_0 : zD cX6_costOfBest 0 (.aload_n 0) 1 1 := ⟨by decide +kernel, rfl⟩
theorem dX6_costOfBest_1 : zD cX6_costOfBest 1 (.invokevirtual 113) 3 4 := ⟨by decide +kernel, rfl⟩
theorem dX6_costOfBest_4 : zD cX6_costOfBest 4 (.aload_n 0) 1 5 := ⟨by decide +kernel, rfl⟩
theorem dX6_costOfBest_5 : zD cX6_costOfBest 5 (.getfield 94) 3 8 := ⟨by decide +kernel, rfl⟩
theorem dX6_costOfBest_8 : zD cX6_costOfBest 8 .ireturn 1 9 := ⟨by decide +kernel, rfl⟩
theorem dX6_note_0 : zD cX6_note 0 (.aload_n 0) 1 1 := ⟨by decide +kernel, rfl⟩
theorem dX6_note_1 : zD cX6_note 1 (.getfield 116) 3 4 := ⟨by decide +kernel, rfl⟩
theorem dX6_note_4 : zD cX6_note 4 (.bipush 8) 2 6 := ⟨by decide +kernel, rfl⟩
theorem dX6_note_6 : zD cX6_note 6 (.if_icmp .ne 43) 3 9 := ⟨by decide +kernel, rfl⟩
theorem dX6_note_9 : zD cX6_note 9 (.iconst 0) 1 10 := ⟨by decide +kernel, rfl⟩
theorem dX6_note_10 : zD cX6_note 10 (.istore_n 1) 1 11 := ⟨by decide +kernel, rfl⟩
theorem dX6_note_11 : zD cX6_note 11 (.iload_n 1) 1 12 := ⟨by decide +kernel, rfl⟩
theorem dX6_note_12 : zD cX6_note 12 (.sipush 546) 3 15 := ⟨by decide +kernel, rfl⟩
theorem dX6_note_15 : zD cX6_note 15 (.if_icmp .ge 24) 3 18 := ⟨by decide +kernel, rfl⟩
theorem dX6_note_18 : zD cX6_note 18 (.aload_n 0) 1 19 := ⟨by decide +kernel, rfl⟩
theorem dX6_note_19 : zD cX6_note 19 (.getfield 13) 3 22 := ⟨by decide +kernel, rfl⟩
theorem dX6_note_22 : zD cX6_note 22 (.iload_n 1) 1 23 := ⟨by decide +kernel, rfl⟩
theorem dX6_note_23 : zD cX6_note 23 (.aload_n 0) 1 24 := ⟨by decide +kernel, rfl⟩
theorem dX6_note_24 : zD cX6_note 24 (.getfield 13) 3 27 := ⟨by decide +kernel, rfl⟩
theorem dX6_note_27 : zD cX6_note 27 (.iload_n 1) 1 28 := ⟨by decide +kernel, rfl⟩
theorem dX6_note_28 : zD cX6_note 28 (.bipush 78) 2 30 := ⟨by decide +kernel, rfl⟩
theorem dX6_note_30 : zD cX6_note 30 .iadd 1 31 := ⟨by decide +kernel, rfl⟩
theorem dX6_note_31 : zD cX6_note 31 .iaload 1 32 := ⟨by decide +kernel, rfl⟩
theorem dX6_note_32 : zD cX6_note 32 .iastore 1 33 := ⟨by decide +kernel, rfl⟩
theorem dX6_note_33 : zD cX6_note 33 (.iinc 1 1) 3 36 := ⟨by decide +kernel, rfl⟩
theorem dX6_note_36 : zD cX6_note 36 (.goto (-25)) 3 39 := ⟨by decide +kernel, rfl⟩
theorem dX6_note_39 : zD cX6_note 39 (.aload_n 0) 1 40 := ⟨by decide +kernel, rfl⟩
theorem dX6_note_40 : zD cX6_note 40 .dup 1 41 := ⟨by decide +kernel, rfl⟩
theorem dX6_note_41 : zD cX6_note 41 (.getfield 116) 3 44 := ⟨by decide +kernel, rfl⟩
theorem dX6_note_44 : zD cX6_note 44 (.iconst 1) 1 45 := ⟨by decide +kernel, rfl⟩
theorem dX6_note_45 : zD cX6_note 45 .isub 1 46 := ⟨by decide +kernel, rfl⟩
theorem dX6_note_46 : zD cX6_note 46 (.putfield 116) 3 49 := ⟨by decide +kernel, rfl⟩
theorem dX6_note_49 : zD cX6_note 49 (.iconst 0) 1 50 := ⟨by decide +kernel, rfl⟩
theorem dX6_note_50 : zD cX6_note 50 (.istore_n 1) 1 51 := ⟨by decide +kernel, rfl⟩
theorem dX6_note_51 : zD cX6_note 51 (.iload_n 1) 1 52 := ⟨by decide +kernel, rfl⟩
theorem dX6_note_52 : zD cX6_note 52 (.bipush 78) 2 54 := ⟨by decide +kernel, rfl⟩
theorem dX6_note_54 : zD cX6_note 54 (.if_icmp .ge 29) 3 57 := ⟨by decide +kernel, rfl⟩
theorem dX6_note_57 : zD cX6_note 57 (.aload_n 0) 1 58 := ⟨by decide +kernel, rfl⟩
theorem dX6_note_58 : zD cX6_note 58 (.getfield 13) 3 61 := ⟨by decide +kernel, rfl⟩
theorem dX6_note_61 : zD cX6_note 61 (.bipush 78) 2 63 := ⟨by decide +kernel, rfl⟩
theorem dX6_note_63 : zD cX6_note 63 (.aload_n 0) 1 64 := ⟨by decide +kernel, rfl⟩
theorem dX6_note_64 : zD cX6_note 64 (.getfield 116) 3 67 := ⟨by decide +kernel, rfl⟩
theorem dX6_note_67 : zD cX6_note 67 .imul 1 68 := ⟨by decide +kernel, rfl⟩
theorem dX6_note_68 : zD cX6_note 68 (.iload_n 1) 1 69 := ⟨by decide +kernel, rfl⟩
theorem dX6_note_69 : zD cX6_note 69 .iadd 1 70 := ⟨by decide +kernel, rfl⟩
theorem dX6_note_70 : zD cX6_note 70 (.aload_n 0) 1 71 := ⟨by decide +kernel, rfl⟩
theorem dX6_note_71 : zD cX6_note 71 (.getfield 7) 3 74 := ⟨by decide +kernel, rfl⟩
theorem dX6_note_74 : zD cX6_note 74 (.iload_n 1) 1 75 := ⟨by decide +kernel, rfl⟩
theorem dX6_note_75 : zD cX6_note 75 .iaload 1 76 := ⟨by decide +kernel, rfl⟩
theorem dX6_note_76 : zD cX6_note 76 .iastore 1 77 := ⟨by decide +kernel, rfl⟩
theorem dX6_note_77 : zD cX6_note 77 (.iinc 1 1) 3 80 := ⟨by decide +kernel, rfl⟩
theorem dX6_note_80 : zD cX6_note 80 (.goto (-29)) 3 83 := ⟨by decide +kernel, rfl⟩
theorem dX6_note_83 : zD cX6_note 83 (.aload_n 0) 1 84 := ⟨by decide +kernel, rfl⟩
theorem dX6_note_84 : zD cX6_note 84 .dup 1 85 := ⟨by decide +kernel, rfl⟩
theorem dX6_note_85 : zD cX6_note 85 (.getfield 116) 3 88 := ⟨by decide +kernel, rfl⟩
theorem dX6_note_88 : zD cX6_note 88 (.iconst 1) 1 89 := ⟨by decide +kernel, rfl⟩
theorem dX6_note_89 : zD cX6_note 89 .iadd 1 90 := ⟨by decide +kernel, rfl⟩
theorem dX6_note_90 : zD cX6_note 90 (.putfield 116) 3 93 := ⟨by decide +kernel, rfl⟩
theorem dX6_note_93 : zD cX6_note 93 .return_ 1 94 := ⟨by decide +kernel, rfl⟩
theorem dX6_free_0 : zD cX6_free 0 (.iconst 0) 1 1 := ⟨by decide +kernel, rfl⟩
theorem dX6_free_1 : zD cX6_free 1 (.istore_n 1) 1 2 := ⟨by decide +kernel, rfl⟩
theorem dX6_free_2 : zD cX6_free 2 (.iload_n 1) 1 3 := ⟨by decide +kernel, rfl⟩
theorem dX6_free_3 : zD cX6_free 3 (.bipush 14) 2 5 := ⟨by decide +kernel, rfl⟩
theorem dX6_free_5 : zD cX6_free 5 (.if_icmp .ge 19) 3 8 := ⟨by decide +kernel, rfl⟩
theorem dX6_free_8 : zD cX6_free 8 (.aload_n 0) 1 9 := ⟨by decide +kernel, rfl⟩
theorem dX6_free_9 : zD cX6_free 9 (.getfield 7) 3 12 := ⟨by decide +kernel, rfl⟩
theorem dX6_free_12 : zD cX6_free 12 (.bipush 64) 2 14 := ⟨by decide +kernel, rfl⟩
theorem dX6_free_14 : zD cX6_free 14 (.iload_n 1) 1 15 := ⟨by decide +kernel, rfl⟩
theorem dX6_free_15 : zD cX6_free 15 .iadd 1 16 := ⟨by decide +kernel, rfl⟩
theorem dX6_free_16 : zD cX6_free 16 (.iconst 0) 1 17 := ⟨by decide +kernel, rfl⟩
theorem dX6_free_17 : zD cX6_free 17 .iastore 1 18 := ⟨by decide +kernel, rfl⟩
theorem dX6_free_18 : zD cX6_free 18 (.iinc 1 1) 3 21 := ⟨by decide +kernel, rfl⟩
theorem dX6_free_21 : zD cX6_free 21 (.goto (-19)) 3 24 := ⟨by decide +kernel, rfl⟩
theorem dX6_free_24 : zD cX6_free 24 .return_ 1 25 := ⟨by decide +kernel, rfl⟩
theorem dX6_areBounds_0 : zD cX6_areBounds 0 (.iload_n 0) 1 1 := ⟨by decide +kernel, rfl⟩
theorem dX6_areBounds_1 : zD cX6_areBounds 1 .i2l 1 2 := ⟨by decide +kernel, rfl⟩
theorem dX6_areBounds_2 : zD cX6_areBounds 2 (.lconst 0) 1 3 := ⟨by decide +kernel, rfl⟩
theorem dX6_areBounds_3 : zD cX6_areBounds 3 (.iload_n 2) 1 4 := ⟨by decide +kernel, rfl⟩
theorem dX6_areBounds_4 : zD cX6_areBounds 4 .i2l 1 5 := ⟨by decide +kernel, rfl⟩
theorem dX6_areBounds_5 : zD cX6_areBounds 5 (.invokestatic 41) 3 8 := ⟨by decide +kernel, rfl⟩
theorem dX6_areBounds_8 : zD cX6_areBounds 8 (.ifCond .eq 44) 3 11 := ⟨by decide +kernel, rfl⟩
theorem dX6_areBounds_11 : zD cX6_areBounds 11 (.iload_n 2) 1 12 := ⟨by decide +kernel, rfl⟩
theorem dX6_areBounds_12 : zD cX6_areBounds 12 .i2l 1 13 := ⟨by decide +kernel, rfl⟩
theorem dX6_areBounds_13 : zD cX6_areBounds 13 (.iload_n 0) 1 14 := ⟨by decide +kernel, rfl⟩
theorem dX6_areBounds_14 : zD cX6_areBounds 14 .i2l 1 15 := ⟨by decide +kernel, rfl⟩
theorem dX6_areBounds_15 : zD cX6_areBounds 15 (.ldc2_w 119) 3 18 := ⟨by decide +kernel, rfl⟩
theorem dX6_areBounds_18 : zD cX6_areBounds 18 (.invokestatic 41) 3 21 := ⟨by decide +kernel, rfl⟩
theorem dX6_areBounds_21 : zD cX6_areBounds 21 (.ifCond .eq 31) 3 24 := ⟨by decide +kernel, rfl⟩
theorem dX6_areBounds_24 : zD cX6_areBounds 24 (.iload_n 1) 1 25 := ⟨by decide +kernel, rfl⟩
theorem dX6_areBounds_25 : zD cX6_areBounds 25 .i2l 1 26 := ⟨by decide +kernel, rfl⟩
theorem dX6_areBounds_26 : zD cX6_areBounds 26 (.lconst 0) 1 27 := ⟨by decide +kernel, rfl⟩
theorem dX6_areBounds_27 : zD cX6_areBounds 27 (.iload_n 3) 1 28 := ⟨by decide +kernel, rfl⟩
theorem dX6_areBounds_28 : zD cX6_areBounds 28 .i2l 1 29 := ⟨by decide +kernel, rfl⟩
theorem dX6_areBounds_29 : zD cX6_areBounds 29 (.invokestatic 41) 3 32 := ⟨by decide +kernel, rfl⟩
theorem dX6_areBounds_32 : zD cX6_areBounds 32 (.ifCond .eq 20) 3 35 := ⟨by decide +kernel, rfl⟩
theorem dX6_areBounds_35 : zD cX6_areBounds 35 (.iload_n 3) 1 36 := ⟨by decide +kernel, rfl⟩
theorem dX6_areBounds_36 : zD cX6_areBounds 36 .i2l 1 37 := ⟨by decide +kernel, rfl⟩
theorem dX6_areBounds_37 : zD cX6_areBounds 37 (.iload_n 1) 1 38 := ⟨by decide +kernel, rfl⟩
theorem dX6_areBounds_38 : zD cX6_areBounds 38 .i2l 1 39 := ⟨by decide +kernel, rfl⟩
theorem dX6_areBounds_39 : zD cX6_areBounds 39 (.ldc2_w 119) 3 42 := ⟨by decide +kernel, rfl⟩
theorem dX6_areBounds_42 : zD cX6_areBounds 42 (.invokestatic 41) 3 45 := ⟨by decide +kernel, rfl⟩
theorem dX6_areBounds_45 : zD cX6_areBounds 45 (.ifCond .eq 7) 3 48 := ⟨by decide +kernel, rfl⟩
theorem dX6_areBounds_48 : zD cX6_areBounds 48 (.iconst 1) 1 49 := ⟨by decide +kernel, rfl⟩
theorem dX6_areBounds_49 : zD cX6_areBounds 49 (.goto 4) 3 52 := ⟨by decide +kernel, rfl⟩
theorem dX6_areBounds_52 : zD cX6_areBounds 52 (.iconst 0) 1 53 := ⟨by decide +kernel, rfl⟩
theorem dX6_areBounds_53 : zD cX6_areBounds 53 .ireturn 1 54 := ⟨by decide +kernel, rfl⟩
theorem dX6_isFree_0 : zD cX6_isFree 0 (.iconst 1) 1 1 := ⟨by decide +kernel, rfl⟩
theorem dX6_isFree_1 : zD cX6_isFree 1 (.istore 6) 2 3 := ⟨by decide +kernel, rfl⟩
theorem dX6_isFree_3 : zD cX6_isFree 3 (.iconst 0) 1 4 := ⟨by decide +kernel, rfl⟩
theorem dX6_isFree_4 : zD cX6_isFree 4 (.istore 7) 2 6 := ⟨by decide +kernel, rfl⟩
theorem dX6_isFree_6 : zD cX6_isFree 6 (.iload 7) 2 8 := ⟨by decide +kernel, rfl⟩
theorem dX6_isFree_8 : zD cX6_isFree 8 (.aload_n 0) 1 9 := ⟨by decide +kernel, rfl⟩
theorem dX6_isFree_9 : zD cX6_isFree 9 (.getfield 7) 3 12 := ⟨by decide +kernel, rfl⟩
theorem dX6_isFree_12 : zD cX6_isFree 12 (.iconst 0) 1 13 := ⟨by decide +kernel, rfl⟩
theorem dX6_isFree_13 : zD cX6_isFree 13 .iaload 1 14 := ⟨by decide +kernel, rfl⟩
theorem dX6_isFree_14 : zD cX6_isFree 14 (.if_icmp .ge 85) 3 17 := ⟨by decide +kernel, rfl⟩
theorem dX6_isFree_17 : zD cX6_isFree 17 (.iload_n 1) 1 18 := ⟨by decide +kernel, rfl⟩
theorem dX6_isFree_18 : zD cX6_isFree 18 (.iload_n 3) 1 19 := ⟨by decide +kernel, rfl⟩
theorem dX6_isFree_19 : zD cX6_isFree 19 (.aload_n 0) 1 20 := ⟨by decide +kernel, rfl⟩
theorem dX6_isFree_20 : zD cX6_isFree 20 (.iload 7) 2 22 := ⟨by decide +kernel, rfl⟩
theorem dX6_isFree_22 : zD cX6_isFree 22 (.iconst 0) 1 23 := ⟨by decide +kernel, rfl⟩
theorem dX6_isFree_23 : zD cX6_isFree 23 (.invokevirtual 45) 3 26 := ⟨by decide +kernel, rfl⟩
theorem dX6_isFree_26 : zD cX6_isFree 26 (.aload_n 0) 1 27 := ⟨by decide +kernel, rfl⟩
theorem dX6_isFree_27 : zD cX6_isFree 27 (.iload 7) 2 29 := ⟨by decide +kernel, rfl⟩
theorem dX6_isFree_29 : zD cX6_isFree 29 (.iconst 2) 1 30 := ⟨by decide +kernel, rfl⟩
theorem dX6_isFree_30 : zD cX6_isFree 30 (.invokevirtual 45) 3 33 := ⟨by decide +kernel, rfl⟩
theorem dX6_isFree_33 : zD cX6_isFree 33 (.invokestatic 53) 3 36 := ⟨by decide +kernel, rfl⟩
theorem dX6_isFree_36 : zD cX6_isFree 36 (.ifCond .ne 30) 3 39 := ⟨by decide +kernel, rfl⟩
theorem dX6_isFree_39 : zD cX6_isFree 39 (.iload_n 2) 1 40 := ⟨by decide +kernel, rfl⟩
theorem dX6_isFree_40 : zD cX6_isFree 40 (.iload 4) 2 42 := ⟨by decide +kernel, rfl⟩
theorem dX6_isFree_42 : zD cX6_isFree 42 (.aload_n 0) 1 43 := ⟨by decide +kernel, rfl⟩
theorem dX6_isFree_43 : zD cX6_isFree 43 (.iload 7) 2 45 := ⟨by decide +kernel, rfl⟩
theorem dX6_isFree_45 : zD cX6_isFree 45 (.iconst 1) 1 46 := ⟨by decide +kernel, rfl⟩
theorem dX6_isFree_46 : zD cX6_isFree 46 (.invokevirtual 45) 3 49 := ⟨by decide +kernel, rfl⟩
theorem dX6_isFree_49 : zD cX6_isFree 49 (.aload_n 0) 1 50 := ⟨by decide +kernel, rfl⟩
theorem dX6_isFree_50 : zD cX6_isFree 50 (.iload 7) 2 52 := ⟨by decide +kernel, rfl⟩
theorem dX6_isFree_52 : zD cX6_isFree 52 (.iconst 3) 1 53 := ⟨by decide +kernel, rfl⟩
theorem dX6_isFree_53 : zD cX6_isFree 53 (.invokevirtual 45) 3 56 := ⟨by decide +kernel, rfl⟩
theorem dX6_isFree_56 : zD cX6_isFree 56 (.invokestatic 53) 3 59 := ⟨by decide +kernel, rfl⟩
theorem dX6_isFree_59 : zD cX6_isFree 59 (.ifCond .ne 7) 3 62 := ⟨by decide +kernel, rfl⟩
theorem dX6_isFree_62 : zD cX6_isFree 62 (.iconst 1) 1 63 := ⟨by decide +kernel, rfl⟩
theorem dX6_isFree_63 : zD cX6_isFree 63 (.goto 4) 3 66 := ⟨by decide +kernel, rfl⟩
theorem dX6_isFree_66 : zD cX6_isFree 66 (.iconst 0) 1 67 := ⟨by decide +kernel, rfl⟩
theorem dX6_isFree_67 : zD cX6_isFree 67 (.istore 8) 2 69 := ⟨by decide +kernel, rfl⟩
theorem dX6_isFree_69 : zD cX6_isFree 69 (.iload 6) 2 71 := ⟨by decide +kernel, rfl⟩
theorem dX6_isFree_71 : zD cX6_isFree 71 (.ifCond .eq 19) 3 74 := ⟨by decide +kernel, rfl⟩
theorem dX6_isFree_74 : zD cX6_isFree 74 (.iload 7) 2 76 := ⟨by decide +kernel, rfl⟩
theorem dX6_isFree_76 : zD cX6_isFree 76 (.iload 5) 2 78 := ⟨by decide +kernel, rfl⟩
theorem dX6_isFree_78 : zD cX6_isFree 78 (.if_icmp .eq 8) 3 81 := ⟨by decide +kernel, rfl⟩
theorem dX6_isFree_81 : zD cX6_isFree 81 (.iload 8) 2 83 := ⟨by decide +kernel, rfl⟩
theorem dX6_isFree_83 : zD cX6_isFree 83 (.ifCond .ne 7) 3 86 := ⟨by decide +kernel, rfl⟩
theorem dX6_isFree_86 : zD cX6_isFree 86 (.iconst 1) 1 87 := ⟨by decide +kernel, rfl⟩
theorem dX6_isFree_87 : zD cX6_isFree 87 (.goto 4) 3 90 := ⟨by decide +kernel, rfl⟩
theorem dX6_isFree_90 : zD cX6_isFree 90 (.iconst 0) 1 91 := ⟨by decide +kernel, rfl⟩
theorem dX6_isFree_91 : zD cX6_isFree 91 (.istore 6) 2 93 := ⟨by decide +kernel, rfl⟩
theorem dX6_isFree_93 : zD cX6_isFree 93 (.iinc 7 1) 3 96 := ⟨by decide +kernel, rfl⟩
theorem dX6_isFree_96 : zD cX6_isFree 96 (.goto (-90)) 3 99 := ⟨by decide +kernel, rfl⟩
theorem dX6_isFree_99 : zD cX6_isFree 99 (.iload 6) 2 101 := ⟨by decide +kernel, rfl⟩
theorem dX6_isFree_101 : zD cX6_isFree 101 .ireturn 1 102 := ⟨by decide +kernel, rfl⟩
theorem dX6_isFull_0 : zD cX6_isFull 0 (.aload_n 0) 1 1 := ⟨by decide +kernel, rfl⟩
theorem dX6_isFull_1 : zD cX6_isFull 1 (.getfield 7) 3 4 := ⟨by decide +kernel, rfl⟩
theorem dX6_isFull_4 : zD cX6_isFull 4 (.iconst 0) 1 5 := ⟨by decide +kernel, rfl⟩
theorem dX6_isFull_5 : zD cX6_isFull 5 .iaload 1 6 := ⟨by decide +kernel, rfl⟩
theorem dX6_isFull_6 : zD cX6_isFull 6 (.bipush 10) 2 8 := ⟨by decide +kernel, rfl⟩
theorem dX6_isFull_8 : zD cX6_isFull 8 (.if_icmp .eq 12) 3 11 := ⟨by decide +kernel, rfl⟩
theorem dX6_isFull_11 : zD cX6_isFull 11 (.aload_n 0) 1 12 := ⟨by decide +kernel, rfl⟩
theorem dX6_isFull_12 : zD cX6_isFull 12 (.invokevirtual 121) 3 15 := ⟨by decide +kernel, rfl⟩
theorem dX6_isFull_15 : zD cX6_isFull 15 (.bipush 14) 2 17 := ⟨by decide +kernel, rfl⟩
theorem dX6_isFull_17 : zD cX6_isFull 17 (.if_icmp .ne 7) 3 20 := ⟨by decide +kernel, rfl⟩
theorem dX6_isFull_20 : zD cX6_isFull 20 (.iconst 1) 1 21 := ⟨by decide +kernel, rfl⟩
theorem dX6_isFull_21 : zD cX6_isFull 21 (.goto 4) 3 24 := ⟨by decide +kernel, rfl⟩
theorem dX6_isFull_24 : zD cX6_isFull 24 (.iconst 0) 1 25 := ⟨by decide +kernel, rfl⟩
theorem dX6_isFull_25 : zD cX6_isFull 25 .ireturn 1 26 := ⟨by decide +kernel, rfl⟩
theorem dX6_put_0 : zD cX6_put 0 (.iconst 1) 1 1 := ⟨by decide +kernel, rfl⟩
theorem dX6_put_1 : zD cX6_put 1 (.bipush 6) 2 3 := ⟨by decide +kernel, rfl⟩
theorem dX6_put_3 : zD cX6_put 3 (.iload_n 1) 1 4 := ⟨by decide +kernel, rfl⟩
theorem dX6_put_4 : zD cX6_put 4 .imul 1 5 := ⟨by decide +kernel, rfl⟩
theorem dX6_put_5 : zD cX6_put 5 .iadd 1 6 := ⟨by decide +kernel, rfl⟩
theorem dX6_put_6 : zD cX6_put 6 (.istore 6) 2 8 := ⟨by decide +kernel, rfl⟩
theorem dX6_put_8 : zD cX6_put 8 (.aload_n 0) 1 9 := ⟨by decide +kernel, rfl⟩
theorem dX6_put_9 : zD cX6_put 9 (.getfield 7) 3 12 := ⟨by decide +kernel, rfl⟩
theorem dX6_put_12 : zD cX6_put 12 (.iload 6) 2 14 := ⟨by decide +kernel, rfl⟩
theorem dX6_put_14 : zD cX6_put 14 (.iload_n 2) 1 15 := ⟨by decide +kernel, rfl⟩
theorem dX6_put_15 : zD cX6_put 15 .iastore 1 16 := ⟨by decide +kernel, rfl⟩
theorem dX6_put_16 : zD cX6_put 16 (.aload_n 0) 1 17 := ⟨by decide +kernel, rfl⟩
theorem dX6_put_17 : zD cX6_put 17 (.getfield 7) 3 20 := ⟨by decide +kernel, rfl⟩
theorem dX6_put_20 : zD cX6_put 20 (.iload 6) 2 22 := ⟨by decide +kernel, rfl⟩
theorem dX6_put_22 : zD cX6_put 22 (.iconst 1) 1 23 := ⟨by decide +kernel, rfl⟩
theorem dX6_put_23 : zD cX6_put 23 .iadd 1 24 := ⟨by decide +kernel, rfl⟩
theorem dX6_put_24 : zD cX6_put 24 (.iload_n 3) 1 25 := ⟨by decide +kernel, rfl⟩
theorem dX6_put_25 : zD cX6_put 25 .iastore 1 26 := ⟨by decide +kernel, rfl⟩
theorem dX6_put_26 : zD cX6_put 26 (.aload_n 0) 1 27 := ⟨by decide +kernel, rfl⟩
theorem dX6_put_27 : zD cX6_put 27 (.getfield 7) 3 30 := ⟨by decide +kernel, rfl⟩
theorem dX6_put_30 : zD cX6_put 30 (.iload 6) 2 32 := ⟨by decide +kernel, rfl⟩
theorem dX6_put_32 : zD cX6_put 32 (.iconst 2) 1 33 := ⟨by decide +kernel, rfl⟩
theorem dX6_put_33 : zD cX6_put 33 .iadd 1 34 := ⟨by decide +kernel, rfl⟩
theorem dX6_put_34 : zD cX6_put 34 (.iload 4) 2 36 := ⟨by decide +kernel, rfl⟩
theorem dX6_put_36 : zD cX6_put 36 .iastore 1 37 := ⟨by decide +kernel, rfl⟩
theorem dX6_put_37 : zD cX6_put 37 (.aload_n 0) 1 38 := ⟨by decide +kernel, rfl⟩
theorem dX6_put_38 : zD cX6_put 38 (.getfield 7) 3 41 := ⟨by decide +kernel, rfl⟩
theorem dX6_put_41 : zD cX6_put 41 (.iload 6) 2 43 := ⟨by decide +kernel, rfl⟩
theorem dX6_put_43 : zD cX6_put 43 (.iconst 3) 1 44 := ⟨by decide +kernel, rfl⟩
theorem dX6_put_44 : zD cX6_put 44 .iadd 1 45 := ⟨by decide +kernel, rfl⟩
theorem dX6_put_45 : zD cX6_put 45 (.iload 5) 2 47 := ⟨by decide +kernel, rfl⟩
theorem dX6_put_47 : zD cX6_put 47 .iastore 1 48 := ⟨by decide +kernel, rfl⟩
theorem dX6_put_48 : zD cX6_put 48 .return_ 1 49 := ⟨by decide +kernel, rfl⟩
theorem dX6_addShape_0 : zD cX6_addShape 0 (.aload_n 0) 1 1 := ⟨by decide +kernel, rfl⟩
theorem dX6_addShape_1 : zD cX6_addShape 1 (.getfield 7) 3 4 := ⟨by decide +kernel, rfl⟩
theorem dX6_addShape_4 : zD cX6_addShape 4 (.iconst 0) 1 5 := ⟨by decide +kernel, rfl⟩
theorem dX6_addShape_5 : zD cX6_addShape 5 .iaload 1 6 := ⟨by decide +kernel, rfl⟩
theorem dX6_addShape_6 : zD cX6_addShape 6 (.istore 5) 2 8 := ⟨by decide +kernel, rfl⟩
theorem dX6_addShape_8 : zD cX6_addShape 8 (.aload_n 0) 1 9 := ⟨by decide +kernel, rfl⟩
theorem dX6_addShape_9 : zD cX6_addShape 9 (.iload 5) 2 11 := ⟨by decide +kernel, rfl⟩
theorem dX6_addShape_11 : zD cX6_addShape 11 (.iload_n 1) 1 12 := ⟨by decide +kernel, rfl⟩
theorem dX6_addShape_12 : zD cX6_addShape 12 (.iload_n 2) 1 13 := ⟨by decide +kernel, rfl⟩
theorem dX6_addShape_13 : zD cX6_addShape 13 (.iload_n 3) 1 14 := ⟨by decide +kernel, rfl⟩
theorem dX6_addShape_14 : zD cX6_addShape 14 (.iload 4) 2 16 := ⟨by decide +kernel, rfl⟩
theorem dX6_addShape_16 : zD cX6_addShape 16 (.invokevirtual 124) 3 19 := ⟨by decide +kernel, rfl⟩
theorem dX6_addShape_19 : zD cX6_addShape 19 (.aload_n 0) 1 20 := ⟨by decide +kernel, rfl⟩
theorem dX6_addShape_20 : zD cX6_addShape 20 (.getfield 7) 3 23 := ⟨by decide +kernel, rfl⟩
theorem dX6_addShape_23 : zD cX6_addShape 23 (.iconst 1) 1 24 := ⟨by decide +kernel, rfl⟩
theorem dX6_addShape_24 : zD cX6_addShape 24 (.bipush 6) 2 26 := ⟨by decide +kernel, rfl⟩
theorem dX6_addShape_26 : zD cX6_addShape 26 (.iload 5) 2 28 := ⟨by decide +kernel, rfl⟩
theorem dX6_addShape_28 : zD cX6_addShape 28 .imul 1 29 := ⟨by decide +kernel, rfl⟩
theorem dX6_addShape_29 : zD cX6_addShape 29 .iadd 1 30 := ⟨by decide +kernel, rfl⟩
theorem dX6_addShape_30 : zD cX6_addShape 30 (.iconst 4) 1 31 := ⟨by decide +kernel, rfl⟩
theorem dX6_addShape_31 : zD cX6_addShape 31 .iadd 1 32 := ⟨by decide +kernel, rfl⟩
theorem dX6_addShape_32 : zD cX6_addShape 32 (.iconst 0) 1 33 := ⟨by decide +kernel, rfl⟩
theorem dX6_addShape_33 : zD cX6_addShape 33 .iastore 1 34 := ⟨by decide +kernel, rfl⟩
theorem dX6_addShape_34 : zD cX6_addShape 34 (.aload_n 0) 1 35 := ⟨by decide +kernel, rfl⟩
theorem dX6_addShape_35 : zD cX6_addShape 35 (.getfield 7) 3 38 := ⟨by decide +kernel, rfl⟩
theorem dX6_addShape_38 : zD cX6_addShape 38 (.iconst 1) 1 39 := ⟨by decide +kernel, rfl⟩
theorem dX6_addShape_39 : zD cX6_addShape 39 (.bipush 6) 2 41 := ⟨by decide +kernel, rfl⟩
theorem dX6_addShape_41 : zD cX6_addShape 41 (.iload 5) 2 43 := ⟨by decide +kernel, rfl⟩
theorem dX6_addShape_43 : zD cX6_addShape 43 .imul 1 44 := ⟨by decide +kernel, rfl⟩
theorem dX6_addShape_44 : zD cX6_addShape 44 .iadd 1 45 := ⟨by decide +kernel, rfl⟩
theorem dX6_addShape_45 : zD cX6_addShape 45 (.iconst 5) 1 46 := ⟨by decide +kernel, rfl⟩
theorem dX6_addShape_46 : zD cX6_addShape 46 .iadd 1 47 := ⟨by decide +kernel, rfl⟩
theorem dX6_addShape_47 : zD cX6_addShape 47 (.iconst 0) 1 48 := ⟨by decide +kernel, rfl⟩
theorem dX6_addShape_48 : zD cX6_addShape 48 .iastore 1 49 := ⟨by decide +kernel, rfl⟩
theorem dX6_addShape_49 : zD cX6_addShape 49 (.aload_n 0) 1 50 := ⟨by decide +kernel, rfl⟩
theorem dX6_addShape_50 : zD cX6_addShape 50 (.getfield 7) 3 53 := ⟨by decide +kernel, rfl⟩
theorem dX6_addShape_53 : zD cX6_addShape 53 (.iconst 0) 1 54 := ⟨by decide +kernel, rfl⟩
theorem dX6_addShape_54 : zD cX6_addShape 54 .dup2 1 55 := ⟨by decide +kernel, rfl⟩
theorem dX6_addShape_55 : zD cX6_addShape 55 .iaload 1 56 := ⟨by decide +kernel, rfl⟩
theorem dX6_addShape_56 : zD cX6_addShape 56 (.iconst 1) 1 57 := ⟨by decide +kernel, rfl⟩
theorem dX6_addShape_57 : zD cX6_addShape 57 .iadd 1 58 := ⟨by decide +kernel, rfl⟩
theorem dX6_addShape_58 : zD cX6_addShape 58 .iastore 1 59 := ⟨by decide +kernel, rfl⟩
theorem dX6_addShape_59 : zD cX6_addShape 59 .return_ 1 60 := ⟨by decide +kernel, rfl⟩
theorem dX6_shape_0 : zD cX6_shape 0 (.iload_n 1) 1 1 := ⟨by decide +kernel, rfl⟩
theorem dX6_shape_1 : zD cX6_shape 1 (.iload_n 2) 1 2 := ⟨by decide +kernel, rfl⟩
theorem dX6_shape_2 : zD cX6_shape 2 (.iload_n 3) 1 3 := ⟨by decide +kernel, rfl⟩
theorem dX6_shape_3 : zD cX6_shape 3 (.iload 4) 2 5 := ⟨by decide +kernel, rfl⟩
theorem dX6_shape_5 : zD cX6_shape 5 (.invokestatic 128) 3 8 := ⟨by decide +kernel, rfl⟩
theorem dX6_shape_8 : zD cX6_shape 8 (.ifCond .ne 6) 3 11 := ⟨by decide +kernel, rfl⟩
theorem dX6_shape_11 : zD cX6_shape 11 (.ldc 132) 2 13 := ⟨by decide +kernel, rfl⟩
theorem dX6_shape_13 : zD cX6_shape 13 .ireturn 1 14 := ⟨by decide +kernel, rfl⟩
theorem dX6_shape_14 : zD cX6_shape 14 (.aload_n 0) 1 15 := ⟨by decide +kernel, rfl⟩
theorem dX6_shape_15 : zD cX6_shape 15 (.iload_n 1) 1 16 := ⟨by decide +kernel, rfl⟩
theorem dX6_shape_16 : zD cX6_shape 16 (.iload_n 2) 1 17 := ⟨by decide +kernel, rfl⟩
theorem dX6_shape_17 : zD cX6_shape 17 (.iload_n 3) 1 18 := ⟨by decide +kernel, rfl⟩
theorem dX6_shape_18 : zD cX6_shape 18 (.iload 4) 2 20 := ⟨by decide +kernel, rfl⟩
theorem dX6_shape_20 : zD cX6_shape 20 (.iconst (-1)) 1 21 := ⟨by decide +kernel, rfl⟩
theorem dX6_shape_21 : zD cX6_shape 21 (.invokevirtual 133) 3 24 := ⟨by decide +kernel, rfl⟩
theorem dX6_shape_24 : zD cX6_shape 24 (.ifCond .ne 6) 3 27 := ⟨by decide +kernel, rfl⟩
theorem dX6_shape_27 : zD cX6_shape 27 (.ldc 137) 2 29 := ⟨by decide +kernel, rfl⟩
theorem dX6_shape_29 : zD cX6_shape 29 .ireturn 1 30 := ⟨by decide +kernel, rfl⟩
theorem dX6_shape_30 : zD cX6_shape 30 (.aload_n 0) 1 31 := ⟨by decide +kernel, rfl⟩
theorem dX6_shape_31 : zD cX6_shape 31 (.invokevirtual 138) 3 34 := ⟨by decide +kernel, rfl⟩
theorem dX6_shape_34 : zD cX6_shape 34 (.ifCond .eq 6) 3 37 := ⟨by decide +kernel, rfl⟩
theorem dX6_shape_37 : zD cX6_shape 37 (.ldc 142) 2 39 := ⟨by decide +kernel, rfl⟩
theorem dX6_shape_39 : zD cX6_shape 39 .ireturn 1 40 := ⟨by decide +kernel, rfl⟩
theorem dX6_shape_40 : zD cX6_shape 40 (.aload_n 0) 1 41 := ⟨by decide +kernel, rfl⟩
theorem dX6_shape_41 : zD cX6_shape 41 (.invokevirtual 143) 3 44 := ⟨by decide +kernel, rfl⟩
theorem dX6_shape_44 : zD cX6_shape 44 (.aload_n 0) 1 45 := ⟨by decide +kernel, rfl⟩
theorem dX6_shape_45 : zD cX6_shape 45 (.invokevirtual 146) 3 48 := ⟨by decide +kernel, rfl⟩
theorem dX6_shape_48 : zD cX6_shape 48 (.aload_n 0) 1 49 := ⟨by decide +kernel, rfl⟩
theorem dX6_shape_49 : zD cX6_shape 49 (.iload_n 1) 1 50 := ⟨by decide +kernel, rfl⟩
theorem dX6_shape_50 : zD cX6_shape 50 (.iload_n 2) 1 51 := ⟨by decide +kernel, rfl⟩
theorem dX6_shape_51 : zD cX6_shape 51 (.iload_n 3) 1 52 := ⟨by decide +kernel, rfl⟩
theorem dX6_shape_52 : zD cX6_shape 52 (.iload 4) 2 54 := ⟨by decide +kernel, rfl⟩
theorem dX6_shape_54 : zD cX6_shape 54 (.invokevirtual 149) 3 57 := ⟨by decide +kernel, rfl⟩
theorem dX6_shape_57 : zD cX6_shape 57 (.aload_n 0) 1 58 := ⟨by decide +kernel, rfl⟩
theorem dX6_shape_58 : zD cX6_shape 58 (.getfield 7) 3 61 := ⟨by decide +kernel, rfl⟩
theorem dX6_shape_61 : zD cX6_shape 61 (.iconst 0) 1 62 := ⟨by decide +kernel, rfl⟩
theorem dX6_shape_62 : zD cX6_shape 62 .iaload 1 63 := ⟨by decide +kernel, rfl⟩
theorem dX6_shape_63 : zD cX6_shape 63 (.iconst 1) 1 64 := ⟨by decide +kernel, rfl⟩
theorem dX6_shape_64 : zD cX6_shape 64 .isub 1 65 := ⟨by decide +kernel, rfl⟩
theorem dX6_shape_65 : zD cX6_shape 65 .ireturn 1 66 := ⟨by decide +kernel, rfl⟩
theorem dX6_drop_0 : zD cX6_drop 0 (.aload_n 0) 1 1 := ⟨by decide +kernel, rfl⟩
theorem dX6_drop_1 : zD cX6_drop 1 (.iload_n 1) 1 2 := ⟨by decide +kernel, rfl⟩
theorem dX6_drop_2 : zD cX6_drop 2 (.invokevirtual 153) 3 5 := ⟨by decide +kernel, rfl⟩
theorem dX6_drop_5 : zD cX6_drop 5 (.ifCond .ne 6) 3 8 := ⟨by decide +kernel, rfl⟩
theorem dX6_drop_8 : zD cX6_drop 8 (.ldc 156) 2 10 := ⟨by decide +kernel, rfl⟩
theorem dX6_drop_10 : zD cX6_drop 10 .ireturn 1 11 := ⟨by decide +kernel, rfl⟩
theorem dX6_drop_11 : zD cX6_drop 11 (.aload_n 0) 1 12 := ⟨by decide +kernel, rfl⟩
theorem dX6_drop_12 : zD cX6_drop 12 (.invokevirtual 143) 3 15 := ⟨by decide +kernel, rfl⟩
theorem dX6_drop_15 : zD cX6_drop 15 (.aload_n 0) 1 16 := ⟨by decide +kernel, rfl⟩
theorem dX6_drop_16 : zD cX6_drop 16 (.invokevirtual 146) 3 19 := ⟨by decide +kernel, rfl⟩
theorem dX6_drop_19 : zD cX6_drop 19 (.aload_n 0) 1 20 := ⟨by decide +kernel, rfl⟩
theorem dX6_drop_20 : zD cX6_drop 20 (.getfield 7) 3 23 := ⟨by decide +kernel, rfl⟩
theorem dX6_drop_23 : zD cX6_drop 23 (.iconst 0) 1 24 := ⟨by decide +kernel, rfl⟩
theorem dX6_drop_24 : zD cX6_drop 24 .dup2 1 25 := ⟨by decide +kernel, rfl⟩
theorem dX6_drop_25 : zD cX6_drop 25 .iaload 1 26 := ⟨by decide +kernel, rfl⟩
theorem dX6_drop_26 : zD cX6_drop 26 (.iconst 1) 1 27 := ⟨by decide +kernel, rfl⟩
theorem dX6_drop_27 : zD cX6_drop 27 .isub 1 28 := ⟨by decide +kernel, rfl⟩
theorem dX6_drop_28 : zD cX6_drop 28 .iastore 1 29 := ⟨by decide +kernel, rfl⟩
theorem dX6_drop_29 : zD cX6_drop 29 (.iconst 1) 1 30 := ⟨by decide +kernel, rfl⟩
theorem dX6_drop_30 : zD cX6_drop 30 (.bipush 6) 2 32 := ⟨by decide +kernel, rfl⟩
theorem dX6_drop_32 : zD cX6_drop 32 (.iload_n 1) 1 33 := ⟨by decide +kernel, rfl⟩
theorem dX6_drop_33 : zD cX6_drop 33 .imul 1 34 := ⟨by decide +kernel, rfl⟩
theorem dX6_drop_34 : zD cX6_drop 34 .iadd 1 35 := ⟨by decide +kernel, rfl⟩
theorem dX6_drop_35 : zD cX6_drop 35 (.istore_n 2) 1 36 := ⟨by decide +kernel, rfl⟩
theorem dX6_drop_36 : zD cX6_drop 36 (.iload_n 2) 1 37 := ⟨by decide +kernel, rfl⟩
theorem dX6_drop_37 : zD cX6_drop 37 (.iconst 1) 1 38 := ⟨by decide +kernel, rfl⟩
theorem dX6_drop_38 : zD cX6_drop 38 (.bipush 6) 2 40 := ⟨by decide +kernel, rfl⟩
theorem dX6_drop_40 : zD cX6_drop 40 (.aload_n 0) 1 41 := ⟨by decide +kernel, rfl⟩
theorem dX6_drop_41 : zD cX6_drop 41 (.getfield 7) 3 44 := ⟨by decide +kernel, rfl⟩
theorem dX6_drop_44 : zD cX6_drop 44 (.iconst 0) 1 45 := ⟨by decide +kernel, rfl⟩
theorem dX6_drop_45 : zD cX6_drop 45 .iaload 1 46 := ⟨by decide +kernel, rfl⟩
theorem dX6_drop_46 : zD cX6_drop 46 .imul 1 47 := ⟨by decide +kernel, rfl⟩
theorem dX6_drop_47 : zD cX6_drop 47 .iadd 1 48 := ⟨by decide +kernel, rfl⟩
theorem dX6_drop_48 : zD cX6_drop 48 (.if_icmp .ge 24) 3 51 := ⟨by decide +kernel, rfl⟩
theorem dX6_drop_51 : zD cX6_drop 51 (.aload_n 0) 1 52 := ⟨by decide +kernel, rfl⟩
theorem dX6_drop_52 : zD cX6_drop 52 (.getfield 7) 3 55 := ⟨by decide +kernel, rfl⟩
theorem dX6_drop_55 : zD cX6_drop 55 (.iload_n 2) 1 56 := ⟨by decide +kernel, rfl⟩
theorem dX6_drop_56 : zD cX6_drop 56 (.aload_n 0) 1 57 := ⟨by decide +kernel, rfl⟩
theorem dX6_drop_57 : zD cX6_drop 57 (.getfield 7) 3 60 := ⟨by decide +kernel, rfl⟩
theorem dX6_drop_60 : zD cX6_drop 60 (.iload_n 2) 1 61 := ⟨by decide +kernel, rfl⟩
theorem dX6_drop_61 : zD cX6_drop 61 (.bipush 6) 2 63 := ⟨by decide +kernel, rfl⟩
theorem dX6_drop_63 : zD cX6_drop 63 .iadd 1 64 := ⟨by decide +kernel, rfl⟩
theorem dX6_drop_64 : zD cX6_drop 64 .iaload 1 65 := ⟨by decide +kernel, rfl⟩
theorem dX6_drop_65 : zD cX6_drop 65 .iastore 1 66 := ⟨by decide +kernel, rfl⟩
theorem dX6_drop_66 : zD cX6_drop 66 (.iinc 2 1) 3 69 := ⟨by decide +kernel, rfl⟩
theorem dX6_drop_69 : zD cX6_drop 69 (.goto (-33)) 3 72 := ⟨by decide +kernel, rfl⟩
theorem dX6_drop_72 : zD cX6_drop 72 (.iconst 1) 1 73 := ⟨by decide +kernel, rfl⟩
theorem dX6_drop_73 : zD cX6_drop 73 (.bipush 6) 2 75 := ⟨by decide +kernel, rfl⟩
theorem dX6_drop_75 : zD cX6_drop 75 (.aload_n 0) 1 76 := ⟨by decide +kernel, rfl⟩
theorem dX6_drop_76 : zD cX6_drop 76 (.getfield 7) 3 79 := ⟨by decide +kernel, rfl⟩
theorem dX6_drop_79 : zD cX6_drop 79 (.iconst 0) 1 80 := ⟨by decide +kernel, rfl⟩
theorem dX6_drop_80 : zD cX6_drop 80 .iaload 1 81 := ⟨by decide +kernel, rfl⟩
theorem dX6_drop_81 : zD cX6_drop 81 .imul 1 82 := ⟨by decide +kernel, rfl⟩
theorem dX6_drop_82 : zD cX6_drop 82 .iadd 1 83 := ⟨by decide +kernel, rfl⟩
theorem dX6_drop_83 : zD cX6_drop 83 (.istore_n 2) 1 84 := ⟨by decide +kernel, rfl⟩
theorem dX6_drop_84 : zD cX6_drop 84 (.iload_n 2) 1 85 := ⟨by decide +kernel, rfl⟩
theorem dX6_drop_85 : zD cX6_drop 85 (.bipush 61) 2 87 := ⟨by decide +kernel, rfl⟩
theorem dX6_drop_87 : zD cX6_drop 87 (.if_icmp .ge 16) 3 90 := ⟨by decide +kernel, rfl⟩
theorem dX6_drop_90 : zD cX6_drop 90 (.aload_n 0) 1 91 := ⟨by decide +kernel, rfl⟩
theorem dX6_drop_91 : zD cX6_drop 91 (.getfield 7) 3 94 := ⟨by decide +kernel, rfl⟩
theorem dX6_drop_94 : zD cX6_drop 94 (.iload_n 2) 1 95 := ⟨by decide +kernel, rfl⟩
theorem dX6_drop_95 : zD cX6_drop 95 (.iconst 0) 1 96 := ⟨by decide +kernel, rfl⟩
theorem dX6_drop_96 : zD cX6_drop 96 .iastore 1 97 := ⟨by decide +kernel, rfl⟩
theorem dX6_drop_97 : zD cX6_drop 97 (.iinc 2 1) 3 100 := ⟨by decide +kernel, rfl⟩
theorem dX6_drop_100 : zD cX6_drop 100 (.goto (-16)) 3 103 := ⟨by decide +kernel, rfl⟩
theorem dX6_drop_103 : zD cX6_drop 103 (.aload_n 0) 1 104 := ⟨by decide +kernel, rfl⟩
theorem dX6_drop_104 : zD cX6_drop 104 (.getfield 7) 3 107 := ⟨by decide +kernel, rfl⟩
theorem dX6_drop_107 : zD cX6_drop 107 (.iconst 0) 1 108 := ⟨by decide +kernel, rfl⟩
theorem dX6_drop_108 : zD cX6_drop 108 .iaload 1 109 := ⟨by decide +kernel, rfl⟩
theorem dX6_drop_109 : zD cX6_drop 109 .ireturn 1 110 := ⟨by decide +kernel, rfl⟩
theorem dX6_mayMove_0 : zD cX6_mayMove 0 (.aload_n 0) 1 1 := ⟨by decide +kernel, rfl⟩
theorem dX6_mayMove_1 : zD cX6_mayMove 1 (.iload_n 1) 1 2 := ⟨by decide +kernel, rfl⟩
theorem dX6_mayMove_2 : zD cX6_mayMove 2 (.iconst 0) 1 3 := ⟨by decide +kernel, rfl⟩
theorem dX6_mayMove_3 : zD cX6_mayMove 3 (.invokevirtual 45) 3 6 := ⟨by decide +kernel, rfl⟩
theorem dX6_mayMove_6 : zD cX6_mayMove 6 (.iload_n 2) 1 7 := ⟨by decide +kernel, rfl⟩
theorem dX6_mayMove_7 : zD cX6_mayMove 7 .iadd 1 8 := ⟨by decide +kernel, rfl⟩
theorem dX6_mayMove_8 : zD cX6_mayMove 8 (.istore 4) 2 10 := ⟨by decide +kernel, rfl⟩
theorem dX6_mayMove_10 : zD cX6_mayMove 10 (.aload_n 0) 1 11 := ⟨by decide +kernel, rfl⟩
theorem dX6_mayMove_11 : zD cX6_mayMove 11 (.iload_n 1) 1 12 := ⟨by decide +kernel, rfl⟩
theorem dX6_mayMove_12 : zD cX6_mayMove 12 (.iconst 1) 1 13 := ⟨by decide +kernel, rfl⟩
theorem dX6_mayMove_13 : zD cX6_mayMove 13 (.invokevirtual 45) 3 16 := ⟨by decide +kernel, rfl⟩
theorem dX6_mayMove_16 : zD cX6_mayMove 16 (.iload_n 3) 1 17 := ⟨by decide +kernel, rfl⟩
theorem dX6_mayMove_17 : zD cX6_mayMove 17 .iadd 1 18 := ⟨by decide +kernel, rfl⟩
theorem dX6_mayMove_18 : zD cX6_mayMove 18 (.istore 5) 2 20 := ⟨by decide +kernel, rfl⟩
theorem dX6_mayMove_20 : zD cX6_mayMove 20 (.aload_n 0) 1 21 := ⟨by decide +kernel, rfl⟩
theorem dX6_mayMove_21 : zD cX6_mayMove 21 (.iload_n 1) 1 22 := ⟨by decide +kernel, rfl⟩
theorem dX6_mayMove_22 : zD cX6_mayMove 22 (.iconst 2) 1 23 := ⟨by decide +kernel, rfl⟩
theorem dX6_mayMove_23 : zD cX6_mayMove 23 (.invokevirtual 45) 3 26 := ⟨by decide +kernel, rfl⟩
theorem dX6_mayMove_26 : zD cX6_mayMove 26 (.iload_n 2) 1 27 := ⟨by decide +kernel, rfl⟩
theorem dX6_mayMove_27 : zD cX6_mayMove 27 .iadd 1 28 := ⟨by decide +kernel, rfl⟩
theorem dX6_mayMove_28 : zD cX6_mayMove 28 (.istore 6) 2 30 := ⟨by decide +kernel, rfl⟩
theorem dX6_mayMove_30 : zD cX6_mayMove 30 (.aload_n 0) 1 31 := ⟨by decide +kernel, rfl⟩
theorem dX6_mayMove_31 : zD cX6_mayMove 31 (.iload_n 1) 1 32 := ⟨by decide +kernel, rfl⟩
theorem dX6_mayMove_32 : zD cX6_mayMove 32 (.iconst 3) 1 33 := ⟨by decide +kernel, rfl⟩
theorem dX6_mayMove_33 : zD cX6_mayMove 33 (.invokevirtual 45) 3 36 := ⟨by decide +kernel, rfl⟩
theorem dX6_mayMove_36 : zD cX6_mayMove 36 (.iload_n 3) 1 37 := ⟨by decide +kernel, rfl⟩
theorem dX6_mayMove_37 : zD cX6_mayMove 37 .iadd 1 38 := ⟨by decide +kernel, rfl⟩
theorem dX6_mayMove_38 : zD cX6_mayMove 38 (.istore 7) 2 40 := ⟨by decide +kernel, rfl⟩
theorem dX6_mayMove_40 : zD cX6_mayMove 40 (.iload 4) 2 42 := ⟨by decide +kernel, rfl⟩
theorem dX6_mayMove_42 : zD cX6_mayMove 42 (.iload 5) 2 44 := ⟨by decide +kernel, rfl⟩
theorem dX6_mayMove_44 : zD cX6_mayMove 44 (.iload 6) 2 46 := ⟨by decide +kernel, rfl⟩
theorem dX6_mayMove_46 : zD cX6_mayMove 46 (.iload 7) 2 48 := ⟨by decide +kernel, rfl⟩
theorem dX6_mayMove_48 : zD cX6_mayMove 48 (.invokestatic 128) 3 51 := ⟨by decide +kernel, rfl⟩
theorem dX6_mayMove_51 : zD cX6_mayMove 51 (.ifCond .eq 23) 3 54 := ⟨by decide +kernel, rfl⟩
theorem dX6_mayMove_54 : zD cX6_mayMove 54 (.aload_n 0) 1 55 := ⟨by decide +kernel, rfl⟩
theorem dX6_mayMove_55 : zD cX6_mayMove 55 (.iload 4) 2 57 := ⟨by decide +kernel, rfl⟩
theorem dX6_mayMove_57 : zD cX6_mayMove 57 (.iload 5) 2 59 := ⟨by decide +kernel, rfl⟩
theorem dX6_mayMove_59 : zD cX6_mayMove 59 (.iload 6) 2 61 := ⟨by decide +kernel, rfl⟩
theorem dX6_mayMove_61 : zD cX6_mayMove 61 (.iload 7) 2 63 := ⟨by decide +kernel, rfl⟩
theorem dX6_mayMove_63 : zD cX6_mayMove 63 (.iload_n 1) 1 64 := ⟨by decide +kernel, rfl⟩
theorem dX6_mayMove_64 : zD cX6_mayMove 64 (.invokevirtual 133) 3 67 := ⟨by decide +kernel, rfl⟩
theorem dX6_mayMove_67 : zD cX6_mayMove 67 (.ifCond .eq 7) 3 70 := ⟨by decide +kernel, rfl⟩
theorem dX6_mayMove_70 : zD cX6_mayMove 70 (.iconst 1) 1 71 := ⟨by decide +kernel, rfl⟩
theorem dX6_mayMove_71 : zD cX6_mayMove 71 (.goto 4) 3 74 := ⟨by decide +kernel, rfl⟩
theorem dX6_mayMove_74 : zD cX6_mayMove 74 (.iconst 0) 1 75 := ⟨by decide +kernel, rfl⟩
theorem dX6_mayMove_75 : zD cX6_mayMove 75 .ireturn 1 76 := ⟨by decide +kernel, rfl⟩
theorem dX6_doMove_0 : zD cX6_doMove 0 (.aload_n 0) 1 1 := ⟨by decide +kernel, rfl⟩
theorem dX6_doMove_1 : zD cX6_doMove 1 (.iload_n 1) 1 2 := ⟨by decide +kernel, rfl⟩
theorem dX6_doMove_2 : zD cX6_doMove 2 (.aload_n 0) 1 3 := ⟨by decide +kernel, rfl⟩
theorem dX6_doMove_3 : zD cX6_doMove 3 (.iload_n 1) 1 4 := ⟨by decide +kernel, rfl⟩
theorem dX6_doMove_4 : zD cX6_doMove 4 (.iconst 0) 1 5 := ⟨by decide +kernel, rfl⟩
theorem dX6_doMove_5 : zD cX6_doMove 5 (.invokevirtual 45) 3 8 := ⟨by decide +kernel, rfl⟩
theorem dX6_doMove_8 : zD cX6_doMove 8 (.iload_n 2) 1 9 := ⟨by decide +kernel, rfl⟩
theorem dX6_doMove_9 : zD cX6_doMove 9 .iadd 1 10 := ⟨by decide +kernel, rfl⟩
theorem dX6_doMove_10 : zD cX6_doMove 10 (.aload_n 0) 1 11 := ⟨by decide +kernel, rfl⟩
theorem dX6_doMove_11 : zD cX6_doMove 11 (.iload_n 1) 1 12 := ⟨by decide +kernel, rfl⟩
theorem dX6_doMove_12 : zD cX6_doMove 12 (.iconst 1) 1 13 := ⟨by decide +kernel, rfl⟩
theorem dX6_doMove_13 : zD cX6_doMove 13 (.invokevirtual 45) 3 16 := ⟨by decide +kernel, rfl⟩
theorem dX6_doMove_16 : zD cX6_doMove 16 (.iload_n 3) 1 17 := ⟨by decide +kernel, rfl⟩
theorem dX6_doMove_17 : zD cX6_doMove 17 .iadd 1 18 := ⟨by decide +kernel, rfl⟩
theorem dX6_doMove_18 : zD cX6_doMove 18 (.aload_n 0) 1 19 := ⟨by decide +kernel, rfl⟩
theorem dX6_doMove_19 : zD cX6_doMove 19 (.iload_n 1) 1 20 := ⟨by decide +kernel, rfl⟩
theorem dX6_doMove_20 : zD cX6_doMove 20 (.iconst 2) 1 21 := ⟨by decide +kernel, rfl⟩
theorem dX6_doMove_21 : zD cX6_doMove 21 (.invokevirtual 45) 3 24 := ⟨by decide +kernel, rfl⟩
theorem dX6_doMove_24 : zD cX6_doMove 24 (.iload_n 2) 1 25 := ⟨by decide +kernel, rfl⟩
theorem dX6_doMove_25 : zD cX6_doMove 25 .iadd 1 26 := ⟨by decide +kernel, rfl⟩
theorem dX6_doMove_26 : zD cX6_doMove 26 (.aload_n 0) 1 27 := ⟨by decide +kernel, rfl⟩
theorem dX6_doMove_27 : zD cX6_doMove 27 (.iload_n 1) 1 28 := ⟨by decide +kernel, rfl⟩
theorem dX6_doMove_28 : zD cX6_doMove 28 (.iconst 3) 1 29 := ⟨by decide +kernel, rfl⟩
theorem dX6_doMove_29 : zD cX6_doMove 29 (.invokevirtual 45) 3 32 := ⟨by decide +kernel, rfl⟩
theorem dX6_doMove_32 : zD cX6_doMove 32 (.iload_n 3) 1 33 := ⟨by decide +kernel, rfl⟩
theorem dX6_doMove_33 : zD cX6_doMove 33 .iadd 1 34 := ⟨by decide +kernel, rfl⟩
theorem dX6_doMove_34 : zD cX6_doMove 34 (.invokevirtual 124) 3 37 := ⟨by decide +kernel, rfl⟩
theorem dX6_doMove_37 : zD cX6_doMove 37 (.iconst 4) 1 38 := ⟨by decide +kernel, rfl⟩
theorem dX6_doMove_38 : zD cX6_doMove 38 (.istore 4) 2 40 := ⟨by decide +kernel, rfl⟩
theorem dX6_doMove_40 : zD cX6_doMove 40 (.iload 4) 2 42 := ⟨by decide +kernel, rfl⟩
theorem dX6_doMove_42 : zD cX6_doMove 42 (.bipush 6) 2 44 := ⟨by decide +kernel, rfl⟩
theorem dX6_doMove_44 : zD cX6_doMove 44 (.if_icmp .ge 41) 3 47 := ⟨by decide +kernel, rfl⟩
theorem dX6_doMove_47 : zD cX6_doMove 47 (.aload_n 0) 1 48 := ⟨by decide +kernel, rfl⟩
theorem dX6_doMove_48 : zD cX6_doMove 48 (.getfield 7) 3 51 := ⟨by decide +kernel, rfl⟩
theorem dX6_doMove_51 : zD cX6_doMove 51 (.iconst 1) 1 52 := ⟨by decide +kernel, rfl⟩
theorem dX6_doMove_52 : zD cX6_doMove 52 (.bipush 6) 2 54 := ⟨by decide +kernel, rfl⟩
theorem dX6_doMove_54 : zD cX6_doMove 54 (.iload_n 1) 1 55 := ⟨by decide +kernel, rfl⟩
theorem dX6_doMove_55 : zD cX6_doMove 55 .imul 1 56 := ⟨by decide +kernel, rfl⟩
theorem dX6_doMove_56 : zD cX6_doMove 56 .iadd 1 57 := ⟨by decide +kernel, rfl⟩
theorem dX6_doMove_57 : zD cX6_doMove 57 (.iload 4) 2 59 := ⟨by decide +kernel, rfl⟩
theorem dX6_doMove_59 : zD cX6_doMove 59 .iadd 1 60 := ⟨by decide +kernel, rfl⟩
theorem dX6_doMove_60 : zD cX6_doMove 60 .dup2 1 61 := ⟨by decide +kernel, rfl⟩
theorem dX6_doMove_61 : zD cX6_doMove 61 .iaload 1 62 := ⟨by decide +kernel, rfl⟩
theorem dX6_doMove_62 : zD cX6_doMove 62 (.aload_n 0) 1 63 := ⟨by decide +kernel, rfl⟩
theorem dX6_doMove_63 : zD cX6_doMove 63 (.iload_n 1) 1 64 := ⟨by decide +kernel, rfl⟩
theorem dX6_doMove_64 : zD cX6_doMove 64 (.iload 4) 2 66 := ⟨by decide +kernel, rfl⟩
theorem dX6_doMove_66 : zD cX6_doMove 66 (.invokevirtual 45) 3 69 := ⟨by decide +kernel, rfl⟩
theorem dX6_doMove_69 : zD cX6_doMove 69 (.ifCond .le 7) 3 72 := ⟨by decide +kernel, rfl⟩
theorem dX6_doMove_72 : zD cX6_doMove 72 (.iload_n 2) 1 73 := ⟨by decide +kernel, rfl⟩
theorem dX6_doMove_73 : zD cX6_doMove 73 (.goto 4) 3 76 := ⟨by decide +kernel, rfl⟩
theorem dX6_doMove_76 : zD cX6_doMove 76 (.iconst 0) 1 77 := ⟨by decide +kernel, rfl⟩
theorem dX6_doMove_77 : zD cX6_doMove 77 .iadd 1 78 := ⟨by decide +kernel, rfl⟩
theorem dX6_doMove_78 : zD cX6_doMove 78 .iastore 1 79 := ⟨by decide +kernel, rfl⟩
theorem dX6_doMove_79 : zD cX6_doMove 79 (.iinc 4 1) 3 82 := ⟨by decide +kernel, rfl⟩
theorem dX6_doMove_82 : zD cX6_doMove 82 (.goto (-42)) 3 85 := ⟨by decide +kernel, rfl⟩
theorem dX6_doMove_85 : zD cX6_doMove 85 (.aload_n 0) 1 86 := ⟨by decide +kernel, rfl⟩
theorem dX6_doMove_86 : zD cX6_doMove 86 (.invokevirtual 146) 3 89 := ⟨by decide +kernel, rfl⟩
theorem dX6_doMove_89 : zD cX6_doMove 89 .return_ 1 90 := ⟨by decide +kernel, rfl⟩
theorem dX6_areSteps_0 : zD cX6_areSteps 0 (.iload_n 0) 1 1 := ⟨by decide +kernel, rfl⟩
theorem dX6_areSteps_1 : zD cX6_areSteps 1 .i2l 1 2 := ⟨by decide +kernel, rfl⟩
theorem dX6_areSteps_2 : zD cX6_areSteps 2 (.ldc2_w 157) 3 5 := ⟨by decide +kernel, rfl⟩
theorem dX6_areSteps_5 : zD cX6_areSteps 5 (.ldc2_w 119) 3 8 := ⟨by decide +kernel, rfl⟩
theorem dX6_areSteps_8 : zD cX6_areSteps 8 (.invokestatic 41) 3 11 := ⟨by decide +kernel, rfl⟩
theorem dX6_areSteps_11 : zD cX6_areSteps 11 (.ifCond .eq 21) 3 14 := ⟨by decide +kernel, rfl⟩
theorem dX6_areSteps_14 : zD cX6_areSteps 14 (.iload_n 1) 1 15 := ⟨by decide +kernel, rfl⟩
theorem dX6_areSteps_15 : zD cX6_areSteps 15 .i2l 1 16 := ⟨by decide +kernel, rfl⟩
theorem dX6_areSteps_16 : zD cX6_areSteps 16 (.ldc2_w 157) 3 19 := ⟨by decide +kernel, rfl⟩
theorem dX6_areSteps_19 : zD cX6_areSteps 19 (.ldc2_w 119) 3 22 := ⟨by decide +kernel, rfl⟩
theorem dX6_areSteps_22 : zD cX6_areSteps 22 (.invokestatic 41) 3 25 := ⟨by decide +kernel, rfl⟩
theorem dX6_areSteps_25 : zD cX6_areSteps 25 (.ifCond .eq 7) 3 28 := ⟨by decide +kernel, rfl⟩
theorem dX6_areSteps_28 : zD cX6_areSteps 28 (.iconst 1) 1 29 := ⟨by decide +kernel, rfl⟩
theorem dX6_areSteps_29 : zD cX6_areSteps 29 (.goto 4) 3 32 := ⟨by decide +kernel, rfl⟩
theorem dX6_areSteps_32 : zD cX6_areSteps 32 (.iconst 0) 1 33 := ⟨by decide +kernel, rfl⟩
theorem dX6_areSteps_33 : zD cX6_areSteps 33 .ireturn 1 34 := ⟨by decide +kernel, rfl⟩
theorem dX6_shapeArea_0 : zD cX6_shapeArea 0 (.aload_n 0) 1 1 := ⟨by decide +kernel, rfl⟩
theorem dX6_shapeArea_1 : zD cX6_shapeArea 1 (.iload_n 1) 1 2 := ⟨by decide +kernel, rfl⟩
theorem dX6_shapeArea_2 : zD cX6_shapeArea 2 (.iconst 2) 1 3 := ⟨by decide +kernel, rfl⟩
theorem dX6_shapeArea_3 : zD cX6_shapeArea 3 (.invokevirtual 45) 3 6 := ⟨by decide +kernel, rfl⟩
theorem dX6_shapeArea_6 : zD cX6_shapeArea 6 (.aload_n 0) 1 7 := ⟨by decide +kernel, rfl⟩
theorem dX6_shapeArea_7 : zD cX6_shapeArea 7 (.iload_n 1) 1 8 := ⟨by decide +kernel, rfl⟩
theorem dX6_shapeArea_8 : zD cX6_shapeArea 8 (.iconst 0) 1 9 := ⟨by decide +kernel, rfl⟩
theorem dX6_shapeArea_9 : zD cX6_shapeArea 9 (.invokevirtual 45) 3 12 := ⟨by decide +kernel, rfl⟩
theorem dX6_shapeArea_12 : zD cX6_shapeArea 12 .isub 1 13 := ⟨by decide +kernel, rfl⟩
theorem dX6_shapeArea_13 : zD cX6_shapeArea 13 (.iconst 1) 1 14 := ⟨by decide +kernel, rfl⟩
theorem dX6_shapeArea_14 : zD cX6_shapeArea 14 .iadd 1 15 := ⟨by decide +kernel, rfl⟩
theorem dX6_shapeArea_15 : zD cX6_shapeArea 15 (.aload_n 0) 1 16 := ⟨by decide +kernel, rfl⟩
theorem dX6_shapeArea_16 : zD cX6_shapeArea 16 (.iload_n 1) 1 17 := ⟨by decide +kernel, rfl⟩
theorem dX6_shapeArea_17 : zD cX6_shapeArea 17 (.iconst 3) 1 18 := ⟨by decide +kernel, rfl⟩
theorem dX6_shapeArea_18 : zD cX6_shapeArea 18 (.invokevirtual 45) 3 21 := ⟨by decide +kernel, rfl⟩
theorem dX6_shapeArea_21 : zD cX6_shapeArea 21 (.aload_n 0) 1 22 := ⟨by decide +kernel, rfl⟩
theorem dX6_shapeArea_22 : zD cX6_shapeArea 22 (.iload_n 1) 1 23 := ⟨by decide +kernel, rfl⟩
theorem dX6_shapeArea_23 : zD cX6_shapeArea 23 (.iconst 1) 1 24 := ⟨by decide +kernel, rfl⟩
theorem dX6_shapeArea_24 : zD cX6_shapeArea 24 (.invokevirtual 45) 3 27 := ⟨by decide +kernel, rfl⟩
theorem dX6_shapeArea_27 : zD cX6_shapeArea 27 .isub 1 28 := ⟨by decide +kernel, rfl⟩
theorem dX6_shapeArea_28 : zD cX6_shapeArea 28 (.iconst 1) 1 29 := ⟨by decide +kernel, rfl⟩
theorem dX6_shapeArea_29 : zD cX6_shapeArea 29 .iadd 1 30 := ⟨by decide +kernel, rfl⟩
theorem dX6_shapeArea_30 : zD cX6_shapeArea 30 .imul 1 31 := ⟨by decide +kernel, rfl⟩
theorem dX6_shapeArea_31 : zD cX6_shapeArea 31 .ireturn 1 32 := ⟨by decide +kernel, rfl⟩
theorem dX6_move_0 : zD cX6_move 0 (.aload_n 0) 1 1 := ⟨by decide +kernel, rfl⟩
theorem dX6_move_1 : zD cX6_move 1 (.iload_n 1) 1 2 := ⟨by decide +kernel, rfl⟩
theorem dX6_move_2 : zD cX6_move 2 (.invokevirtual 153) 3 5 := ⟨by decide +kernel, rfl⟩
theorem dX6_move_5 : zD cX6_move 5 (.ifCond .ne 6) 3 8 := ⟨by decide +kernel, rfl⟩
theorem dX6_move_8 : zD cX6_move 8 (.ldc 156) 2 10 := ⟨by decide +kernel, rfl⟩
theorem dX6_move_10 : zD cX6_move 10 .ireturn 1 11 := ⟨by decide +kernel, rfl⟩
theorem dX6_move_11 : zD cX6_move 11 (.iload_n 2) 1 12 := ⟨by decide +kernel, rfl⟩
theorem dX6_move_12 : zD cX6_move 12 (.iload_n 3) 1 13 := ⟨by decide +kernel, rfl⟩
theorem dX6_move_13 : zD cX6_move 13 (.invokestatic 159) 3 16 := ⟨by decide +kernel, rfl⟩
theorem dX6_move_16 : zD cX6_move 16 (.ifCond .ne 6) 3 19 := ⟨by decide +kernel, rfl⟩
theorem dX6_move_19 : zD cX6_move 19 (.ldc 132) 2 21 := ⟨by decide +kernel, rfl⟩
theorem dX6_move_21 : zD cX6_move 21 .ireturn 1 22 := ⟨by decide +kernel, rfl⟩
theorem dX6_move_22 : zD cX6_move 22 (.aload_n 0) 1 23 := ⟨by decide +kernel, rfl⟩
theorem dX6_move_23 : zD cX6_move 23 (.iload_n 1) 1 24 := ⟨by decide +kernel, rfl⟩
theorem dX6_move_24 : zD cX6_move 24 (.iload_n 2) 1 25 := ⟨by decide +kernel, rfl⟩
theorem dX6_move_25 : zD cX6_move 25 (.iload_n 3) 1 26 := ⟨by decide +kernel, rfl⟩
theorem dX6_move_26 : zD cX6_move 26 (.invokevirtual 162) 3 29 := ⟨by decide +kernel, rfl⟩
theorem dX6_move_29 : zD cX6_move 29 (.ifCond .ne 6) 3 32 := ⟨by decide +kernel, rfl⟩
theorem dX6_move_32 : zD cX6_move 32 (.ldc 137) 2 34 := ⟨by decide +kernel, rfl⟩
theorem dX6_move_34 : zD cX6_move 34 .ireturn 1 35 := ⟨by decide +kernel, rfl⟩
theorem dX6_move_35 : zD cX6_move 35 (.aload_n 0) 1 36 := ⟨by decide +kernel, rfl⟩
theorem dX6_move_36 : zD cX6_move 36 (.invokevirtual 143) 3 39 := ⟨by decide +kernel, rfl⟩
theorem dX6_move_39 : zD cX6_move 39 (.aload_n 0) 1 40 := ⟨by decide +kernel, rfl⟩
theorem dX6_move_40 : zD cX6_move 40 (.iload_n 1) 1 41 := ⟨by decide +kernel, rfl⟩
theorem dX6_move_41 : zD cX6_move 41 (.iload_n 2) 1 42 := ⟨by decide +kernel, rfl⟩
theorem dX6_move_42 : zD cX6_move 42 (.iload_n 3) 1 43 := ⟨by decide +kernel, rfl⟩
theorem dX6_move_43 : zD cX6_move 43 (.invokevirtual 166) 3 46 := ⟨by decide +kernel, rfl⟩
theorem dX6_move_46 : zD cX6_move 46 (.aload_n 0) 1 47 := ⟨by decide +kernel, rfl⟩
theorem dX6_move_47 : zD cX6_move 47 (.iload_n 1) 1 48 := ⟨by decide +kernel, rfl⟩
theorem dX6_move_48 : zD cX6_move 48 (.invokevirtual 169) 3 51 := ⟨by decide +kernel, rfl⟩
theorem dX6_move_51 : zD cX6_move 51 .ireturn 1 52 := ⟨by decide +kernel, rfl⟩
theorem dX6_mayCut_0 : zD cX6_mayCut 0 (.iload_n 2) 1 1 := ⟨by decide +kernel, rfl⟩
theorem dX6_mayCut_1 : zD cX6_mayCut 1 (.aload_n 0) 1 2 := ⟨by decide +kernel, rfl⟩
theorem dX6_mayCut_2 : zD cX6_mayCut 2 (.iload_n 1) 1 3 := ⟨by decide +kernel, rfl⟩
theorem dX6_mayCut_3 : zD cX6_mayCut 3 (.iconst 0) 1 4 := ⟨by decide +kernel, rfl⟩
theorem dX6_mayCut_4 : zD cX6_mayCut 4 (.invokevirtual 45) 3 7 := ⟨by decide +kernel, rfl⟩
theorem dX6_mayCut_7 : zD cX6_mayCut 7 (.if_icmp .lt 50) 3 10 := ⟨by decide +kernel, rfl⟩
theorem dX6_mayCut_10 : zD cX6_mayCut 10 (.iload_n 2) 1 11 := ⟨by decide +kernel, rfl⟩
theorem dX6_mayCut_11 : zD cX6_mayCut 11 (.aload_n 0) 1 12 := ⟨by decide +kernel, rfl⟩
theorem dX6_mayCut_12 : zD cX6_mayCut 12 (.iload_n 1) 1 13 := ⟨by decide +kernel, rfl⟩
theorem dX6_mayCut_13 : zD cX6_mayCut 13 (.iconst 2) 1 14 := ⟨by decide +kernel, rfl⟩
theorem dX6_mayCut_14 : zD cX6_mayCut 14 (.invokevirtual 45) 3 17 := ⟨by decide +kernel, rfl⟩
theorem dX6_mayCut_17 : zD cX6_mayCut 17 (.if_icmp .ge 40) 3 20 := ⟨by decide +kernel, rfl⟩
theorem dX6_mayCut_20 : zD cX6_mayCut 20 (.aload_n 0) 1 21 := ⟨by decide +kernel, rfl⟩
theorem dX6_mayCut_21 : zD cX6_mayCut 21 (.iload_n 1) 1 22 := ⟨by decide +kernel, rfl⟩
theorem dX6_mayCut_22 : zD cX6_mayCut 22 (.iconst 4) 1 23 := ⟨by decide +kernel, rfl⟩
theorem dX6_mayCut_23 : zD cX6_mayCut 23 (.invokevirtual 45) 3 26 := ⟨by decide +kernel, rfl⟩
theorem dX6_mayCut_26 : zD cX6_mayCut 26 (.iload_n 2) 1 27 := ⟨by decide +kernel, rfl⟩
theorem dX6_mayCut_27 : zD cX6_mayCut 27 (.iconst 1) 1 28 := ⟨by decide +kernel, rfl⟩
theorem dX6_mayCut_28 : zD cX6_mayCut 28 .iadd 1 29 := ⟨by decide +kernel, rfl⟩
theorem dX6_mayCut_29 : zD cX6_mayCut 29 (.if_icmp .eq 28) 3 32 := ⟨by decide +kernel, rfl⟩
theorem dX6_mayCut_32 : zD cX6_mayCut 32 (.aload_n 0) 1 33 := ⟨by decide +kernel, rfl⟩
theorem dX6_mayCut_33 : zD cX6_mayCut 33 (.iload_n 1) 1 34 := ⟨by decide +kernel, rfl⟩
theorem dX6_mayCut_34 : zD cX6_mayCut 34 (.iconst 5) 1 35 := ⟨by decide +kernel, rfl⟩
theorem dX6_mayCut_35 : zD cX6_mayCut 35 (.invokevirtual 45) 3 38 := ⟨by decide +kernel, rfl⟩
theorem dX6_mayCut_38 : zD cX6_mayCut 38 (.iload_n 2) 1 39 := ⟨by decide +kernel, rfl⟩
theorem dX6_mayCut_39 : zD cX6_mayCut 39 (.iconst 1) 1 40 := ⟨by decide +kernel, rfl⟩
theorem dX6_mayCut_40 : zD cX6_mayCut 40 .iadd 1 41 := ⟨by decide +kernel, rfl⟩
theorem dX6_mayCut_41 : zD cX6_mayCut 41 (.if_icmp .eq 16) 3 44 := ⟨by decide +kernel, rfl⟩
theorem dX6_mayCut_44 : zD cX6_mayCut 44 (.aload_n 0) 1 45 := ⟨by decide +kernel, rfl⟩
theorem dX6_mayCut_45 : zD cX6_mayCut 45 (.iload_n 1) 1 46 := ⟨by decide +kernel, rfl⟩
theorem dX6_mayCut_46 : zD cX6_mayCut 46 (.invokevirtual 64) 3 49 := ⟨by decide +kernel, rfl⟩
theorem dX6_mayCut_49 : zD cX6_mayCut 49 (.iconst 2) 1 50 := ⟨by decide +kernel, rfl⟩
theorem dX6_mayCut_50 : zD cX6_mayCut 50 (.if_icmp .ge 7) 3 53 := ⟨by decide +kernel, rfl⟩
theorem dX6_mayCut_53 : zD cX6_mayCut 53 (.iconst 1) 1 54 := ⟨by decide +kernel, rfl⟩
theorem dX6_mayCut_54 : zD cX6_mayCut 54 (.goto 4) 3 57 := ⟨by decide +kernel, rfl⟩
theorem dX6_mayCut_57 : zD cX6_mayCut 57 (.iconst 0) 1 58 := ⟨by decide +kernel, rfl⟩
theorem dX6_mayCut_58 : zD cX6_mayCut 58 .ireturn 1 59 := ⟨by decide +kernel, rfl⟩
theorem dX6_doCut_0 : zD cX6_doCut 0 (.iconst 1) 1 1 := ⟨by decide +kernel, rfl⟩
theorem dX6_doCut_1 : zD cX6_doCut 1 (.bipush 6) 2 3 := ⟨by decide +kernel, rfl⟩
theorem dX6_doCut_3 : zD cX6_doCut 3 (.iload_n 1) 1 4 := ⟨by decide +kernel, rfl⟩
theorem dX6_doCut_4 : zD cX6_doCut 4 .imul 1 5 := ⟨by decide +kernel, rfl⟩
theorem dX6_doCut_5 : zD cX6_doCut 5 .iadd 1 6 := ⟨by decide +kernel, rfl⟩
theorem dX6_doCut_6 : zD cX6_doCut 6 (.iconst 4) 1 7 := ⟨by decide +kernel, rfl⟩
theorem dX6_doCut_7 : zD cX6_doCut 7 .iadd 1 8 := ⟨by decide +kernel, rfl⟩
theorem dX6_doCut_8 : zD cX6_doCut 8 (.istore_n 3) 1 9 := ⟨by decide +kernel, rfl⟩
theorem dX6_doCut_9 : zD cX6_doCut 9 (.aload_n 0) 1 10 := ⟨by decide +kernel, rfl⟩
theorem dX6_doCut_10 : zD cX6_doCut 10 (.getfield 7) 3 13 := ⟨by decide +kernel, rfl⟩
theorem dX6_doCut_13 : zD cX6_doCut 13 (.iload_n 3) 1 14 := ⟨by decide +kernel, rfl⟩
theorem dX6_doCut_14 : zD cX6_doCut 14 .iaload 1 15 := ⟨by decide +kernel, rfl⟩
theorem dX6_doCut_15 : zD cX6_doCut 15 (.ifCond .ne 15) 3 18 := ⟨by decide +kernel, rfl⟩
theorem dX6_doCut_18 : zD cX6_doCut 18 (.aload_n 0) 1 19 := ⟨by decide +kernel, rfl⟩
theorem dX6_doCut_19 : zD cX6_doCut 19 (.getfield 7) 3 22 := ⟨by decide +kernel, rfl⟩
theorem dX6_doCut_22 : zD cX6_doCut 22 (.iload_n 3) 1 23 := ⟨by decide +kernel, rfl⟩
theorem dX6_doCut_23 : zD cX6_doCut 23 (.iload_n 2) 1 24 := ⟨by decide +kernel, rfl⟩
theorem dX6_doCut_24 : zD cX6_doCut 24 (.iconst 1) 1 25 := ⟨by decide +kernel, rfl⟩
theorem dX6_doCut_25 : zD cX6_doCut 25 .iadd 1 26 := ⟨by decide +kernel, rfl⟩
theorem dX6_doCut_26 : zD cX6_doCut 26 .iastore 1 27 := ⟨by decide +kernel, rfl⟩
theorem dX6_doCut_27 : zD cX6_doCut 27 (.goto 65) 3 30 := ⟨by decide +kernel, rfl⟩
theorem dX6_doCut_30 : zD cX6_doCut 30 (.aload_n 0) 1 31 := ⟨by decide +kernel, rfl⟩
theorem dX6_doCut_31 : zD cX6_doCut 31 (.getfield 7) 3 34 := ⟨by decide +kernel, rfl⟩
theorem dX6_doCut_34 : zD cX6_doCut 34 (.iload_n 3) 1 35 := ⟨by decide +kernel, rfl⟩
theorem dX6_doCut_35 : zD cX6_doCut 35 (.iconst 1) 1 36 := ⟨by decide +kernel, rfl⟩
theorem dX6_doCut_36 : zD cX6_doCut 36 .iadd 1 37 := ⟨by decide +kernel, rfl⟩
theorem dX6_doCut_37 : zD cX6_doCut 37 (.iload_n 2) 1 38 := ⟨by decide +kernel, rfl⟩
theorem dX6_doCut_38 : zD cX6_doCut 38 (.iconst 1) 1 39 := ⟨by decide +kernel, rfl⟩
theorem dX6_doCut_39 : zD cX6_doCut 39 .iadd 1 40 := ⟨by decide +kernel, rfl⟩
theorem dX6_doCut_40 : zD cX6_doCut 40 (.aload_n 0) 1 41 := ⟨by decide +kernel, rfl⟩
theorem dX6_doCut_41 : zD cX6_doCut 41 (.getfield 7) 3 44 := ⟨by decide +kernel, rfl⟩
theorem dX6_doCut_44 : zD cX6_doCut 44 (.iload_n 3) 1 45 := ⟨by decide +kernel, rfl⟩
theorem dX6_doCut_45 : zD cX6_doCut 45 .iaload 1 46 := ⟨by decide +kernel, rfl⟩
theorem dX6_doCut_46 : zD cX6_doCut 46 (.if_icmp .ge 12) 3 49 := ⟨by decide +kernel, rfl⟩
theorem dX6_doCut_49 : zD cX6_doCut 49 (.aload_n 0) 1 50 := ⟨by decide +kernel, rfl⟩
theorem dX6_doCut_50 : zD cX6_doCut 50 (.getfield 7) 3 53 := ⟨by decide +kernel, rfl⟩
theorem dX6_doCut_53 : zD cX6_doCut 53 (.iload_n 3) 1 54 := ⟨by decide +kernel, rfl⟩
theorem dX6_doCut_54 : zD cX6_doCut 54 .iaload 1 55 := ⟨by decide +kernel, rfl⟩
theorem dX6_doCut_55 : zD cX6_doCut 55 (.goto 6) 3 58 := ⟨by decide +kernel, rfl⟩
theorem dX6_doCut_58 : zD cX6_doCut 58 (.iload_n 2) 1 59 := ⟨by decide +kernel, rfl⟩
theorem dX6_doCut_59 : zD cX6_doCut 59 (.iconst 1) 1 60 := ⟨by decide +kernel, rfl⟩
theorem dX6_doCut_60 : zD cX6_doCut 60 .iadd 1 61 := ⟨by decide +kernel, rfl⟩
theorem dX6_doCut_61 : zD cX6_doCut 61 .iastore 1 62 := ⟨by decide +kernel, rfl⟩
theorem dX6_doCut_62 : zD cX6_doCut 62 (.aload_n 0) 1 63 := ⟨by decide +kernel, rfl⟩
theorem dX6_doCut_63 : zD cX6_doCut 63 (.getfield 7) 3 66 := ⟨by decide +kernel, rfl⟩
theorem dX6_doCut_66 : zD cX6_doCut 66 (.iload_n 3) 1 67 := ⟨by decide +kernel, rfl⟩
theorem dX6_doCut_67 : zD cX6_doCut 67 (.iload_n 2) 1 68 := ⟨by decide +kernel, rfl⟩
theorem dX6_doCut_68 : zD cX6_doCut 68 (.iconst 1) 1 69 := ⟨by decide +kernel, rfl⟩
theorem dX6_doCut_69 : zD cX6_doCut 69 .iadd 1 70 := ⟨by decide +kernel, rfl⟩
theorem dX6_doCut_70 : zD cX6_doCut 70 (.aload_n 0) 1 71 := ⟨by decide +kernel, rfl⟩
theorem dX6_doCut_71 : zD cX6_doCut 71 (.getfield 7) 3 74 := ⟨by decide +kernel, rfl⟩
theorem dX6_doCut_74 : zD cX6_doCut 74 (.iload_n 3) 1 75 := ⟨by decide +kernel, rfl⟩
theorem dX6_doCut_75 : zD cX6_doCut 75 .iaload 1 76 := ⟨by decide +kernel, rfl⟩
theorem dX6_doCut_76 : zD cX6_doCut 76 (.if_icmp .ge 9) 3 79 := ⟨by decide +kernel, rfl⟩
theorem dX6_doCut_79 : zD cX6_doCut 79 (.iload_n 2) 1 80 := ⟨by decide +kernel, rfl⟩
theorem dX6_doCut_80 : zD cX6_doCut 80 (.iconst 1) 1 81 := ⟨by decide +kernel, rfl⟩
theorem dX6_doCut_81 : zD cX6_doCut 81 .iadd 1 82 := ⟨by decide +kernel, rfl⟩
theorem dX6_doCut_82 : zD cX6_doCut 82 (.goto 9) 3 85 := ⟨by decide +kernel, rfl⟩
theorem dX6_doCut_85 : zD cX6_doCut 85 (.aload_n 0) 1 86 := ⟨by decide +kernel, rfl⟩
theorem dX6_doCut_86 : zD cX6_doCut 86 (.getfield 7) 3 89 := ⟨by decide +kernel, rfl⟩
theorem dX6_doCut_89 : zD cX6_doCut 89 (.iload_n 3) 1 90 := ⟨by decide +kernel, rfl⟩
theorem dX6_doCut_90 : zD cX6_doCut 90 .iaload 1 91 := ⟨by decide +kernel, rfl⟩
theorem dX6_doCut_91 : zD cX6_doCut 91 .iastore 1 92 := ⟨by decide +kernel, rfl⟩
theorem dX6_doCut_92 : zD cX6_doCut 92 (.aload_n 0) 1 93 := ⟨by decide +kernel, rfl⟩
theorem dX6_doCut_93 : zD cX6_doCut 93 (.invokevirtual 146) 3 96 := ⟨by decide +kernel, rfl⟩
theorem dX6_doCut_96 : zD cX6_doCut 96 .return_ 1 97 := ⟨by decide +kernel, rfl⟩
theorem dX6_cut_0 : zD cX6_cut 0 (.aload_n 0) 1 1 := ⟨by decide +kernel, rfl⟩
theorem dX6_cut_1 : zD cX6_cut 1 (.iload_n 1) 1 2 := ⟨by decide +kernel, rfl⟩
theorem dX6_cut_2 : zD cX6_cut 2 (.invokevirtual 153) 3 5 := ⟨by decide +kernel, rfl⟩
theorem dX6_cut_5 : zD cX6_cut 5 (.ifCond .ne 6) 3 8 := ⟨by decide +kernel, rfl⟩
theorem dX6_cut_8 : zD cX6_cut 8 (.ldc 156) 2 10 := ⟨by decide +kernel, rfl⟩
theorem dX6_cut_10 : zD cX6_cut 10 .ireturn 1 11 := ⟨by decide +kernel, rfl⟩
theorem dX6_cut_11 : zD cX6_cut 11 (.iload_n 2) 1 12 := ⟨by decide +kernel, rfl⟩
theorem dX6_cut_12 : zD cX6_cut 12 .i2l 1 13 := ⟨by decide +kernel, rfl⟩
theorem dX6_cut_13 : zD cX6_cut 13 (.lconst 0) 1 14 := ⟨by decide +kernel, rfl⟩
theorem dX6_cut_14 : zD cX6_cut 14 (.ldc2_w 172) 3 17 := ⟨by decide +kernel, rfl⟩
theorem dX6_cut_17 : zD cX6_cut 17 (.invokestatic 41) 3 20 := ⟨by decide +kernel, rfl⟩
theorem dX6_cut_20 : zD cX6_cut 20 (.ifCond .ne 6) 3 23 := ⟨by decide +kernel, rfl⟩
theorem dX6_cut_23 : zD cX6_cut 23 (.ldc 132) 2 25 := ⟨by decide +kernel, rfl⟩
theorem dX6_cut_25 : zD cX6_cut 25 .ireturn 1 26 := ⟨by decide +kernel, rfl⟩
theorem dX6_cut_26 : zD cX6_cut 26 (.aload_n 0) 1 27 := ⟨by decide +kernel, rfl⟩
theorem dX6_cut_27 : zD cX6_cut 27 (.iload_n 1) 1 28 := ⟨by decide +kernel, rfl⟩
theorem dX6_cut_28 : zD cX6_cut 28 (.iload_n 2) 1 29 := ⟨by decide +kernel, rfl⟩
theorem dX6_cut_29 : zD cX6_cut 29 (.invokevirtual 174) 3 32 := ⟨by decide +kernel, rfl⟩
theorem dX6_cut_32 : zD cX6_cut 32 (.ifCond .ne 6) 3 35 := ⟨by decide +kernel, rfl⟩
theorem dX6_cut_35 : zD cX6_cut 35 (.ldc 137) 2 37 := ⟨by decide +kernel, rfl⟩
theorem dX6_cut_37 : zD cX6_cut 37 .ireturn 1 38 := ⟨by decide +kernel, rfl⟩
theorem dX6_cut_38 : zD cX6_cut 38 (.aload_n 0) 1 39 := ⟨by decide +kernel, rfl⟩
theorem dX6_cut_39 : zD cX6_cut 39 (.invokevirtual 121) 3 42 := ⟨by decide +kernel, rfl⟩
theorem dX6_cut_42 : zD cX6_cut 42 (.bipush 14) 2 44 := ⟨by decide +kernel, rfl⟩
theorem dX6_cut_44 : zD cX6_cut 44 (.if_icmp .ne 6) 3 47 := ⟨by decide +kernel, rfl⟩
theorem dX6_cut_47 : zD cX6_cut 47 (.ldc 142) 2 49 := ⟨by decide +kernel, rfl⟩
theorem dX6_cut_49 : zD cX6_cut 49 .ireturn 1 50 := ⟨by decide +kernel, rfl⟩
theorem dX6_cut_50 : zD cX6_cut 50 (.aload_n 0) 1 51 := ⟨by decide +kernel, rfl⟩
theorem dX6_cut_51 : zD cX6_cut 51 (.invokevirtual 143) 3 54 := ⟨by decide +kernel, rfl⟩
theorem dX6_cut_54 : zD cX6_cut 54 (.aload_n 0) 1 55 := ⟨by decide +kernel, rfl⟩
theorem dX6_cut_55 : zD cX6_cut 55 (.iload_n 1) 1 56 := ⟨by decide +kernel, rfl⟩
theorem dX6_cut_56 : zD cX6_cut 56 (.iload_n 2) 1 57 := ⟨by decide +kernel, rfl⟩
theorem dX6_cut_57 : zD cX6_cut 57 (.invokevirtual 177) 3 60 := ⟨by decide +kernel, rfl⟩
theorem dX6_cut_60 : zD cX6_cut 60 (.aload_n 0) 1 61 := ⟨by decide +kernel, rfl⟩
theorem dX6_cut_61 : zD cX6_cut 61 (.invokevirtual 121) 3 64 := ⟨by decide +kernel, rfl⟩
theorem dX6_cut_64 : zD cX6_cut 64 .ireturn 1 65 := ⟨by decide +kernel, rfl⟩
theorem dX6_heal_0 : zD cX6_heal 0 (.aload_n 0) 1 1 := ⟨by decide +kernel, rfl⟩
theorem dX6_heal_1 : zD cX6_heal 1 (.iload_n 1) 1 2 := ⟨by decide +kernel, rfl⟩
theorem dX6_heal_2 : zD cX6_heal 2 (.invokevirtual 153) 3 5 := ⟨by decide +kernel, rfl⟩
theorem dX6_heal_5 : zD cX6_heal 5 (.ifCond .ne 6) 3 8 := ⟨by decide +kernel, rfl⟩
theorem dX6_heal_8 : zD cX6_heal 8 (.ldc 156) 2 10 := ⟨by decide +kernel, rfl⟩
theorem dX6_heal_10 : zD cX6_heal 10 .ireturn 1 11 := ⟨by decide +kernel, rfl⟩
theorem dX6_heal_11 : zD cX6_heal 11 (.iload_n 2) 1 12 := ⟨by decide +kernel, rfl⟩
theorem dX6_heal_12 : zD cX6_heal 12 .i2l 1 13 := ⟨by decide +kernel, rfl⟩
theorem dX6_heal_13 : zD cX6_heal 13 (.lconst 0) 1 14 := ⟨by decide +kernel, rfl⟩
theorem dX6_heal_14 : zD cX6_heal 14 (.ldc2_w 172) 3 17 := ⟨by decide +kernel, rfl⟩
theorem dX6_heal_17 : zD cX6_heal 17 (.invokestatic 41) 3 20 := ⟨by decide +kernel, rfl⟩
theorem dX6_heal_20 : zD cX6_heal 20 (.ifCond .ne 6) 3 23 := ⟨by decide +kernel, rfl⟩
theorem dX6_heal_23 : zD cX6_heal 23 (.ldc 132) 2 25 := ⟨by decide +kernel, rfl⟩
theorem dX6_heal_25 : zD cX6_heal 25 .ireturn 1 26 := ⟨by decide +kernel, rfl⟩
theorem dX6_heal_26 : zD cX6_heal 26 (.iconst 1) 1 27 := ⟨by decide +kernel, rfl⟩
theorem dX6_heal_27 : zD cX6_heal 27 (.bipush 6) 2 29 := ⟨by decide +kernel, rfl⟩
theorem dX6_heal_29 : zD cX6_heal 29 (.iload_n 1) 1 30 := ⟨by decide +kernel, rfl⟩
theorem dX6_heal_30 : zD cX6_heal 30 .imul 1 31 := ⟨by decide +kernel, rfl⟩
theorem dX6_heal_31 : zD cX6_heal 31 .iadd 1 32 := ⟨by decide +kernel, rfl⟩
end
section
theorem dX6_heal_32 : zD cX6_heal 32 (.iconst 4) 1 33 := ⟨by decide +kernel, rfl⟩
theorem dX6_heal_33 : zD cX6_heal 33 .iadd 1 34 := ⟨by decide +kernel, rfl⟩
theorem dX6_heal_34 : zD cX6_heal 34 (.istore_n 3) 1 35 := ⟨by decide +kernel, rfl⟩
theorem dX6_heal_35 : zD cX6_heal 35 (.aload_n 0) 1 36 := ⟨by decide +kernel, rfl⟩
theorem dX6_heal_36 : zD cX6_heal 36 (.getfield 7) 3 39 := ⟨by decide +kernel, rfl⟩
theorem dX6_heal_39 : zD cX6_heal 39 (.iload_n 3) 1 40 := ⟨by decide +kernel, rfl⟩
theorem dX6_heal_40 : zD cX6_heal 40 .iaload 1 41 := ⟨by decide +kernel, rfl⟩
theorem dX6_heal_41 : zD cX6_heal 41 (.iload_n 2) 1 42 := ⟨by decide +kernel, rfl⟩
theorem dX6_heal_42 : zD cX6_heal 42 (.iconst 1) 1 43 := ⟨by decide +kernel, rfl⟩
theorem dX6_heal_43 : zD cX6_heal 43 .iadd 1 44 := ⟨by decide +kernel, rfl⟩
theorem dX6_heal_44 : zD cX6_heal 44 (.if_icmp .eq 20) 3 47 := ⟨by decide +kernel, rfl⟩
theorem dX6_heal_47 : zD cX6_heal 47 (.aload_n 0) 1 48 := ⟨by decide +kernel, rfl⟩
theorem dX6_heal_48 : zD cX6_heal 48 (.getfield 7) 3 51 := ⟨by decide +kernel, rfl⟩
theorem dX6_heal_51 : zD cX6_heal 51 (.iload_n 3) 1 52 := ⟨by decide +kernel, rfl⟩
theorem dX6_heal_52 : zD cX6_heal 52 (.iconst 1) 1 53 := ⟨by decide +kernel, rfl⟩
theorem dX6_heal_53 : zD cX6_heal 53 .iadd 1 54 := ⟨by decide +kernel, rfl⟩
theorem dX6_heal_54 : zD cX6_heal 54 .iaload 1 55 := ⟨by decide +kernel, rfl⟩
theorem dX6_heal_55 : zD cX6_heal 55 (.iload_n 2) 1 56 := ⟨by decide +kernel, rfl⟩
theorem dX6_heal_56 : zD cX6_heal 56 (.iconst 1) 1 57 := ⟨by decide +kernel, rfl⟩
theorem dX6_heal_57 : zD cX6_heal 57 .iadd 1 58 := ⟨by decide +kernel, rfl⟩
theorem dX6_heal_58 : zD cX6_heal 58 (.if_icmp .eq 6) 3 61 := ⟨by decide +kernel, rfl⟩
theorem dX6_heal_61 : zD cX6_heal 61 (.ldc 137) 2 63 := ⟨by decide +kernel, rfl⟩
theorem dX6_heal_63 : zD cX6_heal 63 .ireturn 1 64 := ⟨by decide +kernel, rfl⟩
theorem dX6_heal_64 : zD cX6_heal 64 (.aload_n 0) 1 65 := ⟨by decide +kernel, rfl⟩
theorem dX6_heal_65 : zD cX6_heal 65 (.invokevirtual 143) 3 68 := ⟨by decide +kernel, rfl⟩
theorem dX6_heal_68 : zD cX6_heal 68 (.aload_n 0) 1 69 := ⟨by decide +kernel, rfl⟩
theorem dX6_heal_69 : zD cX6_heal 69 (.invokevirtual 146) 3 72 := ⟨by decide +kernel, rfl⟩
theorem dX6_heal_72 : zD cX6_heal 72 (.aload_n 0) 1 73 := ⟨by decide +kernel, rfl⟩
theorem dX6_heal_73 : zD cX6_heal 73 (.getfield 7) 3 76 := ⟨by decide +kernel, rfl⟩
theorem dX6_heal_76 : zD cX6_heal 76 (.iload_n 3) 1 77 := ⟨by decide +kernel, rfl⟩
theorem dX6_heal_77 : zD cX6_heal 77 (.aload_n 0) 1 78 := ⟨by decide +kernel, rfl⟩
theorem dX6_heal_78 : zD cX6_heal 78 (.getfield 7) 3 81 := ⟨by decide +kernel, rfl⟩
theorem dX6_heal_81 : zD cX6_heal 81 (.iload_n 3) 1 82 := ⟨by decide +kernel, rfl⟩
theorem dX6_heal_82 : zD cX6_heal 82 .iaload 1 83 := ⟨by decide +kernel, rfl⟩
theorem dX6_heal_83 : zD cX6_heal 83 (.iload_n 2) 1 84 := ⟨by decide +kernel, rfl⟩
theorem dX6_heal_84 : zD cX6_heal 84 (.iconst 1) 1 85 := ⟨by decide +kernel, rfl⟩
theorem dX6_heal_85 : zD cX6_heal 85 .iadd 1 86 := ⟨by decide +kernel, rfl⟩
theorem dX6_heal_86 : zD cX6_heal 86 (.if_icmp .ne 14) 3 89 := ⟨by decide +kernel, rfl⟩
theorem dX6_heal_89 : zD cX6_heal 89 (.aload_n 0) 1 90 := ⟨by decide +kernel, rfl⟩
theorem dX6_heal_90 : zD cX6_heal 90 (.getfield 7) 3 93 := ⟨by decide +kernel, rfl⟩
theorem dX6_heal_93 : zD cX6_heal 93 (.iload_n 3) 1 94 := ⟨by decide +kernel, rfl⟩
theorem dX6_heal_94 : zD cX6_heal 94 (.iconst 1) 1 95 := ⟨by decide +kernel, rfl⟩
theorem dX6_heal_95 : zD cX6_heal 95 .iadd 1 96 := ⟨by decide +kernel, rfl⟩
theorem dX6_heal_96 : zD cX6_heal 96 .iaload 1 97 := ⟨by decide +kernel, rfl⟩
theorem dX6_heal_97 : zD cX6_heal 97 (.goto 9) 3 100 := ⟨by decide +kernel, rfl⟩
theorem dX6_heal_100 : zD cX6_heal 100 (.aload_n 0) 1 101 := ⟨by decide +kernel, rfl⟩
theorem dX6_heal_101 : zD cX6_heal 101 (.getfield 7) 3 104 := ⟨by decide +kernel, rfl⟩
theorem dX6_heal_104 : zD cX6_heal 104 (.iload_n 3) 1 105 := ⟨by decide +kernel, rfl⟩
theorem dX6_heal_105 : zD cX6_heal 105 .iaload 1 106 := ⟨by decide +kernel, rfl⟩
theorem dX6_heal_106 : zD cX6_heal 106 .iastore 1 107 := ⟨by decide +kernel, rfl⟩
theorem dX6_heal_107 : zD cX6_heal 107 (.aload_n 0) 1 108 := ⟨by decide +kernel, rfl⟩
theorem dX6_heal_108 : zD cX6_heal 108 (.getfield 7) 3 111 := ⟨by decide +kernel, rfl⟩
theorem dX6_heal_111 : zD cX6_heal 111 (.iload_n 3) 1 112 := ⟨by decide +kernel, rfl⟩
theorem dX6_heal_112 : zD cX6_heal 112 (.iconst 1) 1 113 := ⟨by decide +kernel, rfl⟩
theorem dX6_heal_113 : zD cX6_heal 113 .iadd 1 114 := ⟨by decide +kernel, rfl⟩
theorem dX6_heal_114 : zD cX6_heal 114 (.iconst 0) 1 115 := ⟨by decide +kernel, rfl⟩
theorem dX6_heal_115 : zD cX6_heal 115 .iastore 1 116 := ⟨by decide +kernel, rfl⟩
theorem dX6_heal_116 : zD cX6_heal 116 (.aload_n 0) 1 117 := ⟨by decide +kernel, rfl⟩
theorem dX6_heal_117 : zD cX6_heal 117 (.invokevirtual 121) 3 120 := ⟨by decide +kernel, rfl⟩
theorem dX6_heal_120 : zD cX6_heal 120 .ireturn 1 121 := ⟨by decide +kernel, rfl⟩
theorem dX6_bound_0 : zD cX6_bound 0 (.iload_n 1) 1 1 := ⟨by decide +kernel, rfl⟩
theorem dX6_bound_1 : zD cX6_bound 1 .i2l 1 2 := ⟨by decide +kernel, rfl⟩
theorem dX6_bound_2 : zD cX6_bound 2 (.lconst 0) 1 3 := ⟨by decide +kernel, rfl⟩
theorem dX6_bound_3 : zD cX6_bound 3 (.ldc2_w 181) 3 6 := ⟨by decide +kernel, rfl⟩
theorem dX6_bound_6 : zD cX6_bound 6 (.invokestatic 41) 3 9 := ⟨by decide +kernel, rfl⟩
theorem dX6_bound_9 : zD cX6_bound 9 (.ifCond .eq 44) 3 12 := ⟨by decide +kernel, rfl⟩
theorem dX6_bound_12 : zD cX6_bound 12 (.iload_n 2) 1 13 := ⟨by decide +kernel, rfl⟩
theorem dX6_bound_13 : zD cX6_bound 13 .i2l 1 14 := ⟨by decide +kernel, rfl⟩
theorem dX6_bound_14 : zD cX6_bound 14 (.iload_n 1) 1 15 := ⟨by decide +kernel, rfl⟩
theorem dX6_bound_15 : zD cX6_bound 15 (.ifCond .ne 7) 3 18 := ⟨by decide +kernel, rfl⟩
theorem dX6_bound_18 : zD cX6_bound 18 (.lconst 1) 1 19 := ⟨by decide +kernel, rfl⟩
theorem dX6_bound_19 : zD cX6_bound 19 (.goto 4) 3 22 := ⟨by decide +kernel, rfl⟩
theorem dX6_bound_22 : zD cX6_bound 22 (.lconst 0) 1 23 := ⟨by decide +kernel, rfl⟩
theorem dX6_bound_23 : zD cX6_bound 23 (.iload_n 1) 1 24 := ⟨by decide +kernel, rfl⟩
theorem dX6_bound_24 : zD cX6_bound 24 (.ifCond .ne 9) 3 27 := ⟨by decide +kernel, rfl⟩
theorem dX6_bound_27 : zD cX6_bound 27 (.ldc2_w 183) 3 30 := ⟨by decide +kernel, rfl⟩
theorem dX6_bound_30 : zD cX6_bound 30 (.goto 17) 3 33 := ⟨by decide +kernel, rfl⟩
theorem dX6_bound_33 : zD cX6_bound 33 (.iload_n 1) 1 34 := ⟨by decide +kernel, rfl⟩
theorem dX6_bound_34 : zD cX6_bound 34 (.iconst 1) 1 35 := ⟨by decide +kernel, rfl⟩
theorem dX6_bound_35 : zD cX6_bound 35 (.if_icmp .ne 9) 3 38 := ⟨by decide +kernel, rfl⟩
theorem dX6_bound_38 : zD cX6_bound 38 (.ldc2_w 185) 3 41 := ⟨by decide +kernel, rfl⟩
theorem dX6_bound_41 : zD cX6_bound 41 (.goto 6) 3 44 := ⟨by decide +kernel, rfl⟩
theorem dX6_bound_44 : zD cX6_bound 44 (.ldc2_w 187) 3 47 := ⟨by decide +kernel, rfl⟩
theorem dX6_bound_47 : zD cX6_bound 47 (.invokestatic 41) 3 50 := ⟨by decide +kernel, rfl⟩
theorem dX6_bound_50 : zD cX6_bound 50 (.ifCond .ne 6) 3 53 := ⟨by decide +kernel, rfl⟩
theorem dX6_bound_53 : zD cX6_bound 53 (.ldc 132) 2 55 := ⟨by decide +kernel, rfl⟩
theorem dX6_bound_55 : zD cX6_bound 55 .ireturn 1 56 := ⟨by decide +kernel, rfl⟩
theorem dX6_bound_56 : zD cX6_bound 56 (.aload_n 0) 1 57 := ⟨by decide +kernel, rfl⟩
theorem dX6_bound_57 : zD cX6_bound 57 (.getfield 7) 3 60 := ⟨by decide +kernel, rfl⟩
theorem dX6_bound_60 : zD cX6_bound 60 (.bipush 61) 2 62 := ⟨by decide +kernel, rfl⟩
theorem dX6_bound_62 : zD cX6_bound 62 (.iload_n 1) 1 63 := ⟨by decide +kernel, rfl⟩
theorem dX6_bound_63 : zD cX6_bound 63 .iadd 1 64 := ⟨by decide +kernel, rfl⟩
theorem dX6_bound_64 : zD cX6_bound 64 .iaload 1 65 := ⟨by decide +kernel, rfl⟩
theorem dX6_bound_65 : zD cX6_bound 65 (.istore_n 3) 1 66 := ⟨by decide +kernel, rfl⟩
theorem dX6_bound_66 : zD cX6_bound 66 (.aload_n 0) 1 67 := ⟨by decide +kernel, rfl⟩
theorem dX6_bound_67 : zD cX6_bound 67 (.invokevirtual 143) 3 70 := ⟨by decide +kernel, rfl⟩
theorem dX6_bound_70 : zD cX6_bound 70 (.aload_n 0) 1 71 := ⟨by decide +kernel, rfl⟩
theorem dX6_bound_71 : zD cX6_bound 71 (.getfield 7) 3 74 := ⟨by decide +kernel, rfl⟩
theorem dX6_bound_74 : zD cX6_bound 74 (.bipush 61) 2 76 := ⟨by decide +kernel, rfl⟩
theorem dX6_bound_76 : zD cX6_bound 76 (.iload_n 1) 1 77 := ⟨by decide +kernel, rfl⟩
theorem dX6_bound_77 : zD cX6_bound 77 .iadd 1 78 := ⟨by decide +kernel, rfl⟩
theorem dX6_bound_78 : zD cX6_bound 78 (.iload_n 2) 1 79 := ⟨by decide +kernel, rfl⟩
theorem dX6_bound_79 : zD cX6_bound 79 .iastore 1 80 := ⟨by decide +kernel, rfl⟩
theorem dX6_bound_80 : zD cX6_bound 80 (.iload_n 3) 1 81 := ⟨by decide +kernel, rfl⟩
theorem dX6_bound_81 : zD cX6_bound 81 .ireturn 1 82 := ⟨by decide +kernel, rfl⟩
theorem dX6_fix_0 : zD cX6_fix 0 (.iload_n 1) 1 1 := ⟨by decide +kernel, rfl⟩
theorem dX6_fix_1 : zD cX6_fix 1 .i2l 1 2 := ⟨by decide +kernel, rfl⟩
theorem dX6_fix_2 : zD cX6_fix 2 (.lconst 0) 1 3 := ⟨by decide +kernel, rfl⟩
theorem dX6_fix_3 : zD cX6_fix 3 (.aload_n 0) 1 4 := ⟨by decide +kernel, rfl⟩
theorem dX6_fix_4 : zD cX6_fix 4 (.invokevirtual 121) 3 7 := ⟨by decide +kernel, rfl⟩
theorem dX6_fix_7 : zD cX6_fix 7 (.iconst 1) 1 8 := ⟨by decide +kernel, rfl⟩
theorem dX6_fix_8 : zD cX6_fix 8 .isub 1 9 := ⟨by decide +kernel, rfl⟩
theorem dX6_fix_9 : zD cX6_fix 9 .i2l 1 10 := ⟨by decide +kernel, rfl⟩
theorem dX6_fix_10 : zD cX6_fix 10 (.invokestatic 41) 3 13 := ⟨by decide +kernel, rfl⟩
theorem dX6_fix_13 : zD cX6_fix 13 (.ifCond .ne 6) 3 16 := ⟨by decide +kernel, rfl⟩
theorem dX6_fix_16 : zD cX6_fix 16 (.ldc 156) 2 18 := ⟨by decide +kernel, rfl⟩
theorem dX6_fix_18 : zD cX6_fix 18 .ireturn 1 19 := ⟨by decide +kernel, rfl⟩
theorem dX6_fix_19 : zD cX6_fix 19 (.iload_n 2) 1 20 := ⟨by decide +kernel, rfl⟩
theorem dX6_fix_20 : zD cX6_fix 20 .i2l 1 21 := ⟨by decide +kernel, rfl⟩
theorem dX6_fix_21 : zD cX6_fix 21 (.ldc2_w 189) 3 24 := ⟨by decide +kernel, rfl⟩
theorem dX6_fix_24 : zD cX6_fix 24 (.lconst 1) 1 25 := ⟨by decide +kernel, rfl⟩
theorem dX6_fix_25 : zD cX6_fix 25 (.invokestatic 41) 3 28 := ⟨by decide +kernel, rfl⟩
theorem dX6_fix_28 : zD cX6_fix 28 (.ifCond .ne 6) 3 31 := ⟨by decide +kernel, rfl⟩
theorem dX6_fix_31 : zD cX6_fix 31 (.ldc 132) 2 33 := ⟨by decide +kernel, rfl⟩
theorem dX6_fix_33 : zD cX6_fix 33 .ireturn 1 34 := ⟨by decide +kernel, rfl⟩
theorem dX6_fix_34 : zD cX6_fix 34 (.aload_n 0) 1 35 := ⟨by decide +kernel, rfl⟩
theorem dX6_fix_35 : zD cX6_fix 35 (.getfield 7) 3 38 := ⟨by decide +kernel, rfl⟩
theorem dX6_fix_38 : zD cX6_fix 38 (.bipush 64) 2 40 := ⟨by decide +kernel, rfl⟩
theorem dX6_fix_40 : zD cX6_fix 40 (.iload_n 1) 1 41 := ⟨by decide +kernel, rfl⟩
theorem dX6_fix_41 : zD cX6_fix 41 .iadd 1 42 := ⟨by decide +kernel, rfl⟩
theorem dX6_fix_42 : zD cX6_fix 42 .iaload 1 43 := ⟨by decide +kernel, rfl⟩
theorem dX6_fix_43 : zD cX6_fix 43 (.iload_n 2) 1 44 := ⟨by decide +kernel, rfl⟩
theorem dX6_fix_44 : zD cX6_fix 44 (.iconst 1) 1 45 := ⟨by decide +kernel, rfl⟩
theorem dX6_fix_45 : zD cX6_fix 45 .iadd 1 46 := ⟨by decide +kernel, rfl⟩
theorem dX6_fix_46 : zD cX6_fix 46 (.if_icmp .ne 6) 3 49 := ⟨by decide +kernel, rfl⟩
theorem dX6_fix_49 : zD cX6_fix 49 (.ldc 137) 2 51 := ⟨by decide +kernel, rfl⟩
theorem dX6_fix_51 : zD cX6_fix 51 .ireturn 1 52 := ⟨by decide +kernel, rfl⟩
theorem dX6_fix_52 : zD cX6_fix 52 (.aload_n 0) 1 53 := ⟨by decide +kernel, rfl⟩
theorem dX6_fix_53 : zD cX6_fix 53 (.invokevirtual 143) 3 56 := ⟨by decide +kernel, rfl⟩
theorem dX6_fix_56 : zD cX6_fix 56 (.aload_n 0) 1 57 := ⟨by decide +kernel, rfl⟩
theorem dX6_fix_57 : zD cX6_fix 57 (.getfield 7) 3 60 := ⟨by decide +kernel, rfl⟩
theorem dX6_fix_60 : zD cX6_fix 60 (.bipush 64) 2 62 := ⟨by decide +kernel, rfl⟩
theorem dX6_fix_62 : zD cX6_fix 62 (.iload_n 1) 1 63 := ⟨by decide +kernel, rfl⟩
theorem dX6_fix_63 : zD cX6_fix 63 .iadd 1 64 := ⟨by decide +kernel, rfl⟩
theorem dX6_fix_64 : zD cX6_fix 64 (.iload_n 2) 1 65 := ⟨by decide +kernel, rfl⟩
theorem dX6_fix_65 : zD cX6_fix 65 (.iconst 1) 1 66 := ⟨by decide +kernel, rfl⟩
theorem dX6_fix_66 : zD cX6_fix 66 .iadd 1 67 := ⟨by decide +kernel, rfl⟩
theorem dX6_fix_67 : zD cX6_fix 67 .iastore 1 68 := ⟨by decide +kernel, rfl⟩
theorem dX6_fix_68 : zD cX6_fix 68 (.aload_n 0) 1 69 := ⟨by decide +kernel, rfl⟩
theorem dX6_fix_69 : zD cX6_fix 69 (.invokevirtual 191) 3 72 := ⟨by decide +kernel, rfl⟩
theorem dX6_fix_72 : zD cX6_fix 72 .ireturn 1 73 := ⟨by decide +kernel, rfl⟩
theorem dX6_turn_0 : zD cX6_turn 0 (.aload_n 0) 1 1 := ⟨by decide +kernel, rfl⟩
theorem dX6_turn_1 : zD cX6_turn 1 (.invokevirtual 143) 3 4 := ⟨by decide +kernel, rfl⟩
theorem dX6_turn_4 : zD cX6_turn 4 (.aload_n 0) 1 5 := ⟨by decide +kernel, rfl⟩
theorem dX6_turn_5 : zD cX6_turn 5 (.invokevirtual 146) 3 8 := ⟨by decide +kernel, rfl⟩
theorem dX6_turn_8 : zD cX6_turn 8 (.iconst 0) 1 9 := ⟨by decide +kernel, rfl⟩
theorem dX6_turn_9 : zD cX6_turn 9 (.istore_n 1) 1 10 := ⟨by decide +kernel, rfl⟩
theorem dX6_turn_10 : zD cX6_turn 10 (.iload_n 1) 1 11 := ⟨by decide +kernel, rfl⟩
theorem dX6_turn_11 : zD cX6_turn 11 (.aload_n 0) 1 12 := ⟨by decide +kernel, rfl⟩
theorem dX6_turn_12 : zD cX6_turn 12 (.getfield 7) 3 15 := ⟨by decide +kernel, rfl⟩
theorem dX6_turn_15 : zD cX6_turn 15 (.iconst 0) 1 16 := ⟨by decide +kernel, rfl⟩
theorem dX6_turn_16 : zD cX6_turn 16 .iaload 1 17 := ⟨by decide +kernel, rfl⟩
theorem dX6_turn_17 : zD cX6_turn 17 (.if_icmp .ge 143) 3 20 := ⟨by decide +kernel, rfl⟩
theorem dX6_turn_20 : zD cX6_turn 20 (.iconst 1) 1 21 := ⟨by decide +kernel, rfl⟩
theorem dX6_turn_21 : zD cX6_turn 21 (.bipush 6) 2 23 := ⟨by decide +kernel, rfl⟩
theorem dX6_turn_23 : zD cX6_turn 23 (.iload_n 1) 1 24 := ⟨by decide +kernel, rfl⟩
theorem dX6_turn_24 : zD cX6_turn 24 .imul 1 25 := ⟨by decide +kernel, rfl⟩
theorem dX6_turn_25 : zD cX6_turn 25 .iadd 1 26 := ⟨by decide +kernel, rfl⟩
theorem dX6_turn_26 : zD cX6_turn 26 (.istore_n 2) 1 27 := ⟨by decide +kernel, rfl⟩
theorem dX6_turn_27 : zD cX6_turn 27 (.aload_n 0) 1 28 := ⟨by decide +kernel, rfl⟩
theorem dX6_turn_28 : zD cX6_turn 28 (.getfield 7) 3 31 := ⟨by decide +kernel, rfl⟩
theorem dX6_turn_31 : zD cX6_turn 31 (.iload_n 2) 1 32 := ⟨by decide +kernel, rfl⟩
theorem dX6_turn_32 : zD cX6_turn 32 (.iconst 4) 1 33 := ⟨by decide +kernel, rfl⟩
theorem dX6_turn_33 : zD cX6_turn 33 .iadd 1 34 := ⟨by decide +kernel, rfl⟩
theorem dX6_turn_34 : zD cX6_turn 34 .iaload 1 35 := ⟨by decide +kernel, rfl⟩
theorem dX6_turn_35 : zD cX6_turn 35 (.ifCond .le 17) 3 38 := ⟨by decide +kernel, rfl⟩
theorem dX6_turn_38 : zD cX6_turn 38 (.bipush 16) 2 40 := ⟨by decide +kernel, rfl⟩
theorem dX6_turn_40 : zD cX6_turn 40 (.aload_n 0) 1 41 := ⟨by decide +kernel, rfl⟩
theorem dX6_turn_41 : zD cX6_turn 41 (.getfield 7) 3 44 := ⟨by decide +kernel, rfl⟩
theorem dX6_turn_44 : zD cX6_turn 44 (.iload_n 2) 1 45 := ⟨by decide +kernel, rfl⟩
theorem dX6_turn_45 : zD cX6_turn 45 (.iconst 4) 1 46 := ⟨by decide +kernel, rfl⟩
theorem dX6_turn_46 : zD cX6_turn 46 .iadd 1 47 := ⟨by decide +kernel, rfl⟩
theorem dX6_turn_47 : zD cX6_turn 47 .iaload 1 48 := ⟨by decide +kernel, rfl⟩
theorem dX6_turn_48 : zD cX6_turn 48 .isub 1 49 := ⟨by decide +kernel, rfl⟩
theorem dX6_turn_49 : zD cX6_turn 49 (.goto 4) 3 52 := ⟨by decide +kernel, rfl⟩
theorem dX6_turn_52 : zD cX6_turn 52 (.iconst 0) 1 53 := ⟨by decide +kernel, rfl⟩
theorem dX6_turn_53 : zD cX6_turn 53 (.istore_n 3) 1 54 := ⟨by decide +kernel, rfl⟩
theorem dX6_turn_54 : zD cX6_turn 54 (.aload_n 0) 1 55 := ⟨by decide +kernel, rfl⟩
theorem dX6_turn_55 : zD cX6_turn 55 (.getfield 7) 3 58 := ⟨by decide +kernel, rfl⟩
theorem dX6_turn_58 : zD cX6_turn 58 (.iload_n 2) 1 59 := ⟨by decide +kernel, rfl⟩
theorem dX6_turn_59 : zD cX6_turn 59 (.iconst 5) 1 60 := ⟨by decide +kernel, rfl⟩
theorem dX6_turn_60 : zD cX6_turn 60 .iadd 1 61 := ⟨by decide +kernel, rfl⟩
theorem dX6_turn_61 : zD cX6_turn 61 .iaload 1 62 := ⟨by decide +kernel, rfl⟩
theorem dX6_turn_62 : zD cX6_turn 62 (.ifCond .le 17) 3 65 := ⟨by decide +kernel, rfl⟩
theorem dX6_turn_65 : zD cX6_turn 65 (.bipush 16) 2 67 := ⟨by decide +kernel, rfl⟩
theorem dX6_turn_67 : zD cX6_turn 67 (.aload_n 0) 1 68 := ⟨by decide +kernel, rfl⟩
theorem dX6_turn_68 : zD cX6_turn 68 (.getfield 7) 3 71 := ⟨by decide +kernel, rfl⟩
theorem dX6_turn_71 : zD cX6_turn 71 (.iload_n 2) 1 72 := ⟨by decide +kernel, rfl⟩
theorem dX6_turn_72 : zD cX6_turn 72 (.iconst 5) 1 73 := ⟨by decide +kernel, rfl⟩
theorem dX6_turn_73 : zD cX6_turn 73 .iadd 1 74 := ⟨by decide +kernel, rfl⟩
theorem dX6_turn_74 : zD cX6_turn 74 .iaload 1 75 := ⟨by decide +kernel, rfl⟩
theorem dX6_turn_75 : zD cX6_turn 75 .isub 1 76 := ⟨by decide +kernel, rfl⟩
theorem dX6_turn_76 : zD cX6_turn 76 (.goto 4) 3 79 := ⟨by decide +kernel, rfl⟩
theorem dX6_turn_79 : zD cX6_turn 79 (.iconst 0) 1 80 := ⟨by decide +kernel, rfl⟩
theorem dX6_turn_80 : zD cX6_turn 80 (.istore 4) 2 82 := ⟨by decide +kernel, rfl⟩
theorem dX6_turn_82 : zD cX6_turn 82 (.aload_n 0) 1 83 := ⟨by decide +kernel, rfl⟩
theorem dX6_turn_83 : zD cX6_turn 83 (.iload_n 1) 1 84 := ⟨by decide +kernel, rfl⟩
theorem dX6_turn_84 : zD cX6_turn 84 (.bipush 15) 2 86 := ⟨by decide +kernel, rfl⟩
theorem dX6_turn_86 : zD cX6_turn 86 (.aload_n 0) 1 87 := ⟨by decide +kernel, rfl⟩
theorem dX6_turn_87 : zD cX6_turn 87 (.iload_n 1) 1 88 := ⟨by decide +kernel, rfl⟩
theorem dX6_turn_88 : zD cX6_turn 88 (.iconst 2) 1 89 := ⟨by decide +kernel, rfl⟩
theorem dX6_turn_89 : zD cX6_turn 89 (.invokevirtual 45) 3 92 := ⟨by decide +kernel, rfl⟩
theorem dX6_turn_92 : zD cX6_turn 92 .isub 1 93 := ⟨by decide +kernel, rfl⟩
theorem dX6_turn_93 : zD cX6_turn 93 (.aload_n 0) 1 94 := ⟨by decide +kernel, rfl⟩
theorem dX6_turn_94 : zD cX6_turn 94 (.iload_n 1) 1 95 := ⟨by decide +kernel, rfl⟩
theorem dX6_turn_95 : zD cX6_turn 95 (.iconst 1) 1 96 := ⟨by decide +kernel, rfl⟩
theorem dX6_turn_96 : zD cX6_turn 96 (.invokevirtual 45) 3 99 := ⟨by decide +kernel, rfl⟩
theorem dX6_turn_99 : zD cX6_turn 99 (.bipush 15) 2 101 := ⟨by decide +kernel, rfl⟩
theorem dX6_turn_101 : zD cX6_turn 101 (.aload_n 0) 1 102 := ⟨by decide +kernel, rfl⟩
theorem dX6_turn_102 : zD cX6_turn 102 (.iload_n 1) 1 103 := ⟨by decide +kernel, rfl⟩
theorem dX6_turn_103 : zD cX6_turn 103 (.iconst 0) 1 104 := ⟨by decide +kernel, rfl⟩
theorem dX6_turn_104 : zD cX6_turn 104 (.invokevirtual 45) 3 107 := ⟨by decide +kernel, rfl⟩
theorem dX6_turn_107 : zD cX6_turn 107 .isub 1 108 := ⟨by decide +kernel, rfl⟩
theorem dX6_turn_108 : zD cX6_turn 108 (.aload_n 0) 1 109 := ⟨by decide +kernel, rfl⟩
theorem dX6_turn_109 : zD cX6_turn 109 (.iload_n 1) 1 110 := ⟨by decide +kernel, rfl⟩
theorem dX6_turn_110 : zD cX6_turn 110 (.iconst 3) 1 111 := ⟨by decide +kernel, rfl⟩
theorem dX6_turn_111 : zD cX6_turn 111 (.invokevirtual 45) 3 114 := ⟨by decide +kernel, rfl⟩
theorem dX6_turn_114 : zD cX6_turn 114 (.invokevirtual 124) 3 117 := ⟨by decide +kernel, rfl⟩
theorem dX6_turn_117 : zD cX6_turn 117 (.aload_n 0) 1 118 := ⟨by decide +kernel, rfl⟩
theorem dX6_turn_118 : zD cX6_turn 118 (.getfield 7) 3 121 := ⟨by decide +kernel, rfl⟩
theorem dX6_turn_121 : zD cX6_turn 121 (.iload_n 2) 1 122 := ⟨by decide +kernel, rfl⟩
theorem dX6_turn_122 : zD cX6_turn 122 (.iconst 4) 1 123 := ⟨by decide +kernel, rfl⟩
theorem dX6_turn_123 : zD cX6_turn 123 .iadd 1 124 := ⟨by decide +kernel, rfl⟩
theorem dX6_turn_124 : zD cX6_turn 124 (.iload 4) 2 126 := ⟨by decide +kernel, rfl⟩
theorem dX6_turn_126 : zD cX6_turn 126 (.ifCond .le 8) 3 129 := ⟨by decide +kernel, rfl⟩
theorem dX6_turn_129 : zD cX6_turn 129 (.iload 4) 2 131 := ⟨by decide +kernel, rfl⟩
theorem dX6_turn_131 : zD cX6_turn 131 (.goto 4) 3 134 := ⟨by decide +kernel, rfl⟩
theorem dX6_turn_134 : zD cX6_turn 134 (.iload_n 3) 1 135 := ⟨by decide +kernel, rfl⟩
theorem dX6_turn_135 : zD cX6_turn 135 .iastore 1 136 := ⟨by decide +kernel, rfl⟩
theorem dX6_turn_136 : zD cX6_turn 136 (.aload_n 0) 1 137 := ⟨by decide +kernel, rfl⟩
theorem dX6_turn_137 : zD cX6_turn 137 (.getfield 7) 3 140 := ⟨by decide +kernel, rfl⟩
theorem dX6_turn_140 : zD cX6_turn 140 (.iload_n 2) 1 141 := ⟨by decide +kernel, rfl⟩
theorem dX6_turn_141 : zD cX6_turn 141 (.iconst 5) 1 142 := ⟨by decide +kernel, rfl⟩
theorem dX6_turn_142 : zD cX6_turn 142 .iadd 1 143 := ⟨by decide +kernel, rfl⟩
theorem dX6_turn_143 : zD cX6_turn 143 (.iload 4) 2 145 := ⟨by decide +kernel, rfl⟩
theorem dX6_turn_145 : zD cX6_turn 145 (.ifCond .le 7) 3 148 := ⟨by decide +kernel, rfl⟩
theorem dX6_turn_148 : zD cX6_turn 148 (.iload_n 3) 1 149 := ⟨by decide +kernel, rfl⟩
theorem dX6_turn_149 : zD cX6_turn 149 (.goto 4) 3 152 := ⟨by decide +kernel, rfl⟩
theorem dX6_turn_152 : zD cX6_turn 152 (.iconst 0) 1 153 := ⟨by decide +kernel, rfl⟩
theorem dX6_turn_153 : zD cX6_turn 153 .iastore 1 154 := ⟨by decide +kernel, rfl⟩
theorem dX6_turn_154 : zD cX6_turn 154 (.iinc 1 1) 3 157 := ⟨by decide +kernel, rfl⟩
theorem dX6_turn_157 : zD cX6_turn 157 (.goto (-147)) 3 160 := ⟨by decide +kernel, rfl⟩
theorem dX6_turn_160 : zD cX6_turn 160 (.aload_n 0) 1 161 := ⟨by decide +kernel, rfl⟩
theorem dX6_turn_161 : zD cX6_turn 161 (.invokevirtual 191) 3 164 := ⟨by decide +kernel, rfl⟩
theorem dX6_turn_164 : zD cX6_turn 164 .ireturn 1 165 := ⟨by decide +kernel, rfl⟩
theorem dX6_lotOf_0 : zD cX6_lotOf 0 (.aload_n 0) 1 1 := ⟨by decide +kernel, rfl⟩
theorem dX6_lotOf_1 : zD cX6_lotOf 1 (.aload_n 0) 1 2 := ⟨by decide +kernel, rfl⟩
theorem dX6_lotOf_2 : zD cX6_lotOf 2 (.getfield 194) 3 5 := ⟨by decide +kernel, rfl⟩
theorem dX6_lotOf_5 : zD cX6_lotOf 5 (.ldc2_w 198) 3 8 := ⟨by decide +kernel, rfl⟩
theorem dX6_lotOf_8 : zD cX6_lotOf 8 .lmul 1 9 := ⟨by decide +kernel, rfl⟩
theorem dX6_lotOf_9 : zD cX6_lotOf 9 (.ldc2_w 200) 3 12 := ⟨by decide +kernel, rfl⟩
theorem dX6_lotOf_12 : zD cX6_lotOf 12 .lrem 1 13 := ⟨by decide +kernel, rfl⟩
theorem dX6_lotOf_13 : zD cX6_lotOf 13 (.putfield 194) 3 16 := ⟨by decide +kernel, rfl⟩
theorem dX6_lotOf_16 : zD cX6_lotOf 16 (.aload_n 0) 1 17 := ⟨by decide +kernel, rfl⟩
theorem dX6_lotOf_17 : zD cX6_lotOf 17 (.getfield 194) 3 20 := ⟨by decide +kernel, rfl⟩
theorem dX6_lotOf_20 : zD cX6_lotOf 20 (.iload_n 1) 1 21 := ⟨by decide +kernel, rfl⟩
theorem dX6_lotOf_21 : zD cX6_lotOf 21 .i2l 1 22 := ⟨by decide +kernel, rfl⟩
theorem dX6_lotOf_22 : zD cX6_lotOf 22 .lrem 1 23 := ⟨by decide +kernel, rfl⟩
theorem dX6_lotOf_23 : zD cX6_lotOf 23 .l2i 1 24 := ⟨by decide +kernel, rfl⟩
theorem dX6_lotOf_24 : zD cX6_lotOf 24 .ireturn 1 25 := ⟨by decide +kernel, rfl⟩
theorem dX6_drift_0 : zD cX6_drift 0 (.iload_n 1) 1 1 := ⟨by decide +kernel, rfl⟩
theorem dX6_drift_1 : zD cX6_drift 1 .i2l 1 2 := ⟨by decide +kernel, rfl⟩
theorem dX6_drift_2 : zD cX6_drift 2 (.lconst 1) 1 3 := ⟨by decide +kernel, rfl⟩
theorem dX6_drift_3 : zD cX6_drift 3 (.ldc2_w 202) 3 6 := ⟨by decide +kernel, rfl⟩
theorem dX6_drift_6 : zD cX6_drift 6 (.invokestatic 41) 3 9 := ⟨by decide +kernel, rfl⟩
theorem dX6_drift_9 : zD cX6_drift 9 (.ifCond .eq 15) 3 12 := ⟨by decide +kernel, rfl⟩
theorem dX6_drift_12 : zD cX6_drift 12 (.iload_n 2) 1 13 := ⟨by decide +kernel, rfl⟩
theorem dX6_drift_13 : zD cX6_drift 13 .i2l 1 14 := ⟨by decide +kernel, rfl⟩
theorem dX6_drift_14 : zD cX6_drift 14 (.lconst 1) 1 15 := ⟨by decide +kernel, rfl⟩
theorem dX6_drift_15 : zD cX6_drift 15 (.ldc2_w 204) 3 18 := ⟨by decide +kernel, rfl⟩
theorem dX6_drift_18 : zD cX6_drift 18 (.invokestatic 41) 3 21 := ⟨by decide +kernel, rfl⟩
theorem dX6_drift_21 : zD cX6_drift 21 (.ifCond .ne 6) 3 24 := ⟨by decide +kernel, rfl⟩
theorem dX6_drift_24 : zD cX6_drift 24 (.ldc 132) 2 26 := ⟨by decide +kernel, rfl⟩
theorem dX6_drift_26 : zD cX6_drift 26 .ireturn 1 27 := ⟨by decide +kernel, rfl⟩
theorem dX6_drift_27 : zD cX6_drift 27 (.aload_n 0) 1 28 := ⟨by decide +kernel, rfl⟩
theorem dX6_drift_28 : zD cX6_drift 28 (.invokevirtual 143) 3 31 := ⟨by decide +kernel, rfl⟩
theorem dX6_drift_31 : zD cX6_drift 31 (.aload_n 0) 1 32 := ⟨by decide +kernel, rfl⟩
theorem dX6_drift_32 : zD cX6_drift 32 (.invokevirtual 146) 3 35 := ⟨by decide +kernel, rfl⟩
theorem dX6_drift_35 : zD cX6_drift 35 (.aload_n 0) 1 36 := ⟨by decide +kernel, rfl⟩
theorem dX6_drift_36 : zD cX6_drift 36 (.iload_n 2) 1 37 := ⟨by decide +kernel, rfl⟩
theorem dX6_drift_37 : zD cX6_drift 37 .i2l 1 38 := ⟨by decide +kernel, rfl⟩
theorem dX6_drift_38 : zD cX6_drift 38 (.putfield 194) 3 41 := ⟨by decide +kernel, rfl⟩
theorem dX6_drift_41 : zD cX6_drift 41 (.iconst 0) 1 42 := ⟨by decide +kernel, rfl⟩
theorem dX6_drift_42 : zD cX6_drift 42 (.istore_n 3) 1 43 := ⟨by decide +kernel, rfl⟩
theorem dX6_drift_43 : zD cX6_drift 43 (.iload_n 3) 1 44 := ⟨by decide +kernel, rfl⟩
theorem dX6_drift_44 : zD cX6_drift 44 (.iload_n 1) 1 45 := ⟨by decide +kernel, rfl⟩
theorem dX6_drift_45 : zD cX6_drift 45 (.if_icmp .ge 112) 3 48 := ⟨by decide +kernel, rfl⟩
theorem dX6_drift_48 : zD cX6_drift 48 (.aload_n 0) 1 49 := ⟨by decide +kernel, rfl⟩
theorem dX6_drift_49 : zD cX6_drift 49 (.invokevirtual 138) 3 52 := ⟨by decide +kernel, rfl⟩
theorem dX6_drift_52 : zD cX6_drift 52 (.ifCond .ne 105) 3 55 := ⟨by decide +kernel, rfl⟩
theorem dX6_drift_55 : zD cX6_drift 55 (.aload_n 0) 1 56 := ⟨by decide +kernel, rfl⟩
theorem dX6_drift_56 : zD cX6_drift 56 (.bipush 16) 2 58 := ⟨by decide +kernel, rfl⟩
theorem dX6_drift_58 : zD cX6_drift 58 (.invokevirtual 206) 3 61 := ⟨by decide +kernel, rfl⟩
theorem dX6_drift_61 : zD cX6_drift 61 (.istore 4) 2 63 := ⟨by decide +kernel, rfl⟩
theorem dX6_drift_63 : zD cX6_drift 63 (.aload_n 0) 1 64 := ⟨by decide +kernel, rfl⟩
theorem dX6_drift_64 : zD cX6_drift 64 (.bipush 16) 2 66 := ⟨by decide +kernel, rfl⟩
theorem dX6_drift_66 : zD cX6_drift 66 (.invokevirtual 206) 3 69 := ⟨by decide +kernel, rfl⟩
theorem dX6_drift_69 : zD cX6_drift 69 (.istore 5) 2 71 := ⟨by decide +kernel, rfl⟩
theorem dX6_drift_71 : zD cX6_drift 71 (.iload 4) 2 73 := ⟨by decide +kernel, rfl⟩
theorem dX6_drift_73 : zD cX6_drift 73 (.aload_n 0) 1 74 := ⟨by decide +kernel, rfl⟩
theorem dX6_drift_74 : zD cX6_drift 74 (.iconst 5) 1 75 := ⟨by decide +kernel, rfl⟩
theorem dX6_drift_75 : zD cX6_drift 75 (.invokevirtual 206) 3 78 := ⟨by decide +kernel, rfl⟩
theorem dX6_drift_78 : zD cX6_drift 78 .iadd 1 79 := ⟨by decide +kernel, rfl⟩
theorem dX6_drift_79 : zD cX6_drift 79 (.istore 6) 2 81 := ⟨by decide +kernel, rfl⟩
theorem dX6_drift_81 : zD cX6_drift 81 (.iload 5) 2 83 := ⟨by decide +kernel, rfl⟩
theorem dX6_drift_83 : zD cX6_drift 83 (.aload_n 0) 1 84 := ⟨by decide +kernel, rfl⟩
theorem dX6_drift_84 : zD cX6_drift 84 (.iconst 3) 1 85 := ⟨by decide +kernel, rfl⟩
theorem dX6_drift_85 : zD cX6_drift 85 (.invokevirtual 206) 3 88 := ⟨by decide +kernel, rfl⟩
theorem dX6_drift_88 : zD cX6_drift 88 .iadd 1 89 := ⟨by decide +kernel, rfl⟩
theorem dX6_drift_89 : zD cX6_drift 89 (.istore 7) 2 91 := ⟨by decide +kernel, rfl⟩
theorem dX6_drift_91 : zD cX6_drift 91 (.iload 6) 2 93 := ⟨by decide +kernel, rfl⟩
theorem dX6_drift_93 : zD cX6_drift 93 (.bipush 16) 2 95 := ⟨by decide +kernel, rfl⟩
theorem dX6_drift_95 : zD cX6_drift 95 (.if_icmp .ge 8) 3 98 := ⟨by decide +kernel, rfl⟩
theorem dX6_drift_98 : zD cX6_drift 98 (.iload 6) 2 100 := ⟨by decide +kernel, rfl⟩
theorem dX6_drift_100 : zD cX6_drift 100 (.goto 5) 3 103 := ⟨by decide +kernel, rfl⟩
theorem dX6_drift_103 : zD cX6_drift 103 (.bipush 15) 2 105 := ⟨by decide +kernel, rfl⟩
theorem dX6_drift_105 : zD cX6_drift 105 (.istore 6) 2 107 := ⟨by decide +kernel, rfl⟩
theorem dX6_drift_107 : zD cX6_drift 107 (.iload 7) 2 109 := ⟨by decide +kernel, rfl⟩
theorem dX6_drift_109 : zD cX6_drift 109 (.bipush 16) 2 111 := ⟨by decide +kernel, rfl⟩
theorem dX6_drift_111 : zD cX6_drift 111 (.if_icmp .ge 8) 3 114 := ⟨by decide +kernel, rfl⟩
theorem dX6_drift_114 : zD cX6_drift 114 (.iload 7) 2 116 := ⟨by decide +kernel, rfl⟩
theorem dX6_drift_116 : zD cX6_drift 116 (.goto 5) 3 119 := ⟨by decide +kernel, rfl⟩
theorem dX6_drift_119 : zD cX6_drift 119 (.bipush 15) 2 121 := ⟨by decide +kernel, rfl⟩
theorem dX6_drift_121 : zD cX6_drift 121 (.istore 7) 2 123 := ⟨by decide +kernel, rfl⟩
theorem dX6_drift_123 : zD cX6_drift 123 (.aload_n 0) 1 124 := ⟨by decide +kernel, rfl⟩
theorem dX6_drift_124 : zD cX6_drift 124 (.iload 4) 2 126 := ⟨by decide +kernel, rfl⟩
theorem dX6_drift_126 : zD cX6_drift 126 (.iload 5) 2 128 := ⟨by decide +kernel, rfl⟩
theorem dX6_drift_128 : zD cX6_drift 128 (.iload 6) 2 130 := ⟨by decide +kernel, rfl⟩
theorem dX6_drift_130 : zD cX6_drift 130 (.iload 7) 2 132 := ⟨by decide +kernel, rfl⟩
theorem dX6_drift_132 : zD cX6_drift 132 (.iconst (-1)) 1 133 := ⟨by decide +kernel, rfl⟩
theorem dX6_drift_133 : zD cX6_drift 133 (.invokevirtual 133) 3 136 := ⟨by decide +kernel, rfl⟩
theorem dX6_drift_136 : zD cX6_drift 136 (.ifCond .eq 15) 3 139 := ⟨by decide +kernel, rfl⟩
theorem dX6_drift_139 : zD cX6_drift 139 (.aload_n 0) 1 140 := ⟨by decide +kernel, rfl⟩
theorem dX6_drift_140 : zD cX6_drift 140 (.iload 4) 2 142 := ⟨by decide +kernel, rfl⟩
theorem dX6_drift_142 : zD cX6_drift 142 (.iload 5) 2 144 := ⟨by decide +kernel, rfl⟩
theorem dX6_drift_144 : zD cX6_drift 144 (.iload 6) 2 146 := ⟨by decide +kernel, rfl⟩
theorem dX6_drift_146 : zD cX6_drift 146 (.iload 7) 2 148 := ⟨by decide +kernel, rfl⟩
theorem dX6_drift_148 : zD cX6_drift 148 (.invokevirtual 149) 3 151 := ⟨by decide +kernel, rfl⟩
theorem dX6_drift_151 : zD cX6_drift 151 (.iinc 3 1) 3 154 := ⟨by decide +kernel, rfl⟩
theorem dX6_drift_154 : zD cX6_drift 154 (.goto (-111)) 3 157 := ⟨by decide +kernel, rfl⟩
theorem dX6_drift_157 : zD cX6_drift 157 (.aload_n 0) 1 158 := ⟨by decide +kernel, rfl⟩
theorem dX6_drift_158 : zD cX6_drift 158 (.getfield 7) 3 161 := ⟨by decide +kernel, rfl⟩
theorem dX6_drift_161 : zD cX6_drift 161 (.iconst 0) 1 162 := ⟨by decide +kernel, rfl⟩
theorem dX6_drift_162 : zD cX6_drift 162 .iaload 1 163 := ⟨by decide +kernel, rfl⟩
theorem dX6_drift_163 : zD cX6_drift 163 .ireturn 1 164 := ⟨by decide +kernel, rfl⟩
theorem dX6_undo_0 : zD cX6_undo 0 (.aload_n 0) 1 1 := ⟨by decide +kernel, rfl⟩
theorem dX6_undo_1 : zD cX6_undo 1 (.getfield 116) 3 4 := ⟨by decide +kernel, rfl⟩
theorem dX6_undo_4 : zD cX6_undo 4 (.ifCond .ne 6) 3 7 := ⟨by decide +kernel, rfl⟩
theorem dX6_undo_7 : zD cX6_undo 7 (.ldc 137) 2 9 := ⟨by decide +kernel, rfl⟩
theorem dX6_undo_9 : zD cX6_undo 9 .ireturn 1 10 := ⟨by decide +kernel, rfl⟩
theorem dX6_undo_10 : zD cX6_undo 10 (.aload_n 0) 1 11 := ⟨by decide +kernel, rfl⟩
theorem dX6_undo_11 : zD cX6_undo 11 .dup 1 12 := ⟨by decide +kernel, rfl⟩
theorem dX6_undo_12 : zD cX6_undo 12 (.getfield 116) 3 15 := ⟨by decide +kernel, rfl⟩
theorem dX6_undo_15 : zD cX6_undo 15 (.iconst 1) 1 16 := ⟨by decide +kernel, rfl⟩
theorem dX6_undo_16 : zD cX6_undo 16 .isub 1 17 := ⟨by decide +kernel, rfl⟩
theorem dX6_undo_17 : zD cX6_undo 17 (.putfield 116) 3 20 := ⟨by decide +kernel, rfl⟩
theorem dX6_undo_20 : zD cX6_undo 20 (.iconst 0) 1 21 := ⟨by decide +kernel, rfl⟩
theorem dX6_undo_21 : zD cX6_undo 21 (.istore_n 1) 1 22 := ⟨by decide +kernel, rfl⟩
theorem dX6_undo_22 : zD cX6_undo 22 (.iload_n 1) 1 23 := ⟨by decide +kernel, rfl⟩
theorem dX6_undo_23 : zD cX6_undo 23 (.bipush 78) 2 25 := ⟨by decide +kernel, rfl⟩
theorem dX6_undo_25 : zD cX6_undo 25 (.if_icmp .ge 29) 3 28 := ⟨by decide +kernel, rfl⟩
theorem dX6_undo_28 : zD cX6_undo 28 (.aload_n 0) 1 29 := ⟨by decide +kernel, rfl⟩
theorem dX6_undo_29 : zD cX6_undo 29 (.getfield 7) 3 32 := ⟨by decide +kernel, rfl⟩
theorem dX6_undo_32 : zD cX6_undo 32 (.iload_n 1) 1 33 := ⟨by decide +kernel, rfl⟩
theorem dX6_undo_33 : zD cX6_undo 33 (.aload_n 0) 1 34 := ⟨by decide +kernel, rfl⟩
theorem dX6_undo_34 : zD cX6_undo 34 (.getfield 13) 3 37 := ⟨by decide +kernel, rfl⟩
theorem dX6_undo_37 : zD cX6_undo 37 (.bipush 78) 2 39 := ⟨by decide +kernel, rfl⟩
theorem dX6_undo_39 : zD cX6_undo 39 (.aload_n 0) 1 40 := ⟨by decide +kernel, rfl⟩
theorem dX6_undo_40 : zD cX6_undo 40 (.getfield 116) 3 43 := ⟨by decide +kernel, rfl⟩
theorem dX6_undo_43 : zD cX6_undo 43 .imul 1 44 := ⟨by decide +kernel, rfl⟩
theorem dX6_undo_44 : zD cX6_undo 44 (.iload_n 1) 1 45 := ⟨by decide +kernel, rfl⟩
theorem dX6_undo_45 : zD cX6_undo 45 .iadd 1 46 := ⟨by decide +kernel, rfl⟩
theorem dX6_undo_46 : zD cX6_undo 46 .iaload 1 47 := ⟨by decide +kernel, rfl⟩
theorem dX6_undo_47 : zD cX6_undo 47 .iastore 1 48 := ⟨by decide +kernel, rfl⟩
theorem dX6_undo_48 : zD cX6_undo 48 (.iinc 1 1) 3 51 := ⟨by decide +kernel, rfl⟩
theorem dX6_undo_51 : zD cX6_undo 51 (.goto (-29)) 3 54 := ⟨by decide +kernel, rfl⟩
theorem dX6_undo_54 : zD cX6_undo 54 (.aload_n 0) 1 55 := ⟨by decide +kernel, rfl⟩
theorem dX6_undo_55 : zD cX6_undo 55 (.getfield 116) 3 58 := ⟨by decide +kernel, rfl⟩
theorem dX6_undo_58 : zD cX6_undo 58 .ireturn 1 59 := ⟨by decide +kernel, rfl⟩
theorem dX6_hang_0 : zD cX6_hang 0 (.iload_n 1) 1 1 := ⟨by decide +kernel, rfl⟩
theorem dX6_hang_1 : zD cX6_hang 1 (.istore 5) 2 3 := ⟨by decide +kernel, rfl⟩
theorem dX6_hang_3 : zD cX6_hang 3 (.iconst 0) 1 4 := ⟨by decide +kernel, rfl⟩
theorem dX6_hang_4 : zD cX6_hang 4 (.istore 6) 2 6 := ⟨by decide +kernel, rfl⟩
theorem dX6_hang_6 : zD cX6_hang 6 (.iload 5) 2 8 := ⟨by decide +kernel, rfl⟩
theorem dX6_hang_8 : zD cX6_hang 8 (.iload 6) 2 10 := ⟨by decide +kernel, rfl⟩
theorem dX6_hang_10 : zD cX6_hang 10 (.if_icmp .eq 106) 3 13 := ⟨by decide +kernel, rfl⟩
theorem dX6_hang_13 : zD cX6_hang 13 (.iload 5) 2 15 := ⟨by decide +kernel, rfl⟩
theorem dX6_hang_15 : zD cX6_hang 15 (.istore 6) 2 17 := ⟨by decide +kernel, rfl⟩
theorem dX6_hang_17 : zD cX6_hang 17 (.iconst 0) 1 18 := ⟨by decide +kernel, rfl⟩
theorem dX6_hang_18 : zD cX6_hang 18 (.istore 7) 2 20 := ⟨by decide +kernel, rfl⟩
theorem dX6_hang_20 : zD cX6_hang 20 (.iload 7) 2 22 := ⟨by decide +kernel, rfl⟩
theorem dX6_hang_22 : zD cX6_hang 22 (.aload_n 0) 1 23 := ⟨by decide +kernel, rfl⟩
theorem dX6_hang_23 : zD cX6_hang 23 (.getfield 49) 3 26 := ⟨by decide +kernel, rfl⟩
theorem dX6_hang_26 : zD cX6_hang 26 (.if_icmp .ge 87) 3 29 := ⟨by decide +kernel, rfl⟩
theorem dX6_hang_29 : zD cX6_hang 29 (.aload_n 0) 1 30 := ⟨by decide +kernel, rfl⟩
theorem dX6_hang_30 : zD cX6_hang 30 (.getfield 32) 3 33 := ⟨by decide +kernel, rfl⟩
theorem dX6_hang_33 : zD cX6_hang 33 (.iload 7) 2 35 := ⟨by decide +kernel, rfl⟩
theorem dX6_hang_35 : zD cX6_hang 35 .iaload 1 36 := ⟨by decide +kernel, rfl⟩
theorem dX6_hang_36 : zD cX6_hang 36 (.aload_n 0) 1 37 := ⟨by decide +kernel, rfl⟩
theorem dX6_hang_37 : zD cX6_hang 37 (.getfield 35) 3 40 := ⟨by decide +kernel, rfl⟩
theorem dX6_hang_40 : zD cX6_hang 40 (.iload 7) 2 42 := ⟨by decide +kernel, rfl⟩
theorem dX6_hang_42 : zD cX6_hang 42 .iaload 1 43 := ⟨by decide +kernel, rfl⟩
theorem dX6_hang_43 : zD cX6_hang 43 .ior 1 44 := ⟨by decide +kernel, rfl⟩
theorem dX6_hang_44 : zD cX6_hang 44 (.istore 8) 2 46 := ⟨by decide +kernel, rfl⟩
theorem dX6_hang_46 : zD cX6_hang 46 (.iload 8) 2 48 := ⟨by decide +kernel, rfl⟩
theorem dX6_hang_48 : zD cX6_hang 48 (.iload 7) 2 50 := ⟨by decide +kernel, rfl⟩
theorem dX6_hang_50 : zD cX6_hang 50 (.iload_n 3) 1 51 := ⟨by decide +kernel, rfl⟩
theorem dX6_hang_51 : zD cX6_hang 51 (.if_icmp .ne 12) 3 54 := ⟨by decide +kernel, rfl⟩
theorem dX6_hang_54 : zD cX6_hang 54 (.iconst 1) 1 55 := ⟨by decide +kernel, rfl⟩
theorem dX6_hang_55 : zD cX6_hang 55 (.iload 4) 2 57 := ⟨by decide +kernel, rfl⟩
theorem dX6_hang_57 : zD cX6_hang 57 .ishl 1 58 := ⟨by decide +kernel, rfl⟩
theorem dX6_hang_58 : zD cX6_hang 58 (.iconst (-1)) 1 59 := ⟨by decide +kernel, rfl⟩
theorem dX6_hang_59 : zD cX6_hang 59 .ixor 1 60 := ⟨by decide +kernel, rfl⟩
theorem dX6_hang_60 : zD cX6_hang 60 (.goto 19) 3 63 := ⟨by decide +kernel, rfl⟩
theorem dX6_hang_63 : zD cX6_hang 63 (.iload 7) 2 65 := ⟨by decide +kernel, rfl⟩
theorem dX6_hang_65 : zD cX6_hang 65 (.iload 4) 2 67 := ⟨by decide +kernel, rfl⟩
theorem dX6_hang_67 : zD cX6_hang 67 (.if_icmp .ne 11) 3 70 := ⟨by decide +kernel, rfl⟩
theorem dX6_hang_70 : zD cX6_hang 70 (.iconst 1) 1 71 := ⟨by decide +kernel, rfl⟩
theorem dX6_hang_71 : zD cX6_hang 71 (.iload_n 3) 1 72 := ⟨by decide +kernel, rfl⟩
theorem dX6_hang_72 : zD cX6_hang 72 .ishl 1 73 := ⟨by decide +kernel, rfl⟩
theorem dX6_hang_73 : zD cX6_hang 73 (.iconst (-1)) 1 74 := ⟨by decide +kernel, rfl⟩
theorem dX6_hang_74 : zD cX6_hang 74 .ixor 1 75 := ⟨by decide +kernel, rfl⟩
theorem dX6_hang_75 : zD cX6_hang 75 (.goto 4) 3 78 := ⟨by decide +kernel, rfl⟩
theorem dX6_hang_78 : zD cX6_hang 78 (.iconst (-1)) 1 79 := ⟨by decide +kernel, rfl⟩
theorem dX6_hang_79 : zD cX6_hang 79 .iand 1 80 := ⟨by decide +kernel, rfl⟩
theorem dX6_hang_80 : zD cX6_hang 80 (.istore 8) 2 82 := ⟨by decide +kernel, rfl⟩
theorem dX6_hang_82 : zD cX6_hang 82 (.iload 5) 2 84 := ⟨by decide +kernel, rfl⟩
theorem dX6_hang_84 : zD cX6_hang 84 (.iload 5) 2 86 := ⟨by decide +kernel, rfl⟩
theorem dX6_hang_86 : zD cX6_hang 86 (.iload 7) 2 88 := ⟨by decide +kernel, rfl⟩
theorem dX6_hang_88 : zD cX6_hang 88 (.invokestatic 68) 3 91 := ⟨by decide +kernel, rfl⟩
theorem dX6_hang_91 : zD cX6_hang 91 (.ifCond .eq 12) 3 94 := ⟨by decide +kernel, rfl⟩
theorem dX6_hang_94 : zD cX6_hang 94 (.iload 8) 2 96 := ⟨by decide +kernel, rfl⟩
theorem dX6_hang_96 : zD cX6_hang 96 (.iload_n 2) 1 97 := ⟨by decide +kernel, rfl⟩
theorem dX6_hang_97 : zD cX6_hang 97 (.iconst (-1)) 1 98 := ⟨by decide +kernel, rfl⟩
theorem dX6_hang_98 : zD cX6_hang 98 .ixor 1 99 := ⟨by decide +kernel, rfl⟩
theorem dX6_hang_99 : zD cX6_hang 99 .iand 1 100 := ⟨by decide +kernel, rfl⟩
theorem dX6_hang_100 : zD cX6_hang 100 (.goto 4) 3 103 := ⟨by decide +kernel, rfl⟩
theorem dX6_hang_103 : zD cX6_hang 103 (.iconst 0) 1 104 := ⟨by decide +kernel, rfl⟩
theorem dX6_hang_104 : zD cX6_hang 104 .ior 1 105 := ⟨by decide +kernel, rfl⟩
theorem dX6_hang_105 : zD cX6_hang 105 (.istore 5) 2 107 := ⟨by decide +kernel, rfl⟩
theorem dX6_hang_107 : zD cX6_hang 107 (.iinc 7 1) 3 110 := ⟨by decide +kernel, rfl⟩
theorem dX6_hang_110 : zD cX6_hang 110 (.goto (-90)) 3 113 := ⟨by decide +kernel, rfl⟩
theorem dX6_hang_113 : zD cX6_hang 113 (.goto (-107)) 3 116 := ⟨by decide +kernel, rfl⟩
theorem dX6_hang_116 : zD cX6_hang 116 (.iload 5) 2 118 := ⟨by decide +kernel, rfl⟩
theorem dX6_hang_118 : zD cX6_hang 118 .ireturn 1 119 := ⟨by decide +kernel, rfl⟩
theorem dX6_partOf_0 : zD cX6_partOf 0 (.aload_n 0) 1 1 := ⟨by decide +kernel, rfl⟩
theorem dX6_partOf_1 : zD cX6_partOf 1 (.iconst 1) 1 2 := ⟨by decide +kernel, rfl⟩
theorem dX6_partOf_2 : zD cX6_partOf 2 (.iload_n 1) 1 3 := ⟨by decide +kernel, rfl⟩
theorem dX6_partOf_3 : zD cX6_partOf 3 .ishl 1 4 := ⟨by decide +kernel, rfl⟩
theorem dX6_partOf_4 : zD cX6_partOf 4 (.iconst 0) 1 5 := ⟨by decide +kernel, rfl⟩
theorem dX6_partOf_5 : zD cX6_partOf 5 (.iconst (-1)) 1 6 := ⟨by decide +kernel, rfl⟩
theorem dX6_partOf_6 : zD cX6_partOf 6 (.iconst (-1)) 1 7 := ⟨by decide +kernel, rfl⟩
theorem dX6_partOf_7 : zD cX6_partOf 7 (.invokevirtual 209) 3 10 := ⟨by decide +kernel, rfl⟩
theorem dX6_partOf_10 : zD cX6_partOf 10 .ireturn 1 11 := ⟨by decide +kernel, rfl⟩
theorem dX6_parts_0 : zD cX6_parts 0 (.iconst 0) 1 1 := ⟨by decide +kernel, rfl⟩
theorem dX6_parts_1 : zD cX6_parts 1 (.istore_n 1) 1 2 := ⟨by decide +kernel, rfl⟩
theorem dX6_parts_2 : zD cX6_parts 2 (.aload_n 0) 1 3 := ⟨by decide +kernel, rfl⟩
theorem dX6_parts_3 : zD cX6_parts 3 (.invokevirtual 72) 3 6 := ⟨by decide +kernel, rfl⟩
theorem dX6_parts_6 : zD cX6_parts 6 (.istore_n 2) 1 7 := ⟨by decide +kernel, rfl⟩
theorem dX6_parts_7 : zD cX6_parts 7 (.iload_n 2) 1 8 := ⟨by decide +kernel, rfl⟩
theorem dX6_parts_8 : zD cX6_parts 8 (.ifCond .eq 35) 3 11 := ⟨by decide +kernel, rfl⟩
theorem dX6_parts_11 : zD cX6_parts 11 (.iconst 0) 1 12 := ⟨by decide +kernel, rfl⟩
theorem dX6_parts_12 : zD cX6_parts 12 (.istore_n 3) 1 13 := ⟨by decide +kernel, rfl⟩
theorem dX6_parts_13 : zD cX6_parts 13 (.iload_n 2) 1 14 := ⟨by decide +kernel, rfl⟩
theorem dX6_parts_14 : zD cX6_parts 14 (.iload_n 3) 1 15 := ⟨by decide +kernel, rfl⟩
theorem dX6_parts_15 : zD cX6_parts 15 (.invokestatic 68) 3 18 := ⟨by decide +kernel, rfl⟩
theorem dX6_parts_18 : zD cX6_parts 18 (.ifCond .ne 9) 3 21 := ⟨by decide +kernel, rfl⟩
theorem dX6_parts_21 : zD cX6_parts 21 (.iinc 3 1) 3 24 := ⟨by decide +kernel, rfl⟩
theorem dX6_parts_24 : zD cX6_parts 24 (.goto (-11)) 3 27 := ⟨by decide +kernel, rfl⟩
theorem dX6_parts_27 : zD cX6_parts 27 (.iload_n 2) 1 28 := ⟨by decide +kernel, rfl⟩
theorem dX6_parts_28 : zD cX6_parts 28 (.aload_n 0) 1 29 := ⟨by decide +kernel, rfl⟩
theorem dX6_parts_29 : zD cX6_parts 29 (.iload_n 3) 1 30 := ⟨by decide +kernel, rfl⟩
theorem dX6_parts_30 : zD cX6_parts 30 (.invokevirtual 212) 3 33 := ⟨by decide +kernel, rfl⟩
theorem dX6_parts_33 : zD cX6_parts 33 (.iconst (-1)) 1 34 := ⟨by decide +kernel, rfl⟩
theorem dX6_parts_34 : zD cX6_parts 34 .ixor 1 35 := ⟨by decide +kernel, rfl⟩
theorem dX6_parts_35 : zD cX6_parts 35 .iand 1 36 := ⟨by decide +kernel, rfl⟩
theorem dX6_parts_36 : zD cX6_parts 36 (.istore_n 2) 1 37 := ⟨by decide +kernel, rfl⟩
theorem dX6_parts_37 : zD cX6_parts 37 (.iinc 1 1) 3 40 := ⟨by decide +kernel, rfl⟩
theorem dX6_parts_40 : zD cX6_parts 40 (.goto (-33)) 3 43 := ⟨by decide +kernel, rfl⟩
theorem dX6_parts_43 : zD cX6_parts 43 (.iload_n 1) 1 44 := ⟨by decide +kernel, rfl⟩
theorem dX6_parts_44 : zD cX6_parts 44 .ireturn 1 45 := ⟨by decide +kernel, rfl⟩
theorem dX6_ringOf_0 : zD cX6_ringOf 0 (.iconst 1) 1 1 := ⟨by decide +kernel, rfl⟩
theorem dX6_ringOf_1 : zD cX6_ringOf 1 (.iload_n 1) 1 2 := ⟨by decide +kernel, rfl⟩
theorem dX6_ringOf_2 : zD cX6_ringOf 2 .ishl 1 3 := ⟨by decide +kernel, rfl⟩
theorem dX6_ringOf_3 : zD cX6_ringOf 3 (.istore_n 2) 1 4 := ⟨by decide +kernel, rfl⟩
theorem dX6_ringOf_4 : zD cX6_ringOf 4 (.iconst 0) 1 5 := ⟨by decide +kernel, rfl⟩
theorem dX6_ringOf_5 : zD cX6_ringOf 5 (.istore_n 3) 1 6 := ⟨by decide +kernel, rfl⟩
theorem dX6_ringOf_6 : zD cX6_ringOf 6 (.iconst 1) 1 7 := ⟨by decide +kernel, rfl⟩
theorem dX6_ringOf_7 : zD cX6_ringOf 7 (.istore 4) 2 9 := ⟨by decide +kernel, rfl⟩
theorem dX6_ringOf_9 : zD cX6_ringOf 9 (.iload 4) 2 11 := ⟨by decide +kernel, rfl⟩
theorem dX6_ringOf_11 : zD cX6_ringOf 11 (.bipush 28) 2 13 := ⟨by decide +kernel, rfl⟩
theorem dX6_ringOf_13 : zD cX6_ringOf 13 (.if_icmp .gt 100) 3 16 := ⟨by decide +kernel, rfl⟩
theorem dX6_ringOf_16 : zD cX6_ringOf 16 (.iconst 0) 1 17 := ⟨by decide +kernel, rfl⟩
theorem dX6_ringOf_17 : zD cX6_ringOf 17 (.istore 5) 2 19 := ⟨by decide +kernel, rfl⟩
theorem dX6_ringOf_19 : zD cX6_ringOf 19 (.iload 4) 2 21 := ⟨by decide +kernel, rfl⟩
theorem dX6_ringOf_21 : zD cX6_ringOf 21 (.iconst 2) 1 22 := ⟨by decide +kernel, rfl⟩
theorem dX6_ringOf_22 : zD cX6_ringOf 22 .irem 1 23 := ⟨by decide +kernel, rfl⟩
theorem dX6_ringOf_23 : zD cX6_ringOf 23 (.iconst 1) 1 24 := ⟨by decide +kernel, rfl⟩
theorem dX6_ringOf_24 : zD cX6_ringOf 24 (.if_icmp .ne 7) 3 27 := ⟨by decide +kernel, rfl⟩
theorem dX6_ringOf_27 : zD cX6_ringOf 27 (.iload_n 2) 1 28 := ⟨by decide +kernel, rfl⟩
theorem dX6_ringOf_28 : zD cX6_ringOf 28 (.goto 4) 3 31 := ⟨by decide +kernel, rfl⟩
theorem dX6_ringOf_31 : zD cX6_ringOf 31 (.iload_n 3) 1 32 := ⟨by decide +kernel, rfl⟩
theorem dX6_ringOf_32 : zD cX6_ringOf 32 (.istore 6) 2 34 := ⟨by decide +kernel, rfl⟩
theorem dX6_ringOf_34 : zD cX6_ringOf 34 (.iconst 0) 1 35 := ⟨by decide +kernel, rfl⟩
theorem dX6_ringOf_35 : zD cX6_ringOf 35 (.istore 7) 2 37 := ⟨by decide +kernel, rfl⟩
theorem dX6_ringOf_37 : zD cX6_ringOf 37 (.iload 7) 2 39 := ⟨by decide +kernel, rfl⟩
theorem dX6_ringOf_39 : zD cX6_ringOf 39 (.aload_n 0) 1 40 := ⟨by decide +kernel, rfl⟩
theorem dX6_ringOf_40 : zD cX6_ringOf 40 (.getfield 49) 3 43 := ⟨by decide +kernel, rfl⟩
theorem dX6_ringOf_43 : zD cX6_ringOf 43 (.if_icmp .ge 35) 3 46 := ⟨by decide +kernel, rfl⟩
theorem dX6_ringOf_46 : zD cX6_ringOf 46 (.iload 5) 2 48 := ⟨by decide +kernel, rfl⟩
theorem dX6_ringOf_48 : zD cX6_ringOf 48 (.iload 6) 2 50 := ⟨by decide +kernel, rfl⟩
theorem dX6_ringOf_50 : zD cX6_ringOf 50 (.iload 7) 2 52 := ⟨by decide +kernel, rfl⟩
theorem dX6_ringOf_52 : zD cX6_ringOf 52 (.invokestatic 68) 3 55 := ⟨by decide +kernel, rfl⟩
theorem dX6_ringOf_55 : zD cX6_ringOf 55 (.ifCond .eq 13) 3 58 := ⟨by decide +kernel, rfl⟩
theorem dX6_ringOf_58 : zD cX6_ringOf 58 (.aload_n 0) 1 59 := ⟨by decide +kernel, rfl⟩
theorem dX6_ringOf_59 : zD cX6_ringOf 59 (.getfield 32) 3 62 := ⟨by decide +kernel, rfl⟩
theorem dX6_ringOf_62 : zD cX6_ringOf 62 (.iload 7) 2 64 := ⟨by decide +kernel, rfl⟩
theorem dX6_ringOf_64 : zD cX6_ringOf 64 .iaload 1 65 := ⟨by decide +kernel, rfl⟩
theorem dX6_ringOf_65 : zD cX6_ringOf 65 (.goto 4) 3 68 := ⟨by decide +kernel, rfl⟩
theorem dX6_ringOf_68 : zD cX6_ringOf 68 (.iconst 0) 1 69 := ⟨by decide +kernel, rfl⟩
theorem dX6_ringOf_69 : zD cX6_ringOf 69 .ior 1 70 := ⟨by decide +kernel, rfl⟩
theorem dX6_ringOf_70 : zD cX6_ringOf 70 (.istore 5) 2 72 := ⟨by decide +kernel, rfl⟩
theorem dX6_ringOf_72 : zD cX6_ringOf 72 (.iinc 7 1) 3 75 := ⟨by decide +kernel, rfl⟩
theorem dX6_ringOf_75 : zD cX6_ringOf 75 (.goto (-38)) 3 78 := ⟨by decide +kernel, rfl⟩
theorem dX6_ringOf_78 : zD cX6_ringOf 78 (.iload 4) 2 80 := ⟨by decide +kernel, rfl⟩
theorem dX6_ringOf_80 : zD cX6_ringOf 80 (.iconst 2) 1 81 := ⟨by decide +kernel, rfl⟩
theorem dX6_ringOf_81 : zD cX6_ringOf 81 .irem 1 82 := ⟨by decide +kernel, rfl⟩
theorem dX6_ringOf_82 : zD cX6_ringOf 82 (.iconst 1) 1 83 := ⟨by decide +kernel, rfl⟩
theorem dX6_ringOf_83 : zD cX6_ringOf 83 (.if_icmp .ne 19) 3 86 := ⟨by decide +kernel, rfl⟩
theorem dX6_ringOf_86 : zD cX6_ringOf 86 (.iload_n 3) 1 87 := ⟨by decide +kernel, rfl⟩
theorem dX6_ringOf_87 : zD cX6_ringOf 87 (.iload 5) 2 89 := ⟨by decide +kernel, rfl⟩
theorem dX6_ringOf_89 : zD cX6_ringOf 89 .ior 1 90 := ⟨by decide +kernel, rfl⟩
theorem dX6_ringOf_90 : zD cX6_ringOf 90 (.istore_n 3) 1 91 := ⟨by decide +kernel, rfl⟩
theorem dX6_ringOf_91 : zD cX6_ringOf 91 (.iload_n 3) 1 92 := ⟨by decide +kernel, rfl⟩
theorem dX6_ringOf_92 : zD cX6_ringOf 92 (.iload_n 1) 1 93 := ⟨by decide +kernel, rfl⟩
theorem dX6_ringOf_93 : zD cX6_ringOf 93 (.invokestatic 68) 3 96 := ⟨by decide +kernel, rfl⟩
theorem dX6_ringOf_96 : zD cX6_ringOf 96 (.ifCond .eq 11) 3 99 := ⟨by decide +kernel, rfl⟩
theorem dX6_ringOf_99 : zD cX6_ringOf 99 (.iload 4) 2 101 := ⟨by decide +kernel, rfl⟩
theorem dX6_ringOf_101 : zD cX6_ringOf 101 .ireturn 1 102 := ⟨by decide +kernel, rfl⟩
theorem dX6_ringOf_102 : zD cX6_ringOf 102 (.iload_n 2) 1 103 := ⟨by decide +kernel, rfl⟩
theorem dX6_ringOf_103 : zD cX6_ringOf 103 (.iload 5) 2 105 := ⟨by decide +kernel, rfl⟩
theorem dX6_ringOf_105 : zD cX6_ringOf 105 .ior 1 106 := ⟨by decide +kernel, rfl⟩
theorem dX6_ringOf_106 : zD cX6_ringOf 106 (.istore_n 2) 1 107 := ⟨by decide +kernel, rfl⟩
theorem dX6_ringOf_107 : zD cX6_ringOf 107 (.iinc 4 1) 3 110 := ⟨by decide +kernel, rfl⟩
theorem dX6_ringOf_110 : zD cX6_ringOf 110 (.goto (-101)) 3 113 := ⟨by decide +kernel, rfl⟩
theorem dX6_ringOf_113 : zD cX6_ringOf 113 (.iconst 0) 1 114 := ⟨by decide +kernel, rfl⟩
theorem dX6_ringOf_114 : zD cX6_ringOf 114 .ireturn 1 115 := ⟨by decide +kernel, rfl⟩
theorem dX6_odd_0 : zD cX6_odd 0 (.iconst 0) 1 1 := ⟨by decide +kernel, rfl⟩
theorem dX6_odd_1 : zD cX6_odd 1 (.istore_n 2) 1 2 := ⟨by decide +kernel, rfl⟩
theorem dX6_odd_2 : zD cX6_odd 2 (.iconst 0) 1 3 := ⟨by decide +kernel, rfl⟩
theorem dX6_odd_3 : zD cX6_odd 3 (.istore_n 3) 1 4 := ⟨by decide +kernel, rfl⟩
theorem dX6_odd_4 : zD cX6_odd 4 (.iconst 0) 1 5 := ⟨by decide +kernel, rfl⟩
theorem dX6_odd_5 : zD cX6_odd 5 (.istore 4) 2 7 := ⟨by decide +kernel, rfl⟩
theorem dX6_odd_7 : zD cX6_odd 7 (.iconst 0) 1 8 := ⟨by decide +kernel, rfl⟩
theorem dX6_odd_8 : zD cX6_odd 8 (.istore 5) 2 10 := ⟨by decide +kernel, rfl⟩
theorem dX6_odd_10 : zD cX6_odd 10 (.iload 5) 2 12 := ⟨by decide +kernel, rfl⟩
theorem dX6_odd_12 : zD cX6_odd 12 (.aload_n 0) 1 13 := ⟨by decide +kernel, rfl⟩
theorem dX6_odd_13 : zD cX6_odd 13 (.getfield 49) 3 16 := ⟨by decide +kernel, rfl⟩
theorem dX6_odd_16 : zD cX6_odd 16 (.if_icmp .ge 67) 3 19 := ⟨by decide +kernel, rfl⟩
theorem dX6_odd_19 : zD cX6_odd 19 (.aload_n 0) 1 20 := ⟨by decide +kernel, rfl⟩
theorem dX6_odd_20 : zD cX6_odd 20 (.iload 5) 2 22 := ⟨by decide +kernel, rfl⟩
theorem dX6_odd_22 : zD cX6_odd 22 (.invokevirtual 215) 3 25 := ⟨by decide +kernel, rfl⟩
theorem dX6_odd_25 : zD cX6_odd 25 (.istore 6) 2 27 := ⟨by decide +kernel, rfl⟩
theorem dX6_odd_27 : zD cX6_odd 27 (.iload 6) 2 29 := ⟨by decide +kernel, rfl⟩
theorem dX6_odd_29 : zD cX6_odd 29 (.ifCond .le 48) 3 32 := ⟨by decide +kernel, rfl⟩
theorem dX6_odd_32 : zD cX6_odd 32 (.iload 4) 2 34 := ⟨by decide +kernel, rfl⟩
theorem dX6_odd_34 : zD cX6_odd 34 (.iload_n 2) 1 35 := ⟨by decide +kernel, rfl⟩
theorem dX6_odd_35 : zD cX6_odd 35 (.iload 5) 2 37 := ⟨by decide +kernel, rfl⟩
theorem dX6_odd_37 : zD cX6_odd 37 (.invokestatic 68) 3 40 := ⟨by decide +kernel, rfl⟩
theorem dX6_odd_40 : zD cX6_odd 40 (.ifCond .eq 7) 3 43 := ⟨by decide +kernel, rfl⟩
theorem dX6_odd_43 : zD cX6_odd 43 (.iconst 0) 1 44 := ⟨by decide +kernel, rfl⟩
theorem dX6_odd_44 : zD cX6_odd 44 (.goto 4) 3 47 := ⟨by decide +kernel, rfl⟩
theorem dX6_odd_47 : zD cX6_odd 47 (.iconst 1) 1 48 := ⟨by decide +kernel, rfl⟩
theorem dX6_odd_48 : zD cX6_odd 48 .iadd 1 49 := ⟨by decide +kernel, rfl⟩
theorem dX6_odd_49 : zD cX6_odd 49 (.istore 4) 2 51 := ⟨by decide +kernel, rfl⟩
theorem dX6_odd_51 : zD cX6_odd 51 (.iload_n 2) 1 52 := ⟨by decide +kernel, rfl⟩
theorem dX6_odd_52 : zD cX6_odd 52 (.aload_n 0) 1 53 := ⟨by decide +kernel, rfl⟩
theorem dX6_odd_53 : zD cX6_odd 53 (.iload 5) 2 55 := ⟨by decide +kernel, rfl⟩
theorem dX6_odd_55 : zD cX6_odd 55 (.invokevirtual 212) 3 58 := ⟨by decide +kernel, rfl⟩
theorem dX6_odd_58 : zD cX6_odd 58 .ior 1 59 := ⟨by decide +kernel, rfl⟩
theorem dX6_odd_59 : zD cX6_odd 59 (.istore_n 2) 1 60 := ⟨by decide +kernel, rfl⟩
theorem dX6_odd_60 : zD cX6_odd 60 (.iload_n 3) 1 61 := ⟨by decide +kernel, rfl⟩
theorem dX6_odd_61 : zD cX6_odd 61 (.ifCond .eq 9) 3 64 := ⟨by decide +kernel, rfl⟩
theorem dX6_odd_64 : zD cX6_odd 64 (.iload 6) 2 66 := ⟨by decide +kernel, rfl⟩
theorem dX6_odd_66 : zD cX6_odd 66 (.iload_n 3) 1 67 := ⟨by decide +kernel, rfl⟩
theorem dX6_odd_67 : zD cX6_odd 67 (.if_icmp .ge 8) 3 70 := ⟨by decide +kernel, rfl⟩
theorem dX6_odd_70 : zD cX6_odd 70 (.iload 6) 2 72 := ⟨by decide +kernel, rfl⟩
theorem dX6_odd_72 : zD cX6_odd 72 (.goto 4) 3 75 := ⟨by decide +kernel, rfl⟩
theorem dX6_odd_75 : zD cX6_odd 75 (.iload_n 3) 1 76 := ⟨by decide +kernel, rfl⟩
theorem dX6_odd_76 : zD cX6_odd 76 (.istore_n 3) 1 77 := ⟨by decide +kernel, rfl⟩
theorem dX6_odd_77 : zD cX6_odd 77 (.iinc 5 1) 3 80 := ⟨by decide +kernel, rfl⟩
theorem dX6_odd_80 : zD cX6_odd 80 (.goto (-70)) 3 83 := ⟨by decide +kernel, rfl⟩
theorem dX6_odd_83 : zD cX6_odd 83 (.iload_n 1) 1 84 := ⟨by decide +kernel, rfl⟩
theorem dX6_odd_84 : zD cX6_odd 84 (.ifCond .ne 8) 3 87 := ⟨by decide +kernel, rfl⟩
theorem dX6_odd_87 : zD cX6_odd 87 (.iload 4) 2 89 := ⟨by decide +kernel, rfl⟩
theorem dX6_odd_89 : zD cX6_odd 89 (.goto 4) 3 92 := ⟨by decide +kernel, rfl⟩
theorem dX6_odd_92 : zD cX6_odd 92 (.iload_n 3) 1 93 := ⟨by decide +kernel, rfl⟩
theorem dX6_odd_93 : zD cX6_odd 93 .ireturn 1 94 := ⟨by decide +kernel, rfl⟩
theorem dX6_core_0 : zD cX6_core 0 (.aload_n 0) 1 1 := ⟨by decide +kernel, rfl⟩
theorem dX6_core_1 : zD cX6_core 1 (.invokevirtual 72) 3 4 := ⟨by decide +kernel, rfl⟩
theorem dX6_core_4 : zD cX6_core 4 (.istore_n 1) 1 5 := ⟨by decide +kernel, rfl⟩
theorem dX6_core_5 : zD cX6_core 5 (.iconst 0) 1 6 := ⟨by decide +kernel, rfl⟩
theorem dX6_core_6 : zD cX6_core 6 (.istore_n 2) 1 7 := ⟨by decide +kernel, rfl⟩
theorem dX6_core_7 : zD cX6_core 7 (.iload_n 1) 1 8 := ⟨by decide +kernel, rfl⟩
theorem dX6_core_8 : zD cX6_core 8 (.iload_n 2) 1 9 := ⟨by decide +kernel, rfl⟩
theorem dX6_core_9 : zD cX6_core 9 (.if_icmp .eq 58) 3 12 := ⟨by decide +kernel, rfl⟩
theorem dX6_core_12 : zD cX6_core 12 (.iload_n 1) 1 13 := ⟨by decide +kernel, rfl⟩
theorem dX6_core_13 : zD cX6_core 13 (.istore_n 2) 1 14 := ⟨by decide +kernel, rfl⟩
theorem dX6_core_14 : zD cX6_core 14 (.iconst 0) 1 15 := ⟨by decide +kernel, rfl⟩
theorem dX6_core_15 : zD cX6_core 15 (.istore_n 3) 1 16 := ⟨by decide +kernel, rfl⟩
theorem dX6_core_16 : zD cX6_core 16 (.iload_n 3) 1 17 := ⟨by decide +kernel, rfl⟩
theorem dX6_core_17 : zD cX6_core 17 (.aload_n 0) 1 18 := ⟨by decide +kernel, rfl⟩
theorem dX6_core_18 : zD cX6_core 18 (.getfield 49) 3 21 := ⟨by decide +kernel, rfl⟩
theorem dX6_core_21 : zD cX6_core 21 (.if_icmp .ge 43) 3 24 := ⟨by decide +kernel, rfl⟩
theorem dX6_core_24 : zD cX6_core 24 (.iload_n 1) 1 25 := ⟨by decide +kernel, rfl⟩
theorem dX6_core_25 : zD cX6_core 25 (.aload_n 0) 1 26 := ⟨by decide +kernel, rfl⟩
theorem dX6_core_26 : zD cX6_core 26 (.getfield 32) 3 29 := ⟨by decide +kernel, rfl⟩
theorem dX6_core_29 : zD cX6_core 29 (.iload_n 3) 1 30 := ⟨by decide +kernel, rfl⟩
theorem dX6_core_30 : zD cX6_core 30 .iaload 1 31 := ⟨by decide +kernel, rfl⟩
theorem dX6_core_31 : zD cX6_core 31 (.aload_n 0) 1 32 := ⟨by decide +kernel, rfl⟩
theorem dX6_core_32 : zD cX6_core 32 (.getfield 35) 3 35 := ⟨by decide +kernel, rfl⟩
theorem dX6_core_35 : zD cX6_core 35 (.iload_n 3) 1 36 := ⟨by decide +kernel, rfl⟩
theorem dX6_core_36 : zD cX6_core 36 .iaload 1 37 := ⟨by decide +kernel, rfl⟩
theorem dX6_core_37 : zD cX6_core 37 .ior 1 38 := ⟨by decide +kernel, rfl⟩
theorem dX6_core_38 : zD cX6_core 38 (.iload_n 1) 1 39 := ⟨by decide +kernel, rfl⟩
theorem dX6_core_39 : zD cX6_core 39 .iand 1 40 := ⟨by decide +kernel, rfl⟩
theorem dX6_core_40 : zD cX6_core 40 (.invokestatic 76) 3 43 := ⟨by decide +kernel, rfl⟩
theorem dX6_core_43 : zD cX6_core 43 (.iconst 1) 1 44 := ⟨by decide +kernel, rfl⟩
theorem dX6_core_44 : zD cX6_core 44 (.if_icmp .le 7) 3 47 := ⟨by decide +kernel, rfl⟩
theorem dX6_core_47 : zD cX6_core 47 (.iconst (-1)) 1 48 := ⟨by decide +kernel, rfl⟩
theorem dX6_core_48 : zD cX6_core 48 (.goto 8) 3 51 := ⟨by decide +kernel, rfl⟩
theorem dX6_core_51 : zD cX6_core 51 (.iconst 1) 1 52 := ⟨by decide +kernel, rfl⟩
theorem dX6_core_52 : zD cX6_core 52 (.iload_n 3) 1 53 := ⟨by decide +kernel, rfl⟩
theorem dX6_core_53 : zD cX6_core 53 .ishl 1 54 := ⟨by decide +kernel, rfl⟩
theorem dX6_core_54 : zD cX6_core 54 (.iconst (-1)) 1 55 := ⟨by decide +kernel, rfl⟩
theorem dX6_core_55 : zD cX6_core 55 .ixor 1 56 := ⟨by decide +kernel, rfl⟩
theorem dX6_core_56 : zD cX6_core 56 .iand 1 57 := ⟨by decide +kernel, rfl⟩
theorem dX6_core_57 : zD cX6_core 57 (.istore_n 1) 1 58 := ⟨by decide +kernel, rfl⟩
theorem dX6_core_58 : zD cX6_core 58 (.iinc 3 1) 3 61 := ⟨by decide +kernel, rfl⟩
theorem dX6_core_61 : zD cX6_core 61 (.goto (-45)) 3 64 := ⟨by decide +kernel, rfl⟩
theorem dX6_core_64 : zD cX6_core 64 (.goto (-57)) 3 67 := ⟨by decide +kernel, rfl⟩
theorem dX6_core_67 : zD cX6_core 67 (.iload_n 1) 1 68 := ⟨by decide +kernel, rfl⟩
theorem dX6_core_68 : zD cX6_core 68 .ireturn 1 69 := ⟨by decide +kernel, rfl⟩
theorem dX6_bridges_0 : zD cX6_bridges 0 (.iconst 0) 1 1 := ⟨by decide +kernel, rfl⟩
theorem dX6_bridges_1 : zD cX6_bridges 1 (.istore_n 1) 1 2 := ⟨by decide +kernel, rfl⟩
theorem dX6_bridges_2 : zD cX6_bridges 2 (.iconst 0) 1 3 := ⟨by decide +kernel, rfl⟩
theorem dX6_bridges_3 : zD cX6_bridges 3 (.istore_n 2) 1 4 := ⟨by decide +kernel, rfl⟩
theorem dX6_bridges_4 : zD cX6_bridges 4 (.iload_n 2) 1 5 := ⟨by decide +kernel, rfl⟩
theorem dX6_bridges_5 : zD cX6_bridges 5 (.aload_n 0) 1 6 := ⟨by decide +kernel, rfl⟩
theorem dX6_bridges_6 : zD cX6_bridges 6 (.getfield 49) 3 9 := ⟨by decide +kernel, rfl⟩
theorem dX6_bridges_9 : zD cX6_bridges 9 (.if_icmp .ge 72) 3 12 := ⟨by decide +kernel, rfl⟩
theorem dX6_bridges_12 : zD cX6_bridges 12 (.iload_n 2) 1 13 := ⟨by decide +kernel, rfl⟩
theorem dX6_bridges_13 : zD cX6_bridges 13 (.iconst 1) 1 14 := ⟨by decide +kernel, rfl⟩
theorem dX6_bridges_14 : zD cX6_bridges 14 .iadd 1 15 := ⟨by decide +kernel, rfl⟩
theorem dX6_bridges_15 : zD cX6_bridges 15 (.istore_n 3) 1 16 := ⟨by decide +kernel, rfl⟩
theorem dX6_bridges_16 : zD cX6_bridges 16 (.iload_n 3) 1 17 := ⟨by decide +kernel, rfl⟩
theorem dX6_bridges_17 : zD cX6_bridges 17 (.aload_n 0) 1 18 := ⟨by decide +kernel, rfl⟩
theorem dX6_bridges_18 : zD cX6_bridges 18 (.getfield 49) 3 21 := ⟨by decide +kernel, rfl⟩
theorem dX6_bridges_21 : zD cX6_bridges 21 (.if_icmp .ge 54) 3 24 := ⟨by decide +kernel, rfl⟩
theorem dX6_bridges_24 : zD cX6_bridges 24 (.iload_n 1) 1 25 := ⟨by decide +kernel, rfl⟩
theorem dX6_bridges_25 : zD cX6_bridges 25 (.aload_n 0) 1 26 := ⟨by decide +kernel, rfl⟩
theorem dX6_bridges_26 : zD cX6_bridges 26 (.getfield 32) 3 29 := ⟨by decide +kernel, rfl⟩
theorem dX6_bridges_29 : zD cX6_bridges 29 (.iload_n 2) 1 30 := ⟨by decide +kernel, rfl⟩
theorem dX6_bridges_30 : zD cX6_bridges 30 .iaload 1 31 := ⟨by decide +kernel, rfl⟩
theorem dX6_bridges_31 : zD cX6_bridges 31 (.aload_n 0) 1 32 := ⟨by decide +kernel, rfl⟩
theorem dX6_bridges_32 : zD cX6_bridges 32 (.getfield 35) 3 35 := ⟨by decide +kernel, rfl⟩
theorem dX6_bridges_35 : zD cX6_bridges 35 (.iload_n 2) 1 36 := ⟨by decide +kernel, rfl⟩
theorem dX6_bridges_36 : zD cX6_bridges 36 .iaload 1 37 := ⟨by decide +kernel, rfl⟩
theorem dX6_bridges_37 : zD cX6_bridges 37 .ior 1 38 := ⟨by decide +kernel, rfl⟩
theorem dX6_bridges_38 : zD cX6_bridges 38 (.iload_n 3) 1 39 := ⟨by decide +kernel, rfl⟩
theorem dX6_bridges_39 : zD cX6_bridges 39 (.invokestatic 68) 3 42 := ⟨by decide +kernel, rfl⟩
theorem dX6_bridges_42 : zD cX6_bridges 42 (.ifCond .eq 24) 3 45 := ⟨by decide +kernel, rfl⟩
theorem dX6_bridges_45 : zD cX6_bridges 45 (.aload_n 0) 1 46 := ⟨by decide +kernel, rfl⟩
theorem dX6_bridges_46 : zD cX6_bridges 46 (.iconst 1) 1 47 := ⟨by decide +kernel, rfl⟩
theorem dX6_bridges_47 : zD cX6_bridges 47 (.iload_n 2) 1 48 := ⟨by decide +kernel, rfl⟩
theorem dX6_bridges_48 : zD cX6_bridges 48 .ishl 1 49 := ⟨by decide +kernel, rfl⟩
theorem dX6_bridges_49 : zD cX6_bridges 49 (.iconst 0) 1 50 := ⟨by decide +kernel, rfl⟩
theorem dX6_bridges_50 : zD cX6_bridges 50 (.iload_n 2) 1 51 := ⟨by decide +kernel, rfl⟩
theorem dX6_bridges_51 : zD cX6_bridges 51 (.iload_n 3) 1 52 := ⟨by decide +kernel, rfl⟩
theorem dX6_bridges_52 : zD cX6_bridges 52 (.invokevirtual 209) 3 55 := ⟨by decide +kernel, rfl⟩
theorem dX6_bridges_55 : zD cX6_bridges 55 (.iload_n 3) 1 56 := ⟨by decide +kernel, rfl⟩
theorem dX6_bridges_56 : zD cX6_bridges 56 (.invokestatic 68) 3 59 := ⟨by decide +kernel, rfl⟩
theorem dX6_bridges_59 : zD cX6_bridges 59 (.ifCond .ne 7) 3 62 := ⟨by decide +kernel, rfl⟩
theorem dX6_bridges_62 : zD cX6_bridges 62 (.iconst 1) 1 63 := ⟨by decide +kernel, rfl⟩
theorem dX6_bridges_63 : zD cX6_bridges 63 (.goto 4) 3 66 := ⟨by decide +kernel, rfl⟩
theorem dX6_bridges_66 : zD cX6_bridges 66 (.iconst 0) 1 67 := ⟨by decide +kernel, rfl⟩
theorem dX6_bridges_67 : zD cX6_bridges 67 .iadd 1 68 := ⟨by decide +kernel, rfl⟩
theorem dX6_bridges_68 : zD cX6_bridges 68 (.istore_n 1) 1 69 := ⟨by decide +kernel, rfl⟩
theorem dX6_bridges_69 : zD cX6_bridges 69 (.iinc 3 1) 3 72 := ⟨by decide +kernel, rfl⟩
theorem dX6_bridges_72 : zD cX6_bridges 72 (.goto (-56)) 3 75 := ⟨by decide +kernel, rfl⟩
theorem dX6_bridges_75 : zD cX6_bridges 75 (.iinc 2 1) 3 78 := ⟨by decide +kernel, rfl⟩
theorem dX6_bridges_78 : zD cX6_bridges 78 (.goto (-74)) 3 81 := ⟨by decide +kernel, rfl⟩
theorem dX6_bridges_81 : zD cX6_bridges 81 (.iload_n 1) 1 82 := ⟨by decide +kernel, rfl⟩
theorem dX6_bridges_82 : zD cX6_bridges 82 .ireturn 1 83 := ⟨by decide +kernel, rfl⟩
theorem dX6_hinges_0 : zD cX6_hinges 0 (.iconst 0) 1 1 := ⟨by decide +kernel, rfl⟩
theorem dX6_hinges_1 : zD cX6_hinges 1 (.istore_n 1) 1 2 := ⟨by decide +kernel, rfl⟩
theorem dX6_hinges_2 : zD cX6_hinges 2 (.iconst 0) 1 3 := ⟨by decide +kernel, rfl⟩
theorem dX6_hinges_3 : zD cX6_hinges 3 (.istore_n 2) 1 4 := ⟨by decide +kernel, rfl⟩
theorem dX6_hinges_4 : zD cX6_hinges 4 (.iload_n 2) 1 5 := ⟨by decide +kernel, rfl⟩
theorem dX6_hinges_5 : zD cX6_hinges 5 (.aload_n 0) 1 6 := ⟨by decide +kernel, rfl⟩
theorem dX6_hinges_6 : zD cX6_hinges 6 (.getfield 49) 3 9 := ⟨by decide +kernel, rfl⟩
theorem dX6_hinges_9 : zD cX6_hinges 9 (.if_icmp .ge 56) 3 12 := ⟨by decide +kernel, rfl⟩
theorem dX6_hinges_12 : zD cX6_hinges 12 (.aload_n 0) 1 13 := ⟨by decide +kernel, rfl⟩
theorem dX6_hinges_13 : zD cX6_hinges 13 (.iload_n 2) 1 14 := ⟨by decide +kernel, rfl⟩
theorem dX6_hinges_14 : zD cX6_hinges 14 (.invokevirtual 212) 3 17 := ⟨by decide +kernel, rfl⟩
theorem dX6_hinges_17 : zD cX6_hinges 17 (.iconst 1) 1 18 := ⟨by decide +kernel, rfl⟩
theorem dX6_hinges_18 : zD cX6_hinges 18 (.iload_n 2) 1 19 := ⟨by decide +kernel, rfl⟩
theorem dX6_hinges_19 : zD cX6_hinges 19 .ishl 1 20 := ⟨by decide +kernel, rfl⟩
theorem dX6_hinges_20 : zD cX6_hinges 20 (.iconst (-1)) 1 21 := ⟨by decide +kernel, rfl⟩
theorem dX6_hinges_21 : zD cX6_hinges 21 .ixor 1 22 := ⟨by decide +kernel, rfl⟩
theorem dX6_hinges_22 : zD cX6_hinges 22 .iand 1 23 := ⟨by decide +kernel, rfl⟩
theorem dX6_hinges_23 : zD cX6_hinges 23 (.istore_n 3) 1 24 := ⟨by decide +kernel, rfl⟩
theorem dX6_hinges_24 : zD cX6_hinges 24 (.iload_n 3) 1 25 := ⟨by decide +kernel, rfl⟩
theorem dX6_hinges_25 : zD cX6_hinges 25 (.iload_n 3) 1 26 := ⟨by decide +kernel, rfl⟩
theorem dX6_hinges_26 : zD cX6_hinges 26 .ineg 1 27 := ⟨by decide +kernel, rfl⟩
theorem dX6_hinges_27 : zD cX6_hinges 27 .iand 1 28 := ⟨by decide +kernel, rfl⟩
theorem dX6_hinges_28 : zD cX6_hinges 28 (.istore 4) 2 30 := ⟨by decide +kernel, rfl⟩
theorem dX6_hinges_30 : zD cX6_hinges 30 (.iload_n 1) 1 31 := ⟨by decide +kernel, rfl⟩
theorem dX6_hinges_31 : zD cX6_hinges 31 (.iload_n 3) 1 32 := ⟨by decide +kernel, rfl⟩
theorem dX6_hinges_32 : zD cX6_hinges 32 (.ifCond .eq 24) 3 35 := ⟨by decide +kernel, rfl⟩
theorem dX6_hinges_35 : zD cX6_hinges 35 (.aload_n 0) 1 36 := ⟨by decide +kernel, rfl⟩
theorem dX6_hinges_36 : zD cX6_hinges 36 (.iload 4) 2 38 := ⟨by decide +kernel, rfl⟩
theorem dX6_hinges_38 : zD cX6_hinges 38 (.iconst 1) 1 39 := ⟨by decide +kernel, rfl⟩
theorem dX6_hinges_39 : zD cX6_hinges 39 (.iload_n 2) 1 40 := ⟨by decide +kernel, rfl⟩
theorem dX6_hinges_40 : zD cX6_hinges 40 .ishl 1 41 := ⟨by decide +kernel, rfl⟩
theorem dX6_hinges_41 : zD cX6_hinges 41 (.iconst (-1)) 1 42 := ⟨by decide +kernel, rfl⟩
theorem dX6_hinges_42 : zD cX6_hinges 42 (.iconst (-1)) 1 43 := ⟨by decide +kernel, rfl⟩
theorem dX6_hinges_43 : zD cX6_hinges 43 (.invokevirtual 209) 3 46 := ⟨by decide +kernel, rfl⟩
theorem dX6_hinges_46 : zD cX6_hinges 46 (.iload_n 3) 1 47 := ⟨by decide +kernel, rfl⟩
theorem dX6_hinges_47 : zD cX6_hinges 47 (.if_icmp .eq 9) 3 50 := ⟨by decide +kernel, rfl⟩
theorem dX6_hinges_50 : zD cX6_hinges 50 (.iconst 1) 1 51 := ⟨by decide +kernel, rfl⟩
theorem dX6_hinges_51 : zD cX6_hinges 51 (.iload_n 2) 1 52 := ⟨by decide +kernel, rfl⟩
theorem dX6_hinges_52 : zD cX6_hinges 52 .ishl 1 53 := ⟨by decide +kernel, rfl⟩
theorem dX6_hinges_53 : zD cX6_hinges 53 (.goto 4) 3 56 := ⟨by decide +kernel, rfl⟩
theorem dX6_hinges_56 : zD cX6_hinges 56 (.iconst 0) 1 57 := ⟨by decide +kernel, rfl⟩
theorem dX6_hinges_57 : zD cX6_hinges 57 .ior 1 58 := ⟨by decide +kernel, rfl⟩
theorem dX6_hinges_58 : zD cX6_hinges 58 (.istore_n 1) 1 59 := ⟨by decide +kernel, rfl⟩
theorem dX6_hinges_59 : zD cX6_hinges 59 (.iinc 2 1) 3 62 := ⟨by decide +kernel, rfl⟩
theorem dX6_hinges_62 : zD cX6_hinges 62 (.goto (-58)) 3 65 := ⟨by decide +kernel, rfl⟩
theorem dX6_hinges_65 : zD cX6_hinges 65 (.iload_n 1) 1 66 := ⟨by decide +kernel, rfl⟩
theorem dX6_hinges_66 : zD cX6_hinges 66 .ireturn 1 67 := ⟨by decide +kernel, rfl⟩
theorem dX6_fixedSet_0 : zD cX6_fixedSet 0 (.iconst 0) 1 1 := ⟨by decide +kernel, rfl⟩
theorem dX6_fixedSet_1 : zD cX6_fixedSet 1 (.istore_n 1) 1 2 := ⟨by decide +kernel, rfl⟩
theorem dX6_fixedSet_2 : zD cX6_fixedSet 2 (.iconst 0) 1 3 := ⟨by decide +kernel, rfl⟩
theorem dX6_fixedSet_3 : zD cX6_fixedSet 3 (.istore_n 2) 1 4 := ⟨by decide +kernel, rfl⟩
theorem dX6_fixedSet_4 : zD cX6_fixedSet 4 (.iload_n 2) 1 5 := ⟨by decide +kernel, rfl⟩
theorem dX6_fixedSet_5 : zD cX6_fixedSet 5 (.aload_n 0) 1 6 := ⟨by decide +kernel, rfl⟩
theorem dX6_fixedSet_6 : zD cX6_fixedSet 6 (.getfield 49) 3 9 := ⟨by decide +kernel, rfl⟩
theorem dX6_fixedSet_9 : zD cX6_fixedSet 9 (.if_icmp .ge 31) 3 12 := ⟨by decide +kernel, rfl⟩
theorem dX6_fixedSet_12 : zD cX6_fixedSet 12 (.iload_n 1) 1 13 := ⟨by decide +kernel, rfl⟩
theorem dX6_fixedSet_13 : zD cX6_fixedSet 13 (.aload_n 0) 1 14 := ⟨by decide +kernel, rfl⟩
theorem dX6_fixedSet_14 : zD cX6_fixedSet 14 (.getfield 7) 3 17 := ⟨by decide +kernel, rfl⟩
theorem dX6_fixedSet_17 : zD cX6_fixedSet 17 (.bipush 64) 2 19 := ⟨by decide +kernel, rfl⟩
theorem dX6_fixedSet_19 : zD cX6_fixedSet 19 (.iload_n 2) 1 20 := ⟨by decide +kernel, rfl⟩
theorem dX6_fixedSet_20 : zD cX6_fixedSet 20 .iadd 1 21 := ⟨by decide +kernel, rfl⟩
theorem dX6_fixedSet_21 : zD cX6_fixedSet 21 .iaload 1 22 := ⟨by decide +kernel, rfl⟩
theorem dX6_fixedSet_22 : zD cX6_fixedSet 22 (.ifCond .le 9) 3 25 := ⟨by decide +kernel, rfl⟩
theorem dX6_fixedSet_25 : zD cX6_fixedSet 25 (.iconst 1) 1 26 := ⟨by decide +kernel, rfl⟩
theorem dX6_fixedSet_26 : zD cX6_fixedSet 26 (.iload_n 2) 1 27 := ⟨by decide +kernel, rfl⟩
theorem dX6_fixedSet_27 : zD cX6_fixedSet 27 .ishl 1 28 := ⟨by decide +kernel, rfl⟩
theorem dX6_fixedSet_28 : zD cX6_fixedSet 28 (.goto 4) 3 31 := ⟨by decide +kernel, rfl⟩
theorem dX6_fixedSet_31 : zD cX6_fixedSet 31 (.iconst 0) 1 32 := ⟨by decide +kernel, rfl⟩
theorem dX6_fixedSet_32 : zD cX6_fixedSet 32 .ior 1 33 := ⟨by decide +kernel, rfl⟩
theorem dX6_fixedSet_33 : zD cX6_fixedSet 33 (.istore_n 1) 1 34 := ⟨by decide +kernel, rfl⟩
theorem dX6_fixedSet_34 : zD cX6_fixedSet 34 (.iinc 2 1) 3 37 := ⟨by decide +kernel, rfl⟩
theorem dX6_fixedSet_37 : zD cX6_fixedSet 37 (.goto (-33)) 3 40 := ⟨by decide +kernel, rfl⟩
theorem dX6_fixedSet_40 : zD cX6_fixedSet 40 (.iload_n 1) 1 41 := ⟨by decide +kernel, rfl⟩
theorem dX6_fixedSet_41 : zD cX6_fixedSet 41 .ireturn 1 42 := ⟨by decide +kernel, rfl⟩
theorem dX6_closePairs_0 : zD cX6_closePairs 0 (.iconst 0) 1 1 := ⟨by decide +kernel, rfl⟩
theorem dX6_closePairs_1 : zD cX6_closePairs 1 (.istore_n 1) 1 2 := ⟨by decide +kernel, rfl⟩
theorem dX6_closePairs_2 : zD cX6_closePairs 2 (.iconst 0) 1 3 := ⟨by decide +kernel, rfl⟩
theorem dX6_closePairs_3 : zD cX6_closePairs 3 (.istore_n 2) 1 4 := ⟨by decide +kernel, rfl⟩
theorem dX6_closePairs_4 : zD cX6_closePairs 4 (.iload_n 2) 1 5 := ⟨by decide +kernel, rfl⟩
theorem dX6_closePairs_5 : zD cX6_closePairs 5 (.aload_n 0) 1 6 := ⟨by decide +kernel, rfl⟩
theorem dX6_closePairs_6 : zD cX6_closePairs 6 (.getfield 49) 3 9 := ⟨by decide +kernel, rfl⟩
theorem dX6_closePairs_9 : zD cX6_closePairs 9 (.if_icmp .ge 21) 3 12 := ⟨by decide +kernel, rfl⟩
theorem dX6_closePairs_12 : zD cX6_closePairs 12 (.iload_n 1) 1 13 := ⟨by decide +kernel, rfl⟩
theorem dX6_closePairs_13 : zD cX6_closePairs 13 (.aload_n 0) 1 14 := ⟨by decide +kernel, rfl⟩
theorem dX6_closePairs_14 : zD cX6_closePairs 14 (.getfield 32) 3 17 := ⟨by decide +kernel, rfl⟩
theorem dX6_closePairs_17 : zD cX6_closePairs 17 (.iload_n 2) 1 18 := ⟨by decide +kernel, rfl⟩
theorem dX6_closePairs_18 : zD cX6_closePairs 18 .iaload 1 19 := ⟨by decide +kernel, rfl⟩
theorem dX6_closePairs_19 : zD cX6_closePairs 19 (.invokestatic 76) 3 22 := ⟨by decide +kernel, rfl⟩
theorem dX6_closePairs_22 : zD cX6_closePairs 22 .iadd 1 23 := ⟨by decide +kernel, rfl⟩
theorem dX6_closePairs_23 : zD cX6_closePairs 23 (.istore_n 1) 1 24 := ⟨by decide +kernel, rfl⟩
theorem dX6_closePairs_24 : zD cX6_closePairs 24 (.iinc 2 1) 3 27 := ⟨by decide +kernel, rfl⟩
theorem dX6_closePairs_27 : zD cX6_closePairs 27 (.goto (-23)) 3 30 := ⟨by decide +kernel, rfl⟩
theorem dX6_closePairs_30 : zD cX6_closePairs 30 (.iload_n 1) 1 31 := ⟨by decide +kernel, rfl⟩
theorem dX6_closePairs_31 : zD cX6_closePairs 31 (.iconst 2) 1 32 := ⟨by decide +kernel, rfl⟩
theorem dX6_closePairs_32 : zD cX6_closePairs 32 .idiv 1 33 := ⟨by decide +kernel, rfl⟩
theorem dX6_closePairs_33 : zD cX6_closePairs 33 .ireturn 1 34 := ⟨by decide +kernel, rfl⟩
theorem dX6_toldBest_0 : zD cX6_toldBest 0 (.aload_n 0) 1 1 := ⟨by decide +kernel, rfl⟩
theorem dX6_toldBest_1 : zD cX6_toldBest 1 (.invokevirtual 113) 3 4 := ⟨by decide +kernel, rfl⟩
theorem dX6_toldBest_4 : zD cX6_toldBest 4 (.iload_n 1) 1 5 := ⟨by decide +kernel, rfl⟩
theorem dX6_toldBest_5 : zD cX6_toldBest 5 (.tableswitch 92 5 10 #[39, 44, 53, 62, 78, 87]) 39 44 := ⟨by decide +kernel, rfl⟩
theorem dX6_toldBest_44 : zD cX6_toldBest 44 (.aload_n 0) 1 45 := ⟨by decide +kernel, rfl⟩
theorem dX6_toldBest_45 : zD cX6_toldBest 45 (.getfield 94) 3 48 := ⟨by decide +kernel, rfl⟩
theorem dX6_toldBest_48 : zD cX6_toldBest 48 .ireturn 1 49 := ⟨by decide +kernel, rfl⟩
theorem dX6_toldBest_49 : zD cX6_toldBest 49 (.aload_n 0) 1 50 := ⟨by decide +kernel, rfl⟩
theorem dX6_toldBest_50 : zD cX6_toldBest 50 (.aload_n 0) 1 51 := ⟨by decide +kernel, rfl⟩
theorem dX6_toldBest_51 : zD cX6_toldBest 51 (.getfield 91) 3 54 := ⟨by decide +kernel, rfl⟩
theorem dX6_toldBest_54 : zD cX6_toldBest 54 (.invokevirtual 82) 3 57 := ⟨by decide +kernel, rfl⟩
theorem dX6_toldBest_57 : zD cX6_toldBest 57 .ireturn 1 58 := ⟨by decide +kernel, rfl⟩
theorem dX6_toldBest_58 : zD cX6_toldBest 58 (.aload_n 0) 1 59 := ⟨by decide +kernel, rfl⟩
theorem dX6_toldBest_59 : zD cX6_toldBest 59 (.aload_n 0) 1 60 := ⟨by decide +kernel, rfl⟩
theorem dX6_toldBest_60 : zD cX6_toldBest 60 (.getfield 91) 3 63 := ⟨by decide +kernel, rfl⟩
theorem dX6_toldBest_63 : zD cX6_toldBest 63 (.invokevirtual 79) 3 66 := ⟨by decide +kernel, rfl⟩
theorem dX6_toldBest_66 : zD cX6_toldBest 66 .ireturn 1 67 := ⟨by decide +kernel, rfl⟩
theorem dX6_toldBest_67 : zD cX6_toldBest 67 (.aload_n 0) 1 68 := ⟨by decide +kernel, rfl⟩
theorem dX6_toldBest_68 : zD cX6_toldBest 68 (.aload_n 0) 1 69 := ⟨by decide +kernel, rfl⟩
theorem dX6_toldBest_69 : zD cX6_toldBest 69 (.getfield 91) 3 72 := ⟨by decide +kernel, rfl⟩
theorem dX6_toldBest_72 : zD cX6_toldBest 72 (.iconst (-1)) 1 73 := ⟨by decide +kernel, rfl⟩
theorem dX6_toldBest_73 : zD cX6_toldBest 73 .ixor 1 74 := ⟨by decide +kernel, rfl⟩
theorem dX6_toldBest_74 : zD cX6_toldBest 74 (.aload_n 0) 1 75 := ⟨by decide +kernel, rfl⟩
theorem dX6_toldBest_75 : zD cX6_toldBest 75 (.invokevirtual 72) 3 78 := ⟨by decide +kernel, rfl⟩
theorem dX6_toldBest_78 : zD cX6_toldBest 78 .iand 1 79 := ⟨by decide +kernel, rfl⟩
theorem dX6_toldBest_79 : zD cX6_toldBest 79 (.invokevirtual 100) 3 82 := ⟨by decide +kernel, rfl⟩
theorem dX6_toldBest_82 : zD cX6_toldBest 82 .ireturn 1 83 := ⟨by decide +kernel, rfl⟩
theorem dX6_toldBest_83 : zD cX6_toldBest 83 (.aload_n 0) 1 84 := ⟨by decide +kernel, rfl⟩
theorem dX6_toldBest_84 : zD cX6_toldBest 84 (.aload_n 0) 1 85 := ⟨by decide +kernel, rfl⟩
theorem dX6_toldBest_85 : zD cX6_toldBest 85 (.getfield 91) 3 88 := ⟨by decide +kernel, rfl⟩
theorem dX6_toldBest_88 : zD cX6_toldBest 88 (.invokevirtual 100) 3 91 := ⟨by decide +kernel, rfl⟩
theorem dX6_toldBest_91 : zD cX6_toldBest 91 .ireturn 1 92 := ⟨by decide +kernel, rfl⟩
theorem dX6_toldBest_92 : zD cX6_toldBest 92 (.aload_n 0) 1 93 := ⟨by decide +kernel, rfl⟩
theorem dX6_toldBest_93 : zD cX6_toldBest 93 (.getfield 97) 3 96 := ⟨by decide +kernel, rfl⟩
theorem dX6_toldBest_96 : zD cX6_toldBest 96 .ireturn 1 97 := ⟨by decide +kernel, rfl⟩
theorem dX6_toldBest_97 : zD cX6_toldBest 97 (.aload_n 0) 1 98 := ⟨by decide +kernel, rfl⟩
theorem dX6_toldBest_98 : zD cX6_toldBest 98 (.getfield 91) 3 101 := ⟨by decide +kernel, rfl⟩
theorem dX6_toldBest_101 : zD cX6_toldBest 101 .ireturn 1 102 := ⟨by decide +kernel, rfl⟩
theorem dX6_toldParts_0 : zD cX6_toldParts 0 (.aload_n 0) 1 1 := ⟨by decide +kernel, rfl⟩
theorem dX6_toldParts_1 : zD cX6_toldParts 1 (.invokevirtual 88) 3 4 := ⟨by decide +kernel, rfl⟩
theorem dX6_toldParts_4 : zD cX6_toldParts 4 (.iload_n 1) 1 5 := ⟨by decide +kernel, rfl⟩
theorem dX6_toldParts_5 : zD cX6_toldParts 5 (.tableswitch 77 11 17 #[43, 48, 48, 57, 62, 67, 72]) 43 48 := ⟨by decide +kernel, rfl⟩
theorem dX6_toldParts_48 : zD cX6_toldParts 48 (.aload_n 0) 1 49 := ⟨by decide +kernel, rfl⟩
theorem dX6_toldParts_49 : zD cX6_toldParts 49 (.invokevirtual 218) 3 52 := ⟨by decide +kernel, rfl⟩
theorem dX6_toldParts_52 : zD cX6_toldParts 52 .ireturn 1 53 := ⟨by decide +kernel, rfl⟩
theorem dX6_toldParts_53 : zD cX6_toldParts 53 (.aload_n 0) 1 54 := ⟨by decide +kernel, rfl⟩
theorem dX6_toldParts_54 : zD cX6_toldParts 54 (.iload_n 1) 1 55 := ⟨by decide +kernel, rfl⟩
theorem dX6_toldParts_55 : zD cX6_toldParts 55 (.bipush 12) 2 57 := ⟨by decide +kernel, rfl⟩
theorem dX6_toldParts_57 : zD cX6_toldParts 57 .isub 1 58 := ⟨by decide +kernel, rfl⟩
theorem dX6_toldParts_58 : zD cX6_toldParts 58 (.invokevirtual 221) 3 61 := ⟨by decide +kernel, rfl⟩
theorem dX6_toldParts_61 : zD cX6_toldParts 61 .ireturn 1 62 := ⟨by decide +kernel, rfl⟩
theorem dX6_toldParts_62 : zD cX6_toldParts 62 (.aload_n 0) 1 63 := ⟨by decide +kernel, rfl⟩
theorem dX6_toldParts_63 : zD cX6_toldParts 63 (.invokevirtual 224) 3 66 := ⟨by decide +kernel, rfl⟩
theorem dX6_toldParts_66 : zD cX6_toldParts 66 .ireturn 1 67 := ⟨by decide +kernel, rfl⟩
theorem dX6_toldParts_67 : zD cX6_toldParts 67 (.aload_n 0) 1 68 := ⟨by decide +kernel, rfl⟩
theorem dX6_toldParts_68 : zD cX6_toldParts 68 (.invokevirtual 227) 3 71 := ⟨by decide +kernel, rfl⟩
theorem dX6_toldParts_71 : zD cX6_toldParts 71 .ireturn 1 72 := ⟨by decide +kernel, rfl⟩
theorem dX6_toldParts_72 : zD cX6_toldParts 72 (.aload_n 0) 1 73 := ⟨by decide +kernel, rfl⟩
theorem dX6_toldParts_73 : zD cX6_toldParts 73 (.invokevirtual 230) 3 76 := ⟨by decide +kernel, rfl⟩
theorem dX6_toldParts_76 : zD cX6_toldParts 76 .ireturn 1 77 := ⟨by decide +kernel, rfl⟩
theorem dX6_toldParts_77 : zD cX6_toldParts 77 (.aload_n 0) 1 78 := ⟨by decide +kernel, rfl⟩
theorem dX6_toldParts_78 : zD cX6_toldParts 78 (.invokevirtual 233) 3 81 := ⟨by decide +kernel, rfl⟩
theorem dX6_toldParts_81 : zD cX6_toldParts 81 .ireturn 1 82 := ⟨by decide +kernel, rfl⟩
theorem dX6_toldParts_82 : zD cX6_toldParts 82 (.aload_n 0) 1 83 := ⟨by decide +kernel, rfl⟩
theorem dX6_toldParts_83 : zD cX6_toldParts 83 (.invokevirtual 236) 3 86 := ⟨by decide +kernel, rfl⟩
theorem dX6_toldParts_86 : zD cX6_toldParts 86 .ireturn 1 87 := ⟨by decide +kernel, rfl⟩
theorem dX6_told_0 : zD cX6_told 0 (.iload_n 1) 1 1 := ⟨by decide +kernel, rfl⟩
theorem dX6_told_1 : zD cX6_told 1 (.ifCond .eq 8) 3 4 := ⟨by decide +kernel, rfl⟩
theorem dX6_told_4 : zD cX6_told 4 (.iload_n 1) 1 5 := ⟨by decide +kernel, rfl⟩
theorem dX6_told_5 : zD cX6_told 5 (.iconst 1) 1 6 := ⟨by decide +kernel, rfl⟩
theorem dX6_told_6 : zD cX6_told 6 (.if_icmp .ne 21) 3 9 := ⟨by decide +kernel, rfl⟩
theorem dX6_told_9 : zD cX6_told 9 (.iload_n 1) 1 10 := ⟨by decide +kernel, rfl⟩
theorem dX6_told_10 : zD cX6_told 10 (.ifCond .ne 12) 3 13 := ⟨by decide +kernel, rfl⟩
theorem dX6_told_13 : zD cX6_told 13 (.aload_n 0) 1 14 := ⟨by decide +kernel, rfl⟩
theorem dX6_told_14 : zD cX6_told 14 (.getfield 7) 3 17 := ⟨by decide +kernel, rfl⟩
theorem dX6_told_17 : zD cX6_told 17 (.iconst 0) 1 18 := ⟨by decide +kernel, rfl⟩
theorem dX6_told_18 : zD cX6_told 18 .iaload 1 19 := ⟨by decide +kernel, rfl⟩
theorem dX6_told_19 : zD cX6_told 19 (.goto 7) 3 22 := ⟨by decide +kernel, rfl⟩
theorem dX6_told_22 : zD cX6_told 22 (.aload_n 0) 1 23 := ⟨by decide +kernel, rfl⟩
theorem dX6_told_23 : zD cX6_told 23 (.invokevirtual 121) 3 26 := ⟨by decide +kernel, rfl⟩
theorem dX6_told_26 : zD cX6_told 26 .ireturn 1 27 := ⟨by decide +kernel, rfl⟩
theorem dX6_told_27 : zD cX6_told 27 (.iload_n 1) 1 28 := ⟨by decide +kernel, rfl⟩
theorem dX6_told_28 : zD cX6_told 28 .i2l 1 29 := ⟨by decide +kernel, rfl⟩
theorem dX6_told_29 : zD cX6_told 29 (.ldc2_w 181) 3 32 := ⟨by decide +kernel, rfl⟩
theorem dX6_told_32 : zD cX6_told 32 (.ldc2_w 239) 3 35 := ⟨by decide +kernel, rfl⟩
theorem dX6_told_35 : zD cX6_told 35 (.invokestatic 41) 3 38 := ⟨by decide +kernel, rfl⟩
theorem dX6_told_38 : zD cX6_told 38 (.ifCond .eq 15) 3 41 := ⟨by decide +kernel, rfl⟩
theorem dX6_told_41 : zD cX6_told 41 (.aload_n 0) 1 42 := ⟨by decide +kernel, rfl⟩
theorem dX6_told_42 : zD cX6_told 42 (.getfield 7) 3 45 := ⟨by decide +kernel, rfl⟩
theorem dX6_told_45 : zD cX6_told 45 (.bipush 61) 2 47 := ⟨by decide +kernel, rfl⟩
theorem dX6_told_47 : zD cX6_told 47 (.iload_n 1) 1 48 := ⟨by decide +kernel, rfl⟩
theorem dX6_told_48 : zD cX6_told 48 .iadd 1 49 := ⟨by decide +kernel, rfl⟩
theorem dX6_told_49 : zD cX6_told 49 (.iconst 2) 1 50 := ⟨by decide +kernel, rfl⟩
theorem dX6_told_50 : zD cX6_told 50 .isub 1 51 := ⟨by decide +kernel, rfl⟩
theorem dX6_told_51 : zD cX6_told 51 .iaload 1 52 := ⟨by decide +kernel, rfl⟩
theorem dX6_told_52 : zD cX6_told 52 .ireturn 1 53 := ⟨by decide +kernel, rfl⟩
theorem dX6_told_53 : zD cX6_told 53 (.iload_n 1) 1 54 := ⟨by decide +kernel, rfl⟩
theorem dX6_told_54 : zD cX6_told 54 .i2l 1 55 := ⟨by decide +kernel, rfl⟩
theorem dX6_told_55 : zD cX6_told 55 (.ldc2_w 241) 3 58 := ⟨by decide +kernel, rfl⟩
theorem dX6_told_58 : zD cX6_told 58 (.ldc2_w 243) 3 61 := ⟨by decide +kernel, rfl⟩
theorem dX6_told_61 : zD cX6_told 61 (.invokestatic 41) 3 64 := ⟨by decide +kernel, rfl⟩
theorem dX6_told_64 : zD cX6_told 64 (.ifCond .ne 9) 3 67 := ⟨by decide +kernel, rfl⟩
theorem dX6_told_67 : zD cX6_told 67 (.iload_n 1) 1 68 := ⟨by decide +kernel, rfl⟩
theorem dX6_told_68 : zD cX6_told 68 (.bipush 19) 2 70 := ⟨by decide +kernel, rfl⟩
theorem dX6_told_70 : zD cX6_told 70 (.if_icmp .ne 9) 3 73 := ⟨by decide +kernel, rfl⟩
theorem dX6_told_73 : zD cX6_told 73 (.aload_n 0) 1 74 := ⟨by decide +kernel, rfl⟩
theorem dX6_told_74 : zD cX6_told 74 (.iload_n 1) 1 75 := ⟨by decide +kernel, rfl⟩
theorem dX6_told_75 : zD cX6_told 75 (.invokevirtual 245) 3 78 := ⟨by decide +kernel, rfl⟩
theorem dX6_told_78 : zD cX6_told 78 .ireturn 1 79 := ⟨by decide +kernel, rfl⟩
theorem dX6_told_79 : zD cX6_told 79 (.iload_n 1) 1 80 := ⟨by decide +kernel, rfl⟩
theorem dX6_told_80 : zD cX6_told 80 .i2l 1 81 := ⟨by decide +kernel, rfl⟩
theorem dX6_told_81 : zD cX6_told 81 (.ldc2_w 248) 3 84 := ⟨by decide +kernel, rfl⟩
theorem dX6_told_84 : zD cX6_told 84 (.ldc2_w 250) 3 87 := ⟨by decide +kernel, rfl⟩
theorem dX6_told_87 : zD cX6_told 87 (.invokestatic 41) 3 90 := ⟨by decide +kernel, rfl⟩
theorem dX6_told_90 : zD cX6_told 90 (.ifCond .eq 11) 3 93 := ⟨by decide +kernel, rfl⟩
theorem dX6_told_93 : zD cX6_told 93 (.aload_n 0) 1 94 := ⟨by decide +kernel, rfl⟩
theorem dX6_told_94 : zD cX6_told 94 (.iload_n 1) 1 95 := ⟨by decide +kernel, rfl⟩
theorem dX6_told_95 : zD cX6_told 95 (.invokevirtual 252) 3 98 := ⟨by decide +kernel, rfl⟩
theorem dX6_told_98 : zD cX6_told 98 (.goto 18) 3 101 := ⟨by decide +kernel, rfl⟩
theorem dX6_told_101 : zD cX6_told 101 (.iload_n 1) 1 102 := ⟨by decide +kernel, rfl⟩
theorem dX6_told_102 : zD cX6_told 102 (.bipush 20) 2 104 := ⟨by decide +kernel, rfl⟩
theorem dX6_told_104 : zD cX6_told 104 (.if_icmp .ne 10) 3 107 := ⟨by decide +kernel, rfl⟩
theorem dX6_told_107 : zD cX6_told 107 (.aload_n 0) 1 108 := ⟨by decide +kernel, rfl⟩
theorem dX6_told_108 : zD cX6_told 108 (.getfield 116) 3 111 := ⟨by decide +kernel, rfl⟩
theorem dX6_told_111 : zD cX6_told 111 (.goto 5) 3 114 := ⟨by decide +kernel, rfl⟩
theorem dX6_told_114 : zD cX6_told 114 (.ldc 132) 2 116 := ⟨by decide +kernel, rfl⟩
theorem dX6_told_116 : zD cX6_told 116 .ireturn 1 117 := ⟨by decide +kernel, rfl⟩
theorem dX6_firstPiece_0 : zD cX6_firstPiece 0 (.iconst 0) 1 1 := ⟨by decide +kernel, rfl⟩
theorem dX6_firstPiece_1 : zD cX6_firstPiece 1 (.istore_n 2) 1 2 := ⟨by decide +kernel, rfl⟩
theorem dX6_firstPiece_2 : zD cX6_firstPiece 2 (.iconst 0) 1 3 := ⟨by decide +kernel, rfl⟩
theorem dX6_firstPiece_3 : zD cX6_firstPiece 3 (.istore_n 3) 1 4 := ⟨by decide +kernel, rfl⟩
theorem dX6_firstPiece_4 : zD cX6_firstPiece 4 (.iload_n 3) 1 5 := ⟨by decide +kernel, rfl⟩
theorem dX6_firstPiece_5 : zD cX6_firstPiece 5 (.iload_n 1) 1 6 := ⟨by decide +kernel, rfl⟩
theorem dX6_firstPiece_6 : zD cX6_firstPiece 6 (.if_icmp .ge 19) 3 9 := ⟨by decide +kernel, rfl⟩
theorem dX6_firstPiece_9 : zD cX6_firstPiece 9 (.iload_n 2) 1 10 := ⟨by decide +kernel, rfl⟩
theorem dX6_firstPiece_10 : zD cX6_firstPiece 10 (.iconst 1) 1 11 := ⟨by decide +kernel, rfl⟩
theorem dX6_firstPiece_11 : zD cX6_firstPiece 11 (.aload_n 0) 1 12 := ⟨by decide +kernel, rfl⟩
theorem dX6_firstPiece_12 : zD cX6_firstPiece 12 (.iload_n 3) 1 13 := ⟨by decide +kernel, rfl⟩
theorem dX6_firstPiece_13 : zD cX6_firstPiece 13 (.invokevirtual 64) 3 16 := ⟨by decide +kernel, rfl⟩
theorem dX6_firstPiece_16 : zD cX6_firstPiece 16 .iadd 1 17 := ⟨by decide +kernel, rfl⟩
theorem dX6_firstPiece_17 : zD cX6_firstPiece 17 .iadd 1 18 := ⟨by decide +kernel, rfl⟩
theorem dX6_firstPiece_18 : zD cX6_firstPiece 18 (.istore_n 2) 1 19 := ⟨by decide +kernel, rfl⟩
theorem dX6_firstPiece_19 : zD cX6_firstPiece 19 (.iinc 3 1) 3 22 := ⟨by decide +kernel, rfl⟩
theorem dX6_firstPiece_22 : zD cX6_firstPiece 22 (.goto (-18)) 3 25 := ⟨by decide +kernel, rfl⟩
theorem dX6_firstPiece_25 : zD cX6_firstPiece 25 (.iload_n 2) 1 26 := ⟨by decide +kernel, rfl⟩
theorem dX6_firstPiece_26 : zD cX6_firstPiece 26 .ireturn 1 27 := ⟨by decide +kernel, rfl⟩
theorem dX6_ofShape_0 : zD cX6_ofShape 0 (.aload_n 0) 1 1 := ⟨by decide +kernel, rfl⟩
theorem dX6_ofShape_1 : zD cX6_ofShape 1 (.iload_n 1) 1 2 := ⟨by decide +kernel, rfl⟩
theorem dX6_ofShape_2 : zD cX6_ofShape 2 (.invokevirtual 153) 3 5 := ⟨by decide +kernel, rfl⟩
theorem dX6_ofShape_5 : zD cX6_ofShape 5 (.ifCond .ne 6) 3 8 := ⟨by decide +kernel, rfl⟩
theorem dX6_ofShape_8 : zD cX6_ofShape 8 (.ldc 156) 2 10 := ⟨by decide +kernel, rfl⟩
theorem dX6_ofShape_10 : zD cX6_ofShape 10 .ireturn 1 11 := ⟨by decide +kernel, rfl⟩
theorem dX6_ofShape_11 : zD cX6_ofShape 11 (.iload_n 2) 1 12 := ⟨by decide +kernel, rfl⟩
theorem dX6_ofShape_12 : zD cX6_ofShape 12 (.tableswitch 88 0 8 #[52, 52, 52, 52, 59, 65, 71, 77, 77]) 52 64 := ⟨by decide +kernel, rfl⟩
theorem dX6_ofShape_64 : zD cX6_ofShape 64 (.aload_n 0) 1 65 := ⟨by decide +kernel, rfl⟩
theorem dX6_ofShape_65 : zD cX6_ofShape 65 (.iload_n 1) 1 66 := ⟨by decide +kernel, rfl⟩
theorem dX6_ofShape_66 : zD cX6_ofShape 66 (.iload_n 2) 1 67 := ⟨by decide +kernel, rfl⟩
theorem dX6_ofShape_67 : zD cX6_ofShape 67 (.invokevirtual 45) 3 70 := ⟨by decide +kernel, rfl⟩
theorem dX6_ofShape_70 : zD cX6_ofShape 70 .ireturn 1 71 := ⟨by decide +kernel, rfl⟩
theorem dX6_ofShape_71 : zD cX6_ofShape 71 (.aload_n 0) 1 72 := ⟨by decide +kernel, rfl⟩
theorem dX6_ofShape_72 : zD cX6_ofShape 72 (.iload_n 1) 1 73 := ⟨by decide +kernel, rfl⟩
theorem dX6_ofShape_73 : zD cX6_ofShape 73 (.invokevirtual 169) 3 76 := ⟨by decide +kernel, rfl⟩
theorem dX6_ofShape_76 : zD cX6_ofShape 76 .ireturn 1 77 := ⟨by decide +kernel, rfl⟩
theorem dX6_ofShape_77 : zD cX6_ofShape 77 (.aload_n 0) 1 78 := ⟨by decide +kernel, rfl⟩
theorem dX6_ofShape_78 : zD cX6_ofShape 78 (.iload_n 1) 1 79 := ⟨by decide +kernel, rfl⟩
theorem dX6_ofShape_79 : zD cX6_ofShape 79 (.invokevirtual 64) 3 82 := ⟨by decide +kernel, rfl⟩
theorem dX6_ofShape_82 : zD cX6_ofShape 82 .ireturn 1 83 := ⟨by decide +kernel, rfl⟩
theorem dX6_ofShape_83 : zD cX6_ofShape 83 (.aload_n 0) 1 84 := ⟨by decide +kernel, rfl⟩
theorem dX6_ofShape_84 : zD cX6_ofShape 84 (.iload_n 1) 1 85 := ⟨by decide +kernel, rfl⟩
theorem dX6_ofShape_85 : zD cX6_ofShape 85 (.invokevirtual 255) 3 88 := ⟨by decide +kernel, rfl⟩
theorem dX6_ofShape_88 : zD cX6_ofShape 88 .ireturn 1 89 := ⟨by decide +kernel, rfl⟩
theorem dX6_ofShape_89 : zD cX6_ofShape 89 (.aload_n 0) 1 90 := ⟨by decide +kernel, rfl⟩
theorem dX6_ofShape_90 : zD cX6_ofShape 90 (.iload_n 1) 1 91 := ⟨by decide +kernel, rfl⟩
theorem dX6_ofShape_91 : zD cX6_ofShape 91 (.iload_n 2) 1 92 := ⟨by decide +kernel, rfl⟩
theorem dX6_ofShape_92 : zD cX6_ofShape 92 (.iconst 3) 1 93 := ⟨by decide +kernel, rfl⟩
theorem dX6_ofShape_93 : zD cX6_ofShape 93 .isub 1 94 := ⟨by decide +kernel, rfl⟩
theorem dX6_ofShape_94 : zD cX6_ofShape 94 (.invokevirtual 45) 3 97 := ⟨by decide +kernel, rfl⟩
theorem dX6_ofShape_97 : zD cX6_ofShape 97 (.iconst 1) 1 98 := ⟨by decide +kernel, rfl⟩
theorem dX6_ofShape_98 : zD cX6_ofShape 98 .isub 1 99 := ⟨by decide +kernel, rfl⟩
theorem dX6_ofShape_99 : zD cX6_ofShape 99 .ireturn 1 100 := ⟨by decide +kernel, rfl⟩
theorem dX6_ofShape_100 : zD cX6_ofShape 100 (.ldc 132) 2 102 := ⟨by decide +kernel, rfl⟩
theorem dX6_ofShape_102 : zD cX6_ofShape 102 .ireturn 1 103 := ⟨by decide +kernel, rfl⟩
theorem dX6_ofPiece_0 : zD cX6_ofPiece 0 (.aload_n 0) 1 1 := ⟨by decide +kernel, rfl⟩
theorem dX6_ofPiece_1 : zD cX6_ofPiece 1 (.invokevirtual 88) 3 4 := ⟨by decide +kernel, rfl⟩
theorem dX6_ofPiece_4 : zD cX6_ofPiece 4 (.iload_n 1) 1 5 := ⟨by decide +kernel, rfl⟩
theorem dX6_ofPiece_5 : zD cX6_ofPiece 5 .i2l 1 6 := ⟨by decide +kernel, rfl⟩
theorem dX6_ofPiece_6 : zD cX6_ofPiece 6 (.lconst 0) 1 7 := ⟨by decide +kernel, rfl⟩
theorem dX6_ofPiece_7 : zD cX6_ofPiece 7 (.aload_n 0) 1 8 := ⟨by decide +kernel, rfl⟩
theorem dX6_ofPiece_8 : zD cX6_ofPiece 8 (.getfield 49) 3 11 := ⟨by decide +kernel, rfl⟩
theorem dX6_ofPiece_11 : zD cX6_ofPiece 11 (.iconst 1) 1 12 := ⟨by decide +kernel, rfl⟩
theorem dX6_ofPiece_12 : zD cX6_ofPiece 12 .isub 1 13 := ⟨by decide +kernel, rfl⟩
theorem dX6_ofPiece_13 : zD cX6_ofPiece 13 .i2l 1 14 := ⟨by decide +kernel, rfl⟩
theorem dX6_ofPiece_14 : zD cX6_ofPiece 14 (.invokestatic 41) 3 17 := ⟨by decide +kernel, rfl⟩
theorem dX6_ofPiece_17 : zD cX6_ofPiece 17 (.ifCond .ne 6) 3 20 := ⟨by decide +kernel, rfl⟩
theorem dX6_ofPiece_20 : zD cX6_ofPiece 20 (.ldc 156) 2 22 := ⟨by decide +kernel, rfl⟩
theorem dX6_ofPiece_22 : zD cX6_ofPiece 22 .ireturn 1 23 := ⟨by decide +kernel, rfl⟩
theorem dX6_ofPiece_23 : zD cX6_ofPiece 23 (.iload_n 2) 1 24 := ⟨by decide +kernel, rfl⟩
theorem dX6_ofPiece_24 : zD cX6_ofPiece 24 (.tableswitch 111 0 7 #[48, 55, 62, 69, 75, 86, 98, 105]) 48 72 := ⟨by decide +kernel, rfl⟩
theorem dX6_ofPiece_72 : zD cX6_ofPiece 72 (.aload_n 0) 1 73 := ⟨by decide +kernel, rfl⟩
theorem dX6_ofPiece_73 : zD cX6_ofPiece 73 (.getfield 23) 3 76 := ⟨by decide +kernel, rfl⟩
theorem dX6_ofPiece_76 : zD cX6_ofPiece 76 (.iload_n 1) 1 77 := ⟨by decide +kernel, rfl⟩
theorem dX6_ofPiece_77 : zD cX6_ofPiece 77 .iaload 1 78 := ⟨by decide +kernel, rfl⟩
theorem dX6_ofPiece_78 : zD cX6_ofPiece 78 .ireturn 1 79 := ⟨by decide +kernel, rfl⟩
theorem dX6_ofPiece_79 : zD cX6_ofPiece 79 (.aload_n 0) 1 80 := ⟨by decide +kernel, rfl⟩
theorem dX6_ofPiece_80 : zD cX6_ofPiece 80 (.getfield 26) 3 83 := ⟨by decide +kernel, rfl⟩
theorem dX6_ofPiece_83 : zD cX6_ofPiece 83 (.iload_n 1) 1 84 := ⟨by decide +kernel, rfl⟩
theorem dX6_ofPiece_84 : zD cX6_ofPiece 84 .iaload 1 85 := ⟨by decide +kernel, rfl⟩
theorem dX6_ofPiece_85 : zD cX6_ofPiece 85 .ireturn 1 86 := ⟨by decide +kernel, rfl⟩
theorem dX6_ofPiece_86 : zD cX6_ofPiece 86 (.aload_n 0) 1 87 := ⟨by decide +kernel, rfl⟩
theorem dX6_ofPiece_87 : zD cX6_ofPiece 87 (.getfield 29) 3 90 := ⟨by decide +kernel, rfl⟩
theorem dX6_ofPiece_90 : zD cX6_ofPiece 90 (.iload_n 1) 1 91 := ⟨by decide +kernel, rfl⟩
theorem dX6_ofPiece_91 : zD cX6_ofPiece 91 .iaload 1 92 := ⟨by decide +kernel, rfl⟩
theorem dX6_ofPiece_92 : zD cX6_ofPiece 92 .ireturn 1 93 := ⟨by decide +kernel, rfl⟩
theorem dX6_ofPiece_93 : zD cX6_ofPiece 93 (.aload_n 0) 1 94 := ⟨by decide +kernel, rfl⟩
theorem dX6_ofPiece_94 : zD cX6_ofPiece 94 (.iload_n 1) 1 95 := ⟨by decide +kernel, rfl⟩
theorem dX6_ofPiece_95 : zD cX6_ofPiece 95 (.invokevirtual 85) 3 98 := ⟨by decide +kernel, rfl⟩
theorem dX6_ofPiece_98 : zD cX6_ofPiece 98 .ireturn 1 99 := ⟨by decide +kernel, rfl⟩
theorem dX6_ofPiece_99 : zD cX6_ofPiece 99 (.aload_n 0) 1 100 := ⟨by decide +kernel, rfl⟩
theorem dX6_ofPiece_100 : zD cX6_ofPiece 100 (.bipush 19) 2 102 := ⟨by decide +kernel, rfl⟩
theorem dX6_ofPiece_102 : zD cX6_ofPiece 102 (.invokevirtual 245) 3 105 := ⟨by decide +kernel, rfl⟩
theorem dX6_ofPiece_105 : zD cX6_ofPiece 105 (.iload_n 1) 1 106 := ⟨by decide +kernel, rfl⟩
theorem dX6_ofPiece_106 : zD cX6_ofPiece 106 .ishr 1 107 := ⟨by decide +kernel, rfl⟩
theorem dX6_ofPiece_107 : zD cX6_ofPiece 107 (.iconst 1) 1 108 := ⟨by decide +kernel, rfl⟩
theorem dX6_ofPiece_108 : zD cX6_ofPiece 108 .iand 1 109 := ⟨by decide +kernel, rfl⟩
theorem dX6_ofPiece_109 : zD cX6_ofPiece 109 .ireturn 1 110 := ⟨by decide +kernel, rfl⟩
theorem dX6_ofPiece_110 : zD cX6_ofPiece 110 (.aload_n 0) 1 111 := ⟨by decide +kernel, rfl⟩
theorem dX6_ofPiece_111 : zD cX6_ofPiece 111 (.getfield 7) 3 114 := ⟨by decide +kernel, rfl⟩
theorem dX6_ofPiece_114 : zD cX6_ofPiece 114 (.bipush 64) 2 116 := ⟨by decide +kernel, rfl⟩
theorem dX6_ofPiece_116 : zD cX6_ofPiece 116 (.iload_n 1) 1 117 := ⟨by decide +kernel, rfl⟩
theorem dX6_ofPiece_117 : zD cX6_ofPiece 117 .iadd 1 118 := ⟨by decide +kernel, rfl⟩
theorem dX6_ofPiece_118 : zD cX6_ofPiece 118 .iaload 1 119 := ⟨by decide +kernel, rfl⟩
theorem dX6_ofPiece_119 : zD cX6_ofPiece 119 (.iconst 1) 1 120 := ⟨by decide +kernel, rfl⟩
theorem dX6_ofPiece_120 : zD cX6_ofPiece 120 .isub 1 121 := ⟨by decide +kernel, rfl⟩
theorem dX6_ofPiece_121 : zD cX6_ofPiece 121 .ireturn 1 122 := ⟨by decide +kernel, rfl⟩
theorem dX6_ofPiece_122 : zD cX6_ofPiece 122 (.aload_n 0) 1 123 := ⟨by decide +kernel, rfl⟩
theorem dX6_ofPiece_123 : zD cX6_ofPiece 123 (.getfield 32) 3 126 := ⟨by decide +kernel, rfl⟩
theorem dX6_ofPiece_126 : zD cX6_ofPiece 126 (.iload_n 1) 1 127 := ⟨by decide +kernel, rfl⟩
theorem dX6_ofPiece_127 : zD cX6_ofPiece 127 .iaload 1 128 := ⟨by decide +kernel, rfl⟩
theorem dX6_ofPiece_128 : zD cX6_ofPiece 128 .ireturn 1 129 := ⟨by decide +kernel, rfl⟩
theorem dX6_ofPiece_129 : zD cX6_ofPiece 129 (.aload_n 0) 1 130 := ⟨by decide +kernel, rfl⟩
theorem dX6_ofPiece_130 : zD cX6_ofPiece 130 (.iload_n 1) 1 131 := ⟨by decide +kernel, rfl⟩
theorem dX6_ofPiece_131 : zD cX6_ofPiece 131 (.invokevirtual 212) 3 134 := ⟨by decide +kernel, rfl⟩
theorem dX6_ofPiece_134 : zD cX6_ofPiece 134 .ireturn 1 135 := ⟨by decide +kernel, rfl⟩
theorem dX6_ofPiece_135 : zD cX6_ofPiece 135 (.ldc 132) 2 137 := ⟨by decide +kernel, rfl⟩
theorem dX6_ofPiece_137 : zD cX6_ofPiece 137 .ireturn 1 138 := ⟨by decide +kernel, rfl⟩
theorem dX6_areTwo_0 : zD cX6_areTwo 0 (.aload_n 0) 1 1 := ⟨by decide +kernel, rfl⟩
theorem dX6_areTwo_1 : zD cX6_areTwo 1 (.invokevirtual 88) 3 4 := ⟨by decide +kernel, rfl⟩
theorem dX6_areTwo_4 : zD cX6_areTwo 4 (.iload_n 1) 1 5 := ⟨by decide +kernel, rfl⟩
theorem dX6_areTwo_5 : zD cX6_areTwo 5 .i2l 1 6 := ⟨by decide +kernel, rfl⟩
theorem dX6_areTwo_6 : zD cX6_areTwo 6 (.lconst 0) 1 7 := ⟨by decide +kernel, rfl⟩
theorem dX6_areTwo_7 : zD cX6_areTwo 7 (.aload_n 0) 1 8 := ⟨by decide +kernel, rfl⟩
theorem dX6_areTwo_8 : zD cX6_areTwo 8 (.getfield 49) 3 11 := ⟨by decide +kernel, rfl⟩
theorem dX6_areTwo_11 : zD cX6_areTwo 11 (.iconst 1) 1 12 := ⟨by decide +kernel, rfl⟩
theorem dX6_areTwo_12 : zD cX6_areTwo 12 .isub 1 13 := ⟨by decide +kernel, rfl⟩
theorem dX6_areTwo_13 : zD cX6_areTwo 13 .i2l 1 14 := ⟨by decide +kernel, rfl⟩
theorem dX6_areTwo_14 : zD cX6_areTwo 14 (.invokestatic 41) 3 17 := ⟨by decide +kernel, rfl⟩
theorem dX6_areTwo_17 : zD cX6_areTwo 17 (.ifCond .eq 28) 3 20 := ⟨by decide +kernel, rfl⟩
theorem dX6_areTwo_20 : zD cX6_areTwo 20 (.iload_n 2) 1 21 := ⟨by decide +kernel, rfl⟩
theorem dX6_areTwo_21 : zD cX6_areTwo 21 .i2l 1 22 := ⟨by decide +kernel, rfl⟩
theorem dX6_areTwo_22 : zD cX6_areTwo 22 (.lconst 0) 1 23 := ⟨by decide +kernel, rfl⟩
theorem dX6_areTwo_23 : zD cX6_areTwo 23 (.aload_n 0) 1 24 := ⟨by decide +kernel, rfl⟩
theorem dX6_areTwo_24 : zD cX6_areTwo 24 (.getfield 49) 3 27 := ⟨by decide +kernel, rfl⟩
theorem dX6_areTwo_27 : zD cX6_areTwo 27 (.iconst 1) 1 28 := ⟨by decide +kernel, rfl⟩
theorem dX6_areTwo_28 : zD cX6_areTwo 28 .isub 1 29 := ⟨by decide +kernel, rfl⟩
theorem dX6_areTwo_29 : zD cX6_areTwo 29 .i2l 1 30 := ⟨by decide +kernel, rfl⟩
theorem dX6_areTwo_30 : zD cX6_areTwo 30 (.invokestatic 41) 3 33 := ⟨by decide +kernel, rfl⟩
theorem dX6_areTwo_33 : zD cX6_areTwo 33 (.ifCond .eq 12) 3 36 := ⟨by decide +kernel, rfl⟩
theorem dX6_areTwo_36 : zD cX6_areTwo 36 (.iload_n 1) 1 37 := ⟨by decide +kernel, rfl⟩
theorem dX6_areTwo_37 : zD cX6_areTwo 37 (.iload_n 2) 1 38 := ⟨by decide +kernel, rfl⟩
theorem dX6_areTwo_38 : zD cX6_areTwo 38 (.if_icmp .eq 7) 3 41 := ⟨by decide +kernel, rfl⟩
theorem dX6_areTwo_41 : zD cX6_areTwo 41 (.iconst 1) 1 42 := ⟨by decide +kernel, rfl⟩
theorem dX6_areTwo_42 : zD cX6_areTwo 42 (.goto 4) 3 45 := ⟨by decide +kernel, rfl⟩
theorem dX6_areTwo_45 : zD cX6_areTwo 45 (.iconst 0) 1 46 := ⟨by decide +kernel, rfl⟩
theorem dX6_areTwo_46 : zD cX6_areTwo 46 .ireturn 1 47 := ⟨by decide +kernel, rfl⟩
theorem dX6_gap_0 : zD cX6_gap 0 (.aload_n 0) 1 1 := ⟨by decide +kernel, rfl⟩
theorem dX6_gap_1 : zD cX6_gap 1 (.iload_n 1) 1 2 := ⟨by decide +kernel, rfl⟩
theorem dX6_gap_2 : zD cX6_gap 2 (.iload_n 2) 1 3 := ⟨by decide +kernel, rfl⟩
theorem dX6_gap_3 : zD cX6_gap 3 (.invokevirtual 258) 3 6 := ⟨by decide +kernel, rfl⟩
theorem dX6_gap_6 : zD cX6_gap 6 (.ifCond .eq 12) 3 9 := ⟨by decide +kernel, rfl⟩
theorem dX6_gap_9 : zD cX6_gap 9 (.aload_n 0) 1 10 := ⟨by decide +kernel, rfl⟩
theorem dX6_gap_10 : zD cX6_gap 10 (.iload_n 1) 1 11 := ⟨by decide +kernel, rfl⟩
theorem dX6_gap_11 : zD cX6_gap 11 (.iload_n 2) 1 12 := ⟨by decide +kernel, rfl⟩
theorem dX6_gap_12 : zD cX6_gap 12 (.invokevirtual 61) 3 15 := ⟨by decide +kernel, rfl⟩
theorem dX6_gap_15 : zD cX6_gap 15 (.goto 5) 3 18 := ⟨by decide +kernel, rfl⟩
theorem dX6_gap_18 : zD cX6_gap 18 (.ldc 156) 2 20 := ⟨by decide +kernel, rfl⟩
theorem dX6_gap_20 : zD cX6_gap 20 .ireturn 1 21 := ⟨by decide +kernel, rfl⟩
theorem dX6_at_0 : zD cX6_at 0 (.iload_n 1) 1 1 := ⟨by decide +kernel, rfl⟩
theorem dX6_at_1 : zD cX6_at 1 .i2l 1 2 := ⟨by decide +kernel, rfl⟩
theorem dX6_at_2 : zD cX6_at 2 (.lconst 0) 1 3 := ⟨by decide +kernel, rfl⟩
theorem dX6_at_3 : zD cX6_at 3 (.ldc2_w 119) 3 6 := ⟨by decide +kernel, rfl⟩
theorem dX6_at_6 : zD cX6_at 6 (.invokestatic 41) 3 9 := ⟨by decide +kernel, rfl⟩
theorem dX6_at_9 : zD cX6_at 9 (.ifCond .eq 15) 3 12 := ⟨by decide +kernel, rfl⟩
theorem dX6_at_12 : zD cX6_at 12 (.iload_n 2) 1 13 := ⟨by decide +kernel, rfl⟩
theorem dX6_at_13 : zD cX6_at 13 .i2l 1 14 := ⟨by decide +kernel, rfl⟩
theorem dX6_at_14 : zD cX6_at 14 (.lconst 0) 1 15 := ⟨by decide +kernel, rfl⟩
theorem dX6_at_15 : zD cX6_at 15 (.ldc2_w 119) 3 18 := ⟨by decide +kernel, rfl⟩
theorem dX6_at_18 : zD cX6_at 18 (.invokestatic 41) 3 21 := ⟨by decide +kernel, rfl⟩
theorem dX6_at_21 : zD cX6_at 21 (.ifCond .ne 6) 3 24 := ⟨by decide +kernel, rfl⟩
theorem dX6_at_24 : zD cX6_at 24 (.ldc 132) 2 26 := ⟨by decide +kernel, rfl⟩
theorem dX6_at_26 : zD cX6_at 26 .ireturn 1 27 := ⟨by decide +kernel, rfl⟩
theorem dX6_at_27 : zD cX6_at 27 (.aload_n 0) 1 28 := ⟨by decide +kernel, rfl⟩
theorem dX6_at_28 : zD cX6_at 28 (.invokevirtual 88) 3 31 := ⟨by decide +kernel, rfl⟩
theorem dX6_at_31 : zD cX6_at 31 (.iconst (-1)) 1 32 := ⟨by decide +kernel, rfl⟩
theorem dX6_at_32 : zD cX6_at 32 (.istore_n 3) 1 33 := ⟨by decide +kernel, rfl⟩
theorem dX6_at_33 : zD cX6_at 33 (.iconst 0) 1 34 := ⟨by decide +kernel, rfl⟩
theorem dX6_at_34 : zD cX6_at 34 (.istore 4) 2 36 := ⟨by decide +kernel, rfl⟩
theorem dX6_at_36 : zD cX6_at 36 (.iload 4) 2 38 := ⟨by decide +kernel, rfl⟩
theorem dX6_at_38 : zD cX6_at 38 (.aload_n 0) 1 39 := ⟨by decide +kernel, rfl⟩
theorem dX6_at_39 : zD cX6_at 39 (.getfield 49) 3 42 := ⟨by decide +kernel, rfl⟩
theorem dX6_at_42 : zD cX6_at 42 (.if_icmp .ge 86) 3 45 := ⟨by decide +kernel, rfl⟩
theorem dX6_at_45 : zD cX6_at 45 (.iload_n 1) 1 46 := ⟨by decide +kernel, rfl⟩
theorem dX6_at_46 : zD cX6_at 46 .i2l 1 47 := ⟨by decide +kernel, rfl⟩
theorem dX6_at_47 : zD cX6_at 47 (.aload_n 0) 1 48 := ⟨by decide +kernel, rfl⟩
theorem dX6_at_48 : zD cX6_at 48 (.getfield 26) 3 51 := ⟨by decide +kernel, rfl⟩
theorem dX6_at_51 : zD cX6_at 51 (.iload 4) 2 53 := ⟨by decide +kernel, rfl⟩
theorem dX6_at_53 : zD cX6_at 53 .iaload 1 54 := ⟨by decide +kernel, rfl⟩
theorem dX6_at_54 : zD cX6_at 54 .i2l 1 55 := ⟨by decide +kernel, rfl⟩
theorem dX6_at_55 : zD cX6_at 55 (.aload_n 0) 1 56 := ⟨by decide +kernel, rfl⟩
theorem dX6_at_56 : zD cX6_at 56 (.getfield 29) 3 59 := ⟨by decide +kernel, rfl⟩
theorem dX6_at_59 : zD cX6_at 59 (.iload 4) 2 61 := ⟨by decide +kernel, rfl⟩
theorem dX6_at_61 : zD cX6_at 61 .iaload 1 62 := ⟨by decide +kernel, rfl⟩
theorem dX6_at_62 : zD cX6_at 62 .i2l 1 63 := ⟨by decide +kernel, rfl⟩
theorem dX6_at_63 : zD cX6_at 63 (.invokestatic 41) 3 66 := ⟨by decide +kernel, rfl⟩
theorem dX6_at_66 : zD cX6_at 66 (.ifCond .eq 41) 3 69 := ⟨by decide +kernel, rfl⟩
theorem dX6_at_69 : zD cX6_at 69 (.iload_n 2) 1 70 := ⟨by decide +kernel, rfl⟩
theorem dX6_at_70 : zD cX6_at 70 .i2l 1 71 := ⟨by decide +kernel, rfl⟩
theorem dX6_at_71 : zD cX6_at 71 (.aload_n 0) 1 72 := ⟨by decide +kernel, rfl⟩
theorem dX6_at_72 : zD cX6_at 72 (.aload_n 0) 1 73 := ⟨by decide +kernel, rfl⟩
theorem dX6_at_73 : zD cX6_at 73 (.getfield 23) 3 76 := ⟨by decide +kernel, rfl⟩
theorem dX6_at_76 : zD cX6_at 76 (.iload 4) 2 78 := ⟨by decide +kernel, rfl⟩
theorem dX6_at_78 : zD cX6_at 78 .iaload 1 79 := ⟨by decide +kernel, rfl⟩
theorem dX6_at_79 : zD cX6_at 79 (.iconst 1) 1 80 := ⟨by decide +kernel, rfl⟩
theorem dX6_at_80 : zD cX6_at 80 (.invokevirtual 45) 3 83 := ⟨by decide +kernel, rfl⟩
theorem dX6_at_83 : zD cX6_at 83 .i2l 1 84 := ⟨by decide +kernel, rfl⟩
theorem dX6_at_84 : zD cX6_at 84 (.aload_n 0) 1 85 := ⟨by decide +kernel, rfl⟩
theorem dX6_at_85 : zD cX6_at 85 (.aload_n 0) 1 86 := ⟨by decide +kernel, rfl⟩
theorem dX6_at_86 : zD cX6_at 86 (.getfield 23) 3 89 := ⟨by decide +kernel, rfl⟩
theorem dX6_at_89 : zD cX6_at 89 (.iload 4) 2 91 := ⟨by decide +kernel, rfl⟩
theorem dX6_at_91 : zD cX6_at 91 .iaload 1 92 := ⟨by decide +kernel, rfl⟩
theorem dX6_at_92 : zD cX6_at 92 (.iconst 3) 1 93 := ⟨by decide +kernel, rfl⟩
theorem dX6_at_93 : zD cX6_at 93 (.invokevirtual 45) 3 96 := ⟨by decide +kernel, rfl⟩
theorem dX6_at_96 : zD cX6_at 96 .i2l 1 97 := ⟨by decide +kernel, rfl⟩
theorem dX6_at_97 : zD cX6_at 97 (.invokestatic 41) 3 100 := ⟨by decide +kernel, rfl⟩
theorem dX6_at_100 : zD cX6_at 100 (.ifCond .eq 7) 3 103 := ⟨by decide +kernel, rfl⟩
theorem dX6_at_103 : zD cX6_at 103 (.iconst 1) 1 104 := ⟨by decide +kernel, rfl⟩
theorem dX6_at_104 : zD cX6_at 104 (.goto 4) 3 107 := ⟨by decide +kernel, rfl⟩
theorem dX6_at_107 : zD cX6_at 107 (.iconst 0) 1 108 := ⟨by decide +kernel, rfl⟩
theorem dX6_at_108 : zD cX6_at 108 (.istore 5) 2 110 := ⟨by decide +kernel, rfl⟩
theorem dX6_at_110 : zD cX6_at 110 (.iload 5) 2 112 := ⟨by decide +kernel, rfl⟩
theorem dX6_at_112 : zD cX6_at 112 (.ifCond .eq 8) 3 115 := ⟨by decide +kernel, rfl⟩
theorem dX6_at_115 : zD cX6_at 115 (.iload 4) 2 117 := ⟨by decide +kernel, rfl⟩
theorem dX6_at_117 : zD cX6_at 117 (.goto 4) 3 120 := ⟨by decide +kernel, rfl⟩
theorem dX6_at_120 : zD cX6_at 120 (.iload_n 3) 1 121 := ⟨by decide +kernel, rfl⟩
theorem dX6_at_121 : zD cX6_at 121 (.istore_n 3) 1 122 := ⟨by decide +kernel, rfl⟩
theorem dX6_at_122 : zD cX6_at 122 (.iinc 4 1) 3 125 := ⟨by decide +kernel, rfl⟩
theorem dX6_at_125 : zD cX6_at 125 (.goto (-89)) 3 128 := ⟨by decide +kernel, rfl⟩
theorem dX6_at_128 : zD cX6_at 128 (.iload_n 3) 1 129 := ⟨by decide +kernel, rfl⟩
theorem dX6_at_129 : zD cX6_at 129 .ireturn 1 130 := ⟨by decide +kernel, rfl⟩
theorem dX6_judge_0 : zD cX6_judge 0 (.aload_n 0) 1 1 := ⟨by decide +kernel, rfl⟩
theorem dX6_judge_1 : zD cX6_judge 1 (.invokevirtual 88) 3 4 := ⟨by decide +kernel, rfl⟩
theorem dX6_judge_4 : zD cX6_judge 4 (.iload_n 1) 1 5 := ⟨by decide +kernel, rfl⟩
theorem dX6_judge_5 : zD cX6_judge 5 .i2l 1 6 := ⟨by decide +kernel, rfl⟩
theorem dX6_judge_6 : zD cX6_judge 6 (.lconst 0) 1 7 := ⟨by decide +kernel, rfl⟩
theorem dX6_judge_7 : zD cX6_judge 7 (.aload_n 0) 1 8 := ⟨by decide +kernel, rfl⟩
theorem dX6_judge_8 : zD cX6_judge 8 (.invokevirtual 72) 3 11 := ⟨by decide +kernel, rfl⟩
theorem dX6_judge_11 : zD cX6_judge 11 .i2l 1 12 := ⟨by decide +kernel, rfl⟩
theorem dX6_judge_12 : zD cX6_judge 12 (.invokestatic 41) 3 15 := ⟨by decide +kernel, rfl⟩
theorem dX6_judge_15 : zD cX6_judge 15 (.ifCond .eq 11) 3 18 := ⟨by decide +kernel, rfl⟩
theorem dX6_judge_18 : zD cX6_judge 18 (.aload_n 0) 1 19 := ⟨by decide +kernel, rfl⟩
theorem dX6_judge_19 : zD cX6_judge 19 (.iload_n 1) 1 20 := ⟨by decide +kernel, rfl⟩
theorem dX6_judge_20 : zD cX6_judge 20 (.invokevirtual 107) 3 23 := ⟨by decide +kernel, rfl⟩
theorem dX6_judge_23 : zD cX6_judge 23 (.goto 5) 3 26 := ⟨by decide +kernel, rfl⟩
theorem dX6_judge_26 : zD cX6_judge 26 (.ldc 132) 2 28 := ⟨by decide +kernel, rfl⟩
theorem dX6_judge_28 : zD cX6_judge 28 .ireturn 1 29 := ⟨by decide +kernel, rfl⟩
theorem dX6_putAside_0 : zD cX6_putAside 0 (.iconst 0) 1 1 := ⟨by decide +kernel, rfl⟩
theorem dX6_putAside_1 : zD cX6_putAside 1 (.istore_n 2) 1 2 := ⟨by decide +kernel, rfl⟩
theorem dX6_putAside_2 : zD cX6_putAside 2 (.iload_n 2) 1 3 := ⟨by decide +kernel, rfl⟩
theorem dX6_putAside_3 : zD cX6_putAside 3 (.bipush 78) 2 5 := ⟨by decide +kernel, rfl⟩
theorem dX6_putAside_5 : zD cX6_putAside 5 (.if_icmp .ge 40) 3 8 := ⟨by decide +kernel, rfl⟩
theorem dX6_putAside_8 : zD cX6_putAside 8 (.iload_n 1) 1 9 := ⟨by decide +kernel, rfl⟩
theorem dX6_putAside_9 : zD cX6_putAside 9 (.ifCond .eq 18) 3 12 := ⟨by decide +kernel, rfl⟩
theorem dX6_putAside_12 : zD cX6_putAside 12 (.aload_n 0) 1 13 := ⟨by decide +kernel, rfl⟩
theorem dX6_putAside_13 : zD cX6_putAside 13 (.getfield 7) 3 16 := ⟨by decide +kernel, rfl⟩
theorem dX6_putAside_16 : zD cX6_putAside 16 (.iload_n 2) 1 17 := ⟨by decide +kernel, rfl⟩
theorem dX6_putAside_17 : zD cX6_putAside 17 (.aload_n 0) 1 18 := ⟨by decide +kernel, rfl⟩
theorem dX6_putAside_18 : zD cX6_putAside 18 (.getfield 38) 3 21 := ⟨by decide +kernel, rfl⟩
theorem dX6_putAside_21 : zD cX6_putAside 21 (.iload_n 2) 1 22 := ⟨by decide +kernel, rfl⟩
theorem dX6_putAside_22 : zD cX6_putAside 22 .iaload 1 23 := ⟨by decide +kernel, rfl⟩
theorem dX6_putAside_23 : zD cX6_putAside 23 .iastore 1 24 := ⟨by decide +kernel, rfl⟩
theorem dX6_putAside_24 : zD cX6_putAside 24 (.goto 15) 3 27 := ⟨by decide +kernel, rfl⟩
theorem dX6_putAside_27 : zD cX6_putAside 27 (.aload_n 0) 1 28 := ⟨by decide +kernel, rfl⟩
theorem dX6_putAside_28 : zD cX6_putAside 28 (.getfield 38) 3 31 := ⟨by decide +kernel, rfl⟩
theorem dX6_putAside_31 : zD cX6_putAside 31 (.iload_n 2) 1 32 := ⟨by decide +kernel, rfl⟩
theorem dX6_putAside_32 : zD cX6_putAside 32 (.aload_n 0) 1 33 := ⟨by decide +kernel, rfl⟩
theorem dX6_putAside_33 : zD cX6_putAside 33 (.getfield 7) 3 36 := ⟨by decide +kernel, rfl⟩
theorem dX6_putAside_36 : zD cX6_putAside 36 (.iload_n 2) 1 37 := ⟨by decide +kernel, rfl⟩
theorem dX6_putAside_37 : zD cX6_putAside 37 .iaload 1 38 := ⟨by decide +kernel, rfl⟩
theorem dX6_putAside_38 : zD cX6_putAside 38 .iastore 1 39 := ⟨by decide +kernel, rfl⟩
theorem dX6_putAside_39 : zD cX6_putAside 39 (.iinc 2 1) 3 42 := ⟨by decide +kernel, rfl⟩
theorem dX6_putAside_42 : zD cX6_putAside 42 (.goto (-40)) 3 45 := ⟨by decide +kernel, rfl⟩
theorem dX6_putAside_45 : zD cX6_putAside 45 .return_ 1 46 := ⟨by decide +kernel, rfl⟩
theorem dX6_wouldCut_0 : zD cX6_wouldCut 0 (.aload_n 0) 1 1 := ⟨by decide +kernel, rfl⟩
theorem dX6_wouldCut_1 : zD cX6_wouldCut 1 (.iload_n 1) 1 2 := ⟨by decide +kernel, rfl⟩
theorem dX6_wouldCut_2 : zD cX6_wouldCut 2 (.invokevirtual 153) 3 5 := ⟨by decide +kernel, rfl⟩
theorem dX6_wouldCut_5 : zD cX6_wouldCut 5 (.ifCond .ne 6) 3 8 := ⟨by decide +kernel, rfl⟩
theorem dX6_wouldCut_8 : zD cX6_wouldCut 8 (.ldc 156) 2 10 := ⟨by decide +kernel, rfl⟩
theorem dX6_wouldCut_10 : zD cX6_wouldCut 10 .ireturn 1 11 := ⟨by decide +kernel, rfl⟩
theorem dX6_wouldCut_11 : zD cX6_wouldCut 11 (.iload_n 2) 1 12 := ⟨by decide +kernel, rfl⟩
theorem dX6_wouldCut_12 : zD cX6_wouldCut 12 .i2l 1 13 := ⟨by decide +kernel, rfl⟩
theorem dX6_wouldCut_13 : zD cX6_wouldCut 13 (.lconst 0) 1 14 := ⟨by decide +kernel, rfl⟩
theorem dX6_wouldCut_14 : zD cX6_wouldCut 14 (.ldc2_w 172) 3 17 := ⟨by decide +kernel, rfl⟩
theorem dX6_wouldCut_17 : zD cX6_wouldCut 17 (.invokestatic 41) 3 20 := ⟨by decide +kernel, rfl⟩
theorem dX6_wouldCut_20 : zD cX6_wouldCut 20 (.ifCond .ne 6) 3 23 := ⟨by decide +kernel, rfl⟩
theorem dX6_wouldCut_23 : zD cX6_wouldCut 23 (.ldc 132) 2 25 := ⟨by decide +kernel, rfl⟩
theorem dX6_wouldCut_25 : zD cX6_wouldCut 25 .ireturn 1 26 := ⟨by decide +kernel, rfl⟩
theorem dX6_wouldCut_26 : zD cX6_wouldCut 26 (.aload_n 0) 1 27 := ⟨by decide +kernel, rfl⟩
theorem dX6_wouldCut_27 : zD cX6_wouldCut 27 (.iload_n 1) 1 28 := ⟨by decide +kernel, rfl⟩
theorem dX6_wouldCut_28 : zD cX6_wouldCut 28 (.iload_n 2) 1 29 := ⟨by decide +kernel, rfl⟩
theorem dX6_wouldCut_29 : zD cX6_wouldCut 29 (.invokevirtual 174) 3 32 := ⟨by decide +kernel, rfl⟩
theorem dX6_wouldCut_32 : zD cX6_wouldCut 32 (.ifCond .eq 12) 3 35 := ⟨by decide +kernel, rfl⟩
theorem dX6_wouldCut_35 : zD cX6_wouldCut 35 (.aload_n 0) 1 36 := ⟨by decide +kernel, rfl⟩
theorem dX6_wouldCut_36 : zD cX6_wouldCut 36 (.invokevirtual 121) 3 39 := ⟨by decide +kernel, rfl⟩
theorem dX6_wouldCut_39 : zD cX6_wouldCut 39 (.bipush 14) 2 41 := ⟨by decide +kernel, rfl⟩
theorem dX6_wouldCut_41 : zD cX6_wouldCut 41 (.if_icmp .ne 5) 3 44 := ⟨by decide +kernel, rfl⟩
theorem dX6_wouldCut_44 : zD cX6_wouldCut 44 (.iconst (-1)) 1 45 := ⟨by decide +kernel, rfl⟩
theorem dX6_wouldCut_45 : zD cX6_wouldCut 45 .ireturn 1 46 := ⟨by decide +kernel, rfl⟩
theorem dX6_wouldCut_46 : zD cX6_wouldCut 46 (.aload_n 0) 1 47 := ⟨by decide +kernel, rfl⟩
theorem dX6_wouldCut_47 : zD cX6_wouldCut 47 (.iconst 0) 1 48 := ⟨by decide +kernel, rfl⟩
theorem dX6_wouldCut_48 : zD cX6_wouldCut 48 (.invokevirtual 261) 3 51 := ⟨by decide +kernel, rfl⟩
theorem dX6_wouldCut_51 : zD cX6_wouldCut 51 (.aload_n 0) 1 52 := ⟨by decide +kernel, rfl⟩
theorem dX6_wouldCut_52 : zD cX6_wouldCut 52 (.iload_n 1) 1 53 := ⟨by decide +kernel, rfl⟩
theorem dX6_wouldCut_53 : zD cX6_wouldCut 53 (.iload_n 2) 1 54 := ⟨by decide +kernel, rfl⟩
theorem dX6_wouldCut_54 : zD cX6_wouldCut 54 (.invokevirtual 177) 3 57 := ⟨by decide +kernel, rfl⟩
theorem dX6_wouldCut_57 : zD cX6_wouldCut 57 (.aload_n 0) 1 58 := ⟨by decide +kernel, rfl⟩
theorem dX6_wouldCut_58 : zD cX6_wouldCut 58 (.invokevirtual 191) 3 61 := ⟨by decide +kernel, rfl⟩
theorem dX6_wouldCut_61 : zD cX6_wouldCut 61 (.istore_n 3) 1 62 := ⟨by decide +kernel, rfl⟩
theorem dX6_wouldCut_62 : zD cX6_wouldCut 62 (.aload_n 0) 1 63 := ⟨by decide +kernel, rfl⟩
theorem dX6_wouldCut_63 : zD cX6_wouldCut 63 (.iconst 1) 1 64 := ⟨by decide +kernel, rfl⟩
theorem dX6_wouldCut_64 : zD cX6_wouldCut 64 (.invokevirtual 261) 3 67 := ⟨by decide +kernel, rfl⟩
theorem dX6_wouldCut_67 : zD cX6_wouldCut 67 (.iload_n 3) 1 68 := ⟨by decide +kernel, rfl⟩
theorem dX6_wouldCut_68 : zD cX6_wouldCut 68 .ireturn 1 69 := ⟨by decide +kernel, rfl⟩
theorem dX6_wouldMove_0 : zD cX6_wouldMove 0 (.aload_n 0) 1 1 := ⟨by decide +kernel, rfl⟩
theorem dX6_wouldMove_1 : zD cX6_wouldMove 1 (.iload_n 1) 1 2 := ⟨by decide +kernel, rfl⟩
theorem dX6_wouldMove_2 : zD cX6_wouldMove 2 (.invokevirtual 153) 3 5 := ⟨by decide +kernel, rfl⟩
theorem dX6_wouldMove_5 : zD cX6_wouldMove 5 (.ifCond .ne 6) 3 8 := ⟨by decide +kernel, rfl⟩
theorem dX6_wouldMove_8 : zD cX6_wouldMove 8 (.ldc 156) 2 10 := ⟨by decide +kernel, rfl⟩
theorem dX6_wouldMove_10 : zD cX6_wouldMove 10 .ireturn 1 11 := ⟨by decide +kernel, rfl⟩
theorem dX6_wouldMove_11 : zD cX6_wouldMove 11 (.iload_n 2) 1 12 := ⟨by decide +kernel, rfl⟩
theorem dX6_wouldMove_12 : zD cX6_wouldMove 12 (.iload_n 3) 1 13 := ⟨by decide +kernel, rfl⟩
theorem dX6_wouldMove_13 : zD cX6_wouldMove 13 (.invokestatic 159) 3 16 := ⟨by decide +kernel, rfl⟩
theorem dX6_wouldMove_16 : zD cX6_wouldMove 16 (.ifCond .ne 6) 3 19 := ⟨by decide +kernel, rfl⟩
theorem dX6_wouldMove_19 : zD cX6_wouldMove 19 (.ldc 132) 2 21 := ⟨by decide +kernel, rfl⟩
theorem dX6_wouldMove_21 : zD cX6_wouldMove 21 .ireturn 1 22 := ⟨by decide +kernel, rfl⟩
theorem dX6_wouldMove_22 : zD cX6_wouldMove 22 (.aload_n 0) 1 23 := ⟨by decide +kernel, rfl⟩
theorem dX6_wouldMove_23 : zD cX6_wouldMove 23 (.iload_n 1) 1 24 := ⟨by decide +kernel, rfl⟩
theorem dX6_wouldMove_24 : zD cX6_wouldMove 24 (.iload_n 2) 1 25 := ⟨by decide +kernel, rfl⟩
theorem dX6_wouldMove_25 : zD cX6_wouldMove 25 (.iload_n 3) 1 26 := ⟨by decide +kernel, rfl⟩
theorem dX6_wouldMove_26 : zD cX6_wouldMove 26 (.invokevirtual 162) 3 29 := ⟨by decide +kernel, rfl⟩
theorem dX6_wouldMove_29 : zD cX6_wouldMove 29 (.ifCond .ne 5) 3 32 := ⟨by decide +kernel, rfl⟩
theorem dX6_wouldMove_32 : zD cX6_wouldMove 32 (.iconst (-1)) 1 33 := ⟨by decide +kernel, rfl⟩
theorem dX6_wouldMove_33 : zD cX6_wouldMove 33 .ireturn 1 34 := ⟨by decide +kernel, rfl⟩
theorem dX6_wouldMove_34 : zD cX6_wouldMove 34 (.aload_n 0) 1 35 := ⟨by decide +kernel, rfl⟩
theorem dX6_wouldMove_35 : zD cX6_wouldMove 35 (.iconst 0) 1 36 := ⟨by decide +kernel, rfl⟩
theorem dX6_wouldMove_36 : zD cX6_wouldMove 36 (.invokevirtual 261) 3 39 := ⟨by decide +kernel, rfl⟩
theorem dX6_wouldMove_39 : zD cX6_wouldMove 39 (.aload_n 0) 1 40 := ⟨by decide +kernel, rfl⟩
theorem dX6_wouldMove_40 : zD cX6_wouldMove 40 (.iload_n 1) 1 41 := ⟨by decide +kernel, rfl⟩
theorem dX6_wouldMove_41 : zD cX6_wouldMove 41 (.iload_n 2) 1 42 := ⟨by decide +kernel, rfl⟩
theorem dX6_wouldMove_42 : zD cX6_wouldMove 42 (.iload_n 3) 1 43 := ⟨by decide +kernel, rfl⟩
theorem dX6_wouldMove_43 : zD cX6_wouldMove 43 (.invokevirtual 166) 3 46 := ⟨by decide +kernel, rfl⟩
theorem dX6_wouldMove_46 : zD cX6_wouldMove 46 (.aload_n 0) 1 47 := ⟨by decide +kernel, rfl⟩
theorem dX6_wouldMove_47 : zD cX6_wouldMove 47 (.invokevirtual 191) 3 50 := ⟨by decide +kernel, rfl⟩
theorem dX6_wouldMove_50 : zD cX6_wouldMove 50 (.istore 4) 2 52 := ⟨by decide +kernel, rfl⟩
theorem dX6_wouldMove_52 : zD cX6_wouldMove 52 (.aload_n 0) 1 53 := ⟨by decide +kernel, rfl⟩
theorem dX6_wouldMove_53 : zD cX6_wouldMove 53 (.iconst 1) 1 54 := ⟨by decide +kernel, rfl⟩
theorem dX6_wouldMove_54 : zD cX6_wouldMove 54 (.invokevirtual 261) 3 57 := ⟨by decide +kernel, rfl⟩
theorem dX6_wouldMove_57 : zD cX6_wouldMove 57 (.iload 4) 2 59 := ⟨by decide +kernel, rfl⟩
theorem dX6_wouldMove_59 : zD cX6_wouldMove 59 .ireturn 1 60 := ⟨by decide +kernel, rfl⟩
theorem dX6_pair_0 : zD cX6_pair 0 (.aload_n 0) 1 1 := ⟨by decide +kernel, rfl⟩
theorem dX6_pair_1 : zD cX6_pair 1 (.iload_n 1) 1 2 := ⟨by decide +kernel, rfl⟩
theorem dX6_pair_2 : zD cX6_pair 2 (.iload_n 2) 1 3 := ⟨by decide +kernel, rfl⟩
theorem dX6_pair_3 : zD cX6_pair 3 (.invokevirtual 258) 3 6 := ⟨by decide +kernel, rfl⟩
theorem dX6_pair_6 : zD cX6_pair 6 (.ifCond .ne 6) 3 9 := ⟨by decide +kernel, rfl⟩
theorem dX6_pair_9 : zD cX6_pair 9 (.ldc 156) 2 11 := ⟨by decide +kernel, rfl⟩
theorem dX6_pair_11 : zD cX6_pair 11 .ireturn 1 12 := ⟨by decide +kernel, rfl⟩
theorem dX6_pair_12 : zD cX6_pair 12 (.iconst (-1)) 1 13 := ⟨by decide +kernel, rfl⟩
theorem dX6_pair_13 : zD cX6_pair 13 (.istore 4) 2 15 := ⟨by decide +kernel, rfl⟩
theorem dX6_pair_15 : zD cX6_pair 15 (.iconst 0) 1 16 := ⟨by decide +kernel, rfl⟩
theorem dX6_pair_16 : zD cX6_pair 16 (.istore 5) 2 18 := ⟨by decide +kernel, rfl⟩
theorem dX6_pair_18 : zD cX6_pair 18 (.iload 5) 2 20 := ⟨by decide +kernel, rfl⟩
theorem dX6_pair_20 : zD cX6_pair 20 (.aload_n 0) 1 21 := ⟨by decide +kernel, rfl⟩
theorem dX6_pair_21 : zD cX6_pair 21 (.invokevirtual 72) 3 24 := ⟨by decide +kernel, rfl⟩
theorem dX6_pair_24 : zD cX6_pair 24 (.if_icmp .gt 71) 3 27 := ⟨by decide +kernel, rfl⟩
theorem dX6_pair_27 : zD cX6_pair 27 (.iload 5) 2 29 := ⟨by decide +kernel, rfl⟩
theorem dX6_pair_29 : zD cX6_pair 29 (.iload_n 1) 1 30 := ⟨by decide +kernel, rfl⟩
theorem dX6_pair_30 : zD cX6_pair 30 (.invokestatic 68) 3 33 := ⟨by decide +kernel, rfl⟩
theorem dX6_pair_33 : zD cX6_pair 33 (.iload 5) 2 35 := ⟨by decide +kernel, rfl⟩
theorem dX6_pair_35 : zD cX6_pair 35 (.iload_n 2) 1 36 := ⟨by decide +kernel, rfl⟩
theorem dX6_pair_36 : zD cX6_pair 36 (.invokestatic 68) 3 39 := ⟨by decide +kernel, rfl⟩
theorem dX6_pair_39 : zD cX6_pair 39 (.if_icmp .ne 7) 3 42 := ⟨by decide +kernel, rfl⟩
theorem dX6_pair_42 : zD cX6_pair 42 (.iconst 1) 1 43 := ⟨by decide +kernel, rfl⟩
theorem dX6_pair_43 : zD cX6_pair 43 (.goto 4) 3 46 := ⟨by decide +kernel, rfl⟩
theorem dX6_pair_46 : zD cX6_pair 46 (.iconst 0) 1 47 := ⟨by decide +kernel, rfl⟩
theorem dX6_pair_47 : zD cX6_pair 47 (.iload_n 3) 1 48 := ⟨by decide +kernel, rfl⟩
theorem dX6_pair_48 : zD cX6_pair 48 (.if_icmp .ne 41) 3 51 := ⟨by decide +kernel, rfl⟩
theorem dX6_pair_51 : zD cX6_pair 51 (.aload_n 0) 1 52 := ⟨by decide +kernel, rfl⟩
theorem dX6_pair_52 : zD cX6_pair 52 (.iload 5) 2 54 := ⟨by decide +kernel, rfl⟩
theorem dX6_pair_54 : zD cX6_pair 54 (.invokevirtual 103) 3 57 := ⟨by decide +kernel, rfl⟩
theorem dX6_pair_57 : zD cX6_pair 57 (.ifCond .eq 32) 3 60 := ⟨by decide +kernel, rfl⟩
theorem dX6_pair_60 : zD cX6_pair 60 (.aload_n 0) 1 61 := ⟨by decide +kernel, rfl⟩
theorem dX6_pair_61 : zD cX6_pair 61 (.iload 5) 2 63 := ⟨by decide +kernel, rfl⟩
theorem dX6_pair_63 : zD cX6_pair 63 (.invokevirtual 107) 3 66 := ⟨by decide +kernel, rfl⟩
theorem dX6_pair_66 : zD cX6_pair 66 (.istore 6) 2 68 := ⟨by decide +kernel, rfl⟩
theorem dX6_pair_68 : zD cX6_pair 68 (.iload 4) 2 70 := ⟨by decide +kernel, rfl⟩
theorem dX6_pair_70 : zD cX6_pair 70 (.ifCond .lt 10) 3 73 := ⟨by decide +kernel, rfl⟩
theorem dX6_pair_73 : zD cX6_pair 73 (.iload 6) 2 75 := ⟨by decide +kernel, rfl⟩
theorem dX6_pair_75 : zD cX6_pair 75 (.iload 4) 2 77 := ⟨by decide +kernel, rfl⟩
theorem dX6_pair_77 : zD cX6_pair 77 (.if_icmp .ge 8) 3 80 := ⟨by decide +kernel, rfl⟩
theorem dX6_pair_80 : zD cX6_pair 80 (.iload 6) 2 82 := ⟨by decide +kernel, rfl⟩
theorem dX6_pair_82 : zD cX6_pair 82 (.goto 5) 3 85 := ⟨by decide +kernel, rfl⟩
theorem dX6_pair_85 : zD cX6_pair 85 (.iload 4) 2 87 := ⟨by decide +kernel, rfl⟩
theorem dX6_pair_87 : zD cX6_pair 87 (.istore 4) 2 89 := ⟨by decide +kernel, rfl⟩
theorem dX6_pair_89 : zD cX6_pair 89 (.iinc 5 1) 3 92 := ⟨by decide +kernel, rfl⟩
theorem dX6_pair_92 : zD cX6_pair 92 (.goto (-74)) 3 95 := ⟨by decide +kernel, rfl⟩
theorem dX6_pair_95 : zD cX6_pair 95 (.iload 4) 2 97 := ⟨by decide +kernel, rfl⟩
theorem dX6_pair_97 : zD cX6_pair 97 .ireturn 1 98 := ⟨by decide +kernel, rfl⟩
theorem dX6_keep_0 : zD cX6_keep 0 (.iload_n 1) 1 1 := ⟨by decide +kernel, rfl⟩
theorem dX6_keep_1 : zD cX6_keep 1 .i2l 1 2 := ⟨by decide +kernel, rfl⟩
theorem dX6_keep_2 : zD cX6_keep 2 (.lconst 0) 1 3 := ⟨by decide +kernel, rfl⟩
theorem dX6_keep_3 : zD cX6_keep 3 (.lconst 1) 1 4 := ⟨by decide +kernel, rfl⟩
theorem dX6_keep_4 : zD cX6_keep 4 (.invokestatic 41) 3 7 := ⟨by decide +kernel, rfl⟩
theorem dX6_keep_7 : zD cX6_keep 7 (.ifCond .ne 6) 3 10 := ⟨by decide +kernel, rfl⟩
theorem dX6_keep_10 : zD cX6_keep 10 (.ldc 156) 2 12 := ⟨by decide +kernel, rfl⟩
theorem dX6_keep_12 : zD cX6_keep 12 .ireturn 1 13 := ⟨by decide +kernel, rfl⟩
theorem dX6_keep_13 : zD cX6_keep 13 (.iconst 0) 1 14 := ⟨by decide +kernel, rfl⟩
theorem dX6_keep_14 : zD cX6_keep 14 (.istore_n 2) 1 15 := ⟨by decide +kernel, rfl⟩
theorem dX6_keep_15 : zD cX6_keep 15 (.iload_n 2) 1 16 := ⟨by decide +kernel, rfl⟩
theorem dX6_keep_16 : zD cX6_keep 16 (.bipush 78) 2 18 := ⟨by decide +kernel, rfl⟩
theorem dX6_keep_18 : zD cX6_keep 18 (.if_icmp .ge 26) 3 21 := ⟨by decide +kernel, rfl⟩
theorem dX6_keep_21 : zD cX6_keep 21 (.aload_n 0) 1 22 := ⟨by decide +kernel, rfl⟩
theorem dX6_keep_22 : zD cX6_keep 22 (.getfield 16) 3 25 := ⟨by decide +kernel, rfl⟩
theorem dX6_keep_25 : zD cX6_keep 25 (.bipush 78) 2 27 := ⟨by decide +kernel, rfl⟩
theorem dX6_keep_27 : zD cX6_keep 27 (.iload_n 1) 1 28 := ⟨by decide +kernel, rfl⟩
theorem dX6_keep_28 : zD cX6_keep 28 .imul 1 29 := ⟨by decide +kernel, rfl⟩
theorem dX6_keep_29 : zD cX6_keep 29 (.iload_n 2) 1 30 := ⟨by decide +kernel, rfl⟩
theorem dX6_keep_30 : zD cX6_keep 30 .iadd 1 31 := ⟨by decide +kernel, rfl⟩
theorem dX6_keep_31 : zD cX6_keep 31 (.aload_n 0) 1 32 := ⟨by decide +kernel, rfl⟩
theorem dX6_keep_32 : zD cX6_keep 32 (.getfield 7) 3 35 := ⟨by decide +kernel, rfl⟩
theorem dX6_keep_35 : zD cX6_keep 35 (.iload_n 2) 1 36 := ⟨by decide +kernel, rfl⟩
theorem dX6_keep_36 : zD cX6_keep 36 .iaload 1 37 := ⟨by decide +kernel, rfl⟩
theorem dX6_keep_37 : zD cX6_keep 37 .iastore 1 38 := ⟨by decide +kernel, rfl⟩
theorem dX6_keep_38 : zD cX6_keep 38 (.iinc 2 1) 3 41 := ⟨by decide +kernel, rfl⟩
theorem dX6_keep_41 : zD cX6_keep 41 (.goto (-26)) 3 44 := ⟨by decide +kernel, rfl⟩
theorem dX6_keep_44 : zD cX6_keep 44 (.aload_n 0) 1 45 := ⟨by decide +kernel, rfl⟩
theorem dX6_keep_45 : zD cX6_keep 45 (.getfield 19) 3 48 := ⟨by decide +kernel, rfl⟩
theorem dX6_keep_48 : zD cX6_keep 48 (.iload_n 1) 1 49 := ⟨by decide +kernel, rfl⟩
theorem dX6_keep_49 : zD cX6_keep 49 (.iconst 1) 1 50 := ⟨by decide +kernel, rfl⟩
theorem dX6_keep_50 : zD cX6_keep 50 .bastore 1 51 := ⟨by decide +kernel, rfl⟩
theorem dX6_keep_51 : zD cX6_keep 51 (.aload_n 0) 1 52 := ⟨by decide +kernel, rfl⟩
theorem dX6_keep_52 : zD cX6_keep 52 (.iconst 0) 1 53 := ⟨by decide +kernel, rfl⟩
theorem dX6_keep_53 : zD cX6_keep 53 (.putfield 116) 3 56 := ⟨by decide +kernel, rfl⟩
theorem dX6_keep_56 : zD cX6_keep 56 (.aload_n 0) 1 57 := ⟨by decide +kernel, rfl⟩
theorem dX6_keep_57 : zD cX6_keep 57 (.getfield 7) 3 60 := ⟨by decide +kernel, rfl⟩
theorem dX6_keep_60 : zD cX6_keep 60 (.iconst 0) 1 61 := ⟨by decide +kernel, rfl⟩
theorem dX6_keep_61 : zD cX6_keep 61 .iaload 1 62 := ⟨by decide +kernel, rfl⟩
theorem dX6_keep_62 : zD cX6_keep 62 .ireturn 1 63 := ⟨by decide +kernel, rfl⟩
theorem dX6_goBack_0 : zD cX6_goBack 0 (.iload_n 1) 1 1 := ⟨by decide +kernel, rfl⟩
theorem dX6_goBack_1 : zD cX6_goBack 1 .i2l 1 2 := ⟨by decide +kernel, rfl⟩
theorem dX6_goBack_2 : zD cX6_goBack 2 (.lconst 0) 1 3 := ⟨by decide +kernel, rfl⟩
theorem dX6_goBack_3 : zD cX6_goBack 3 (.lconst 1) 1 4 := ⟨by decide +kernel, rfl⟩
theorem dX6_goBack_4 : zD cX6_goBack 4 (.invokestatic 41) 3 7 := ⟨by decide +kernel, rfl⟩
theorem dX6_goBack_7 : zD cX6_goBack 7 (.ifCond .ne 6) 3 10 := ⟨by decide +kernel, rfl⟩
theorem dX6_goBack_10 : zD cX6_goBack 10 (.ldc 156) 2 12 := ⟨by decide +kernel, rfl⟩
theorem dX6_goBack_12 : zD cX6_goBack 12 .ireturn 1 13 := ⟨by decide +kernel, rfl⟩
theorem dX6_goBack_13 : zD cX6_goBack 13 (.aload_n 0) 1 14 := ⟨by decide +kernel, rfl⟩
theorem dX6_goBack_14 : zD cX6_goBack 14 (.getfield 19) 3 17 := ⟨by decide +kernel, rfl⟩
theorem dX6_goBack_17 : zD cX6_goBack 17 (.iload_n 1) 1 18 := ⟨by decide +kernel, rfl⟩
theorem dX6_goBack_18 : zD cX6_goBack 18 .baload 1 19 := ⟨by decide +kernel, rfl⟩
theorem dX6_goBack_19 : zD cX6_goBack 19 (.ifCond .ne 6) 3 22 := ⟨by decide +kernel, rfl⟩
theorem dX6_goBack_22 : zD cX6_goBack 22 (.ldc 137) 2 24 := ⟨by decide +kernel, rfl⟩
theorem dX6_goBack_24 : zD cX6_goBack 24 .ireturn 1 25 := ⟨by decide +kernel, rfl⟩
theorem dX6_goBack_25 : zD cX6_goBack 25 (.iconst 0) 1 26 := ⟨by decide +kernel, rfl⟩
theorem dX6_goBack_26 : zD cX6_goBack 26 (.istore_n 2) 1 27 := ⟨by decide +kernel, rfl⟩
theorem dX6_goBack_27 : zD cX6_goBack 27 (.iload_n 2) 1 28 := ⟨by decide +kernel, rfl⟩
theorem dX6_goBack_28 : zD cX6_goBack 28 (.bipush 78) 2 30 := ⟨by decide +kernel, rfl⟩
theorem dX6_goBack_30 : zD cX6_goBack 30 (.if_icmp .ge 26) 3 33 := ⟨by decide +kernel, rfl⟩
theorem dX6_goBack_33 : zD cX6_goBack 33 (.aload_n 0) 1 34 := ⟨by decide +kernel, rfl⟩
theorem dX6_goBack_34 : zD cX6_goBack 34 (.getfield 7) 3 37 := ⟨by decide +kernel, rfl⟩
theorem dX6_goBack_37 : zD cX6_goBack 37 (.iload_n 2) 1 38 := ⟨by decide +kernel, rfl⟩
theorem dX6_goBack_38 : zD cX6_goBack 38 (.aload_n 0) 1 39 := ⟨by decide +kernel, rfl⟩
theorem dX6_goBack_39 : zD cX6_goBack 39 (.getfield 16) 3 42 := ⟨by decide +kernel, rfl⟩
theorem dX6_goBack_42 : zD cX6_goBack 42 (.bipush 78) 2 44 := ⟨by decide +kernel, rfl⟩
theorem dX6_goBack_44 : zD cX6_goBack 44 (.iload_n 1) 1 45 := ⟨by decide +kernel, rfl⟩
theorem dX6_goBack_45 : zD cX6_goBack 45 .imul 1 46 := ⟨by decide +kernel, rfl⟩
theorem dX6_goBack_46 : zD cX6_goBack 46 (.iload_n 2) 1 47 := ⟨by decide +kernel, rfl⟩
theorem dX6_goBack_47 : zD cX6_goBack 47 .iadd 1 48 := ⟨by decide +kernel, rfl⟩
theorem dX6_goBack_48 : zD cX6_goBack 48 .iaload 1 49 := ⟨by decide +kernel, rfl⟩
theorem dX6_goBack_49 : zD cX6_goBack 49 .iastore 1 50 := ⟨by decide +kernel, rfl⟩
theorem dX6_goBack_50 : zD cX6_goBack 50 (.iinc 2 1) 3 53 := ⟨by decide +kernel, rfl⟩
theorem dX6_goBack_53 : zD cX6_goBack 53 (.goto (-26)) 3 56 := ⟨by decide +kernel, rfl⟩
theorem dX6_goBack_56 : zD cX6_goBack 56 (.aload_n 0) 1 57 := ⟨by decide +kernel, rfl⟩
theorem dX6_goBack_57 : zD cX6_goBack 57 (.iconst 0) 1 58 := ⟨by decide +kernel, rfl⟩
theorem dX6_goBack_58 : zD cX6_goBack 58 (.putfield 116) 3 61 := ⟨by decide +kernel, rfl⟩
theorem dX6_goBack_61 : zD cX6_goBack 61 (.aload_n 0) 1 62 := ⟨by decide +kernel, rfl⟩
theorem dX6_goBack_62 : zD cX6_goBack 62 (.getfield 7) 3 65 := ⟨by decide +kernel, rfl⟩
theorem dX6_goBack_65 : zD cX6_goBack 65 (.iconst 0) 1 66 := ⟨by decide +kernel, rfl⟩
theorem dX6_goBack_66 : zD cX6_goBack 66 .iaload 1 67 := ⟨by decide +kernel, rfl⟩
theorem dX6_goBack_67 : zD cX6_goBack 67 .ireturn 1 68 := ⟨by decide +kernel, rfl⟩
end
section
theorem dL_law_0 : zD cL_law 0 (.new 7) 3 3 := ⟨by decide +kernel, rfl⟩
theorem dL_law_3 : zD cL_law 3 .dup 1 4 := ⟨by decide +kernel, rfl⟩
theorem dL_law_4 : zD cL_law 4 (.invokespecial 9) 3 7 := ⟨by decide +kernel, rfl⟩
theorem dL_law_7 : zD cL_law 7 (.astore_n 1) 1 8 := ⟨by decide +kernel, rfl⟩
theorem dL_law_8 : zD cL_law 8 (.new 10) 3 11 := ⟨by decide +kernel, rfl⟩
theorem dL_law_11 : zD cL_law 11 .dup 1 12 := ⟨by decide +kernel, rfl⟩
theorem dL_law_12 : zD cL_law 12 (.invokespecial 12) 3 15 := ⟨by decide +kernel, rfl⟩
theorem dL_law_15 : zD cL_law 15 (.astore_n 2) 1 16 := ⟨by decide +kernel, rfl⟩
theorem dL_law_16 : zD cL_law 16 (.iconst 0) 1 17 := ⟨by decide +kernel, rfl⟩
theorem dL_law_17 : zD cL_law 17 (.istore_n 3) 1 18 := ⟨by decide +kernel, rfl⟩
theorem dL_law_18 : zD cL_law 18 (.iload_n 3) 1 19 := ⟨by decide +kernel, rfl⟩
theorem dL_law_19 : zD cL_law 19 (.aload_n 0) 1 20 := ⟨by decide +kernel, rfl⟩
theorem dL_law_20 : zD cL_law 20 .arraylength 1 21 := ⟨by decide +kernel, rfl⟩
theorem dL_law_21 : zD cL_law 21 (.iconst 5) 1 22 := ⟨by decide +kernel, rfl⟩
theorem dL_law_22 : zD cL_law 22 .isub 1 23 := ⟨by decide +kernel, rfl⟩
theorem dL_law_23 : zD cL_law 23 (.if_icmp .gt 784) 3 26 := ⟨by decide +kernel, rfl⟩
theorem dL_law_26 : zD cL_law 26 (.aload_n 0) 1 27 := ⟨by decide +kernel, rfl⟩
theorem dL_law_27 : zD cL_law 27 (.iload_n 3) 1 28 := ⟨by decide +kernel, rfl⟩
theorem dL_law_28 : zD cL_law 28 .iaload 1 29 := ⟨by decide +kernel, rfl⟩
theorem dL_law_29 : zD cL_law 29 (.bipush 31) 2 31 := ⟨by decide +kernel, rfl⟩
theorem dL_law_31 : zD cL_law 31 .iand 1 32 := ⟨by decide +kernel, rfl⟩
theorem dL_law_32 : zD cL_law 32 (.tableswitch 769 0 20 #[100, 153, 176, 219, 252, 285, 318, 351, 364, 397, 410, 433, 466, 499, 532, 565, 588, 621, 664, 723, 746]) 100 132 := ⟨by decide +kernel, rfl⟩
theorem dL_law_132 : zD cL_law 132 (.aload_n 1) 1 133 := ⟨by decide +kernel, rfl⟩
theorem dL_law_133 : zD cL_law 133 (.aload_n 0) 1 134 := ⟨by decide +kernel, rfl⟩
theorem dL_law_134 : zD cL_law 134 (.iload_n 3) 1 135 := ⟨by decide +kernel, rfl⟩
theorem dL_law_135 : zD cL_law 135 (.iconst 1) 1 136 := ⟨by decide +kernel, rfl⟩
theorem dL_law_136 : zD cL_law 136 .iadd 1 137 := ⟨by decide +kernel, rfl⟩
theorem dL_law_137 : zD cL_law 137 .iaload 1 138 := ⟨by decide +kernel, rfl⟩
theorem dL_law_138 : zD cL_law 138 (.aload_n 0) 1 139 := ⟨by decide +kernel, rfl⟩
theorem dL_law_139 : zD cL_law 139 (.iload_n 3) 1 140 := ⟨by decide +kernel, rfl⟩
theorem dL_law_140 : zD cL_law 140 (.iconst 2) 1 141 := ⟨by decide +kernel, rfl⟩
theorem dL_law_141 : zD cL_law 141 .iadd 1 142 := ⟨by decide +kernel, rfl⟩
theorem dL_law_142 : zD cL_law 142 .iaload 1 143 := ⟨by decide +kernel, rfl⟩
theorem dL_law_143 : zD cL_law 143 (.aload_n 0) 1 144 := ⟨by decide +kernel, rfl⟩
theorem dL_law_144 : zD cL_law 144 (.iload_n 3) 1 145 := ⟨by decide +kernel, rfl⟩
theorem dL_law_145 : zD cL_law 145 (.iconst 3) 1 146 := ⟨by decide +kernel, rfl⟩
theorem dL_law_146 : zD cL_law 146 .iadd 1 147 := ⟨by decide +kernel, rfl⟩
theorem dL_law_147 : zD cL_law 147 .iaload 1 148 := ⟨by decide +kernel, rfl⟩
theorem dL_law_148 : zD cL_law 148 (.aload_n 0) 1 149 := ⟨by decide +kernel, rfl⟩
theorem dL_law_149 : zD cL_law 149 (.iload_n 3) 1 150 := ⟨by decide +kernel, rfl⟩
theorem dL_law_150 : zD cL_law 150 (.iconst 4) 1 151 := ⟨by decide +kernel, rfl⟩
theorem dL_law_151 : zD cL_law 151 .iadd 1 152 := ⟨by decide +kernel, rfl⟩
theorem dL_law_152 : zD cL_law 152 .iaload 1 153 := ⟨by decide +kernel, rfl⟩
theorem dL_law_153 : zD cL_law 153 (.invokevirtual 13) 3 156 := ⟨by decide +kernel, rfl⟩
theorem dL_law_156 : zD cL_law 156 (.aload_n 2) 1 157 := ⟨by decide +kernel, rfl⟩
theorem dL_law_157 : zD cL_law 157 (.aload_n 0) 1 158 := ⟨by decide +kernel, rfl⟩
theorem dL_law_158 : zD cL_law 158 (.iload_n 3) 1 159 := ⟨by decide +kernel, rfl⟩
theorem dL_law_159 : zD cL_law 159 (.iconst 1) 1 160 := ⟨by decide +kernel, rfl⟩
theorem dL_law_160 : zD cL_law 160 .iadd 1 161 := ⟨by decide +kernel, rfl⟩
theorem dL_law_161 : zD cL_law 161 .iaload 1 162 := ⟨by decide +kernel, rfl⟩
theorem dL_law_162 : zD cL_law 162 (.aload_n 0) 1 163 := ⟨by decide +kernel, rfl⟩
theorem dL_law_163 : zD cL_law 163 (.iload_n 3) 1 164 := ⟨by decide +kernel, rfl⟩
theorem dL_law_164 : zD cL_law 164 (.iconst 2) 1 165 := ⟨by decide +kernel, rfl⟩
theorem dL_law_165 : zD cL_law 165 .iadd 1 166 := ⟨by decide +kernel, rfl⟩
theorem dL_law_166 : zD cL_law 166 .iaload 1 167 := ⟨by decide +kernel, rfl⟩
theorem dL_law_167 : zD cL_law 167 (.aload_n 0) 1 168 := ⟨by decide +kernel, rfl⟩
theorem dL_law_168 : zD cL_law 168 (.iload_n 3) 1 169 := ⟨by decide +kernel, rfl⟩
theorem dL_law_169 : zD cL_law 169 (.iconst 3) 1 170 := ⟨by decide +kernel, rfl⟩
theorem dL_law_170 : zD cL_law 170 .iadd 1 171 := ⟨by decide +kernel, rfl⟩
theorem dL_law_171 : zD cL_law 171 .iaload 1 172 := ⟨by decide +kernel, rfl⟩
theorem dL_law_172 : zD cL_law 172 (.aload_n 0) 1 173 := ⟨by decide +kernel, rfl⟩
theorem dL_law_173 : zD cL_law 173 (.iload_n 3) 1 174 := ⟨by decide +kernel, rfl⟩
theorem dL_law_174 : zD cL_law 174 (.iconst 4) 1 175 := ⟨by decide +kernel, rfl⟩
theorem dL_law_175 : zD cL_law 175 .iadd 1 176 := ⟨by decide +kernel, rfl⟩
theorem dL_law_176 : zD cL_law 176 .iaload 1 177 := ⟨by decide +kernel, rfl⟩
theorem dL_law_177 : zD cL_law 177 (.invokevirtual 17) 3 180 := ⟨by decide +kernel, rfl⟩
theorem dL_law_180 : zD cL_law 180 (.if_icmp .eq 621) 3 183 := ⟨by decide +kernel, rfl⟩
theorem dL_law_183 : zD cL_law 183 (.iconst 0) 1 184 := ⟨by decide +kernel, rfl⟩
theorem dL_law_184 : zD cL_law 184 .ireturn 1 185 := ⟨by decide +kernel, rfl⟩
theorem dL_law_185 : zD cL_law 185 (.aload_n 1) 1 186 := ⟨by decide +kernel, rfl⟩
theorem dL_law_186 : zD cL_law 186 (.aload_n 0) 1 187 := ⟨by decide +kernel, rfl⟩
theorem dL_law_187 : zD cL_law 187 (.iload_n 3) 1 188 := ⟨by decide +kernel, rfl⟩
theorem dL_law_188 : zD cL_law 188 (.iconst 1) 1 189 := ⟨by decide +kernel, rfl⟩
theorem dL_law_189 : zD cL_law 189 .iadd 1 190 := ⟨by decide +kernel, rfl⟩
theorem dL_law_190 : zD cL_law 190 .iaload 1 191 := ⟨by decide +kernel, rfl⟩
theorem dL_law_191 : zD cL_law 191 (.invokevirtual 18) 3 194 := ⟨by decide +kernel, rfl⟩
theorem dL_law_194 : zD cL_law 194 (.aload_n 2) 1 195 := ⟨by decide +kernel, rfl⟩
theorem dL_law_195 : zD cL_law 195 (.aload_n 0) 1 196 := ⟨by decide +kernel, rfl⟩
theorem dL_law_196 : zD cL_law 196 (.iload_n 3) 1 197 := ⟨by decide +kernel, rfl⟩
theorem dL_law_197 : zD cL_law 197 (.iconst 1) 1 198 := ⟨by decide +kernel, rfl⟩
theorem dL_law_198 : zD cL_law 198 .iadd 1 199 := ⟨by decide +kernel, rfl⟩
theorem dL_law_199 : zD cL_law 199 .iaload 1 200 := ⟨by decide +kernel, rfl⟩
theorem dL_law_200 : zD cL_law 200 (.invokevirtual 22) 3 203 := ⟨by decide +kernel, rfl⟩
theorem dL_law_203 : zD cL_law 203 (.if_icmp .eq 598) 3 206 := ⟨by decide +kernel, rfl⟩
theorem dL_law_206 : zD cL_law 206 (.iconst 0) 1 207 := ⟨by decide +kernel, rfl⟩
theorem dL_law_207 : zD cL_law 207 .ireturn 1 208 := ⟨by decide +kernel, rfl⟩
theorem dL_law_208 : zD cL_law 208 (.aload_n 1) 1 209 := ⟨by decide +kernel, rfl⟩
theorem dL_law_209 : zD cL_law 209 (.aload_n 0) 1 210 := ⟨by decide +kernel, rfl⟩
theorem dL_law_210 : zD cL_law 210 (.iload_n 3) 1 211 := ⟨by decide +kernel, rfl⟩
theorem dL_law_211 : zD cL_law 211 (.iconst 1) 1 212 := ⟨by decide +kernel, rfl⟩
theorem dL_law_212 : zD cL_law 212 .iadd 1 213 := ⟨by decide +kernel, rfl⟩
theorem dL_law_213 : zD cL_law 213 .iaload 1 214 := ⟨by decide +kernel, rfl⟩
theorem dL_law_214 : zD cL_law 214 (.aload_n 0) 1 215 := ⟨by decide +kernel, rfl⟩
theorem dL_law_215 : zD cL_law 215 (.iload_n 3) 1 216 := ⟨by decide +kernel, rfl⟩
theorem dL_law_216 : zD cL_law 216 (.iconst 2) 1 217 := ⟨by decide +kernel, rfl⟩
theorem dL_law_217 : zD cL_law 217 .iadd 1 218 := ⟨by decide +kernel, rfl⟩
theorem dL_law_218 : zD cL_law 218 .iaload 1 219 := ⟨by decide +kernel, rfl⟩
theorem dL_law_219 : zD cL_law 219 (.aload_n 0) 1 220 := ⟨by decide +kernel, rfl⟩
theorem dL_law_220 : zD cL_law 220 (.iload_n 3) 1 221 := ⟨by decide +kernel, rfl⟩
theorem dL_law_221 : zD cL_law 221 (.iconst 3) 1 222 := ⟨by decide +kernel, rfl⟩
theorem dL_law_222 : zD cL_law 222 .iadd 1 223 := ⟨by decide +kernel, rfl⟩
theorem dL_law_223 : zD cL_law 223 .iaload 1 224 := ⟨by decide +kernel, rfl⟩
theorem dL_law_224 : zD cL_law 224 (.invokevirtual 23) 3 227 := ⟨by decide +kernel, rfl⟩
theorem dL_law_227 : zD cL_law 227 (.aload_n 2) 1 228 := ⟨by decide +kernel, rfl⟩
theorem dL_law_228 : zD cL_law 228 (.aload_n 0) 1 229 := ⟨by decide +kernel, rfl⟩
theorem dL_law_229 : zD cL_law 229 (.iload_n 3) 1 230 := ⟨by decide +kernel, rfl⟩
theorem dL_law_230 : zD cL_law 230 (.iconst 1) 1 231 := ⟨by decide +kernel, rfl⟩
theorem dL_law_231 : zD cL_law 231 .iadd 1 232 := ⟨by decide +kernel, rfl⟩
theorem dL_law_232 : zD cL_law 232 .iaload 1 233 := ⟨by decide +kernel, rfl⟩
theorem dL_law_233 : zD cL_law 233 (.aload_n 0) 1 234 := ⟨by decide +kernel, rfl⟩
theorem dL_law_234 : zD cL_law 234 (.iload_n 3) 1 235 := ⟨by decide +kernel, rfl⟩
theorem dL_law_235 : zD cL_law 235 (.iconst 2) 1 236 := ⟨by decide +kernel, rfl⟩
theorem dL_law_236 : zD cL_law 236 .iadd 1 237 := ⟨by decide +kernel, rfl⟩
theorem dL_law_237 : zD cL_law 237 .iaload 1 238 := ⟨by decide +kernel, rfl⟩
theorem dL_law_238 : zD cL_law 238 (.aload_n 0) 1 239 := ⟨by decide +kernel, rfl⟩
theorem dL_law_239 : zD cL_law 239 (.iload_n 3) 1 240 := ⟨by decide +kernel, rfl⟩
theorem dL_law_240 : zD cL_law 240 (.iconst 3) 1 241 := ⟨by decide +kernel, rfl⟩
theorem dL_law_241 : zD cL_law 241 .iadd 1 242 := ⟨by decide +kernel, rfl⟩
theorem dL_law_242 : zD cL_law 242 .iaload 1 243 := ⟨by decide +kernel, rfl⟩
theorem dL_law_243 : zD cL_law 243 (.invokevirtual 27) 3 246 := ⟨by decide +kernel, rfl⟩
theorem dL_law_246 : zD cL_law 246 (.if_icmp .eq 555) 3 249 := ⟨by decide +kernel, rfl⟩
theorem dL_law_249 : zD cL_law 249 (.iconst 0) 1 250 := ⟨by decide +kernel, rfl⟩
theorem dL_law_250 : zD cL_law 250 .ireturn 1 251 := ⟨by decide +kernel, rfl⟩
theorem dL_law_251 : zD cL_law 251 (.aload_n 1) 1 252 := ⟨by decide +kernel, rfl⟩
theorem dL_law_252 : zD cL_law 252 (.aload_n 0) 1 253 := ⟨by decide +kernel, rfl⟩
theorem dL_law_253 : zD cL_law 253 (.iload_n 3) 1 254 := ⟨by decide +kernel, rfl⟩
theorem dL_law_254 : zD cL_law 254 (.iconst 1) 1 255 := ⟨by decide +kernel, rfl⟩
theorem dL_law_255 : zD cL_law 255 .iadd 1 256 := ⟨by decide +kernel, rfl⟩
theorem dL_law_256 : zD cL_law 256 .iaload 1 257 := ⟨by decide +kernel, rfl⟩
theorem dL_law_257 : zD cL_law 257 (.aload_n 0) 1 258 := ⟨by decide +kernel, rfl⟩
theorem dL_law_258 : zD cL_law 258 (.iload_n 3) 1 259 := ⟨by decide +kernel, rfl⟩
theorem dL_law_259 : zD cL_law 259 (.iconst 2) 1 260 := ⟨by decide +kernel, rfl⟩
theorem dL_law_260 : zD cL_law 260 .iadd 1 261 := ⟨by decide +kernel, rfl⟩
theorem dL_law_261 : zD cL_law 261 .iaload 1 262 := ⟨by decide +kernel, rfl⟩
theorem dL_law_262 : zD cL_law 262 (.invokevirtual 28) 3 265 := ⟨by decide +kernel, rfl⟩
theorem dL_law_265 : zD cL_law 265 (.aload_n 2) 1 266 := ⟨by decide +kernel, rfl⟩
theorem dL_law_266 : zD cL_law 266 (.aload_n 0) 1 267 := ⟨by decide +kernel, rfl⟩
theorem dL_law_267 : zD cL_law 267 (.iload_n 3) 1 268 := ⟨by decide +kernel, rfl⟩
theorem dL_law_268 : zD cL_law 268 (.iconst 1) 1 269 := ⟨by decide +kernel, rfl⟩
theorem dL_law_269 : zD cL_law 269 .iadd 1 270 := ⟨by decide +kernel, rfl⟩
theorem dL_law_270 : zD cL_law 270 .iaload 1 271 := ⟨by decide +kernel, rfl⟩
theorem dL_law_271 : zD cL_law 271 (.aload_n 0) 1 272 := ⟨by decide +kernel, rfl⟩
theorem dL_law_272 : zD cL_law 272 (.iload_n 3) 1 273 := ⟨by decide +kernel, rfl⟩
theorem dL_law_273 : zD cL_law 273 (.iconst 2) 1 274 := ⟨by decide +kernel, rfl⟩
theorem dL_law_274 : zD cL_law 274 .iadd 1 275 := ⟨by decide +kernel, rfl⟩
theorem dL_law_275 : zD cL_law 275 .iaload 1 276 := ⟨by decide +kernel, rfl⟩
theorem dL_law_276 : zD cL_law 276 (.invokevirtual 32) 3 279 := ⟨by decide +kernel, rfl⟩
theorem dL_law_279 : zD cL_law 279 (.if_icmp .eq 522) 3 282 := ⟨by decide +kernel, rfl⟩
theorem dL_law_282 : zD cL_law 282 (.iconst 0) 1 283 := ⟨by decide +kernel, rfl⟩
theorem dL_law_283 : zD cL_law 283 .ireturn 1 284 := ⟨by decide +kernel, rfl⟩
theorem dL_law_284 : zD cL_law 284 (.aload_n 1) 1 285 := ⟨by decide +kernel, rfl⟩
theorem dL_law_285 : zD cL_law 285 (.aload_n 0) 1 286 := ⟨by decide +kernel, rfl⟩
theorem dL_law_286 : zD cL_law 286 (.iload_n 3) 1 287 := ⟨by decide +kernel, rfl⟩
theorem dL_law_287 : zD cL_law 287 (.iconst 1) 1 288 := ⟨by decide +kernel, rfl⟩
theorem dL_law_288 : zD cL_law 288 .iadd 1 289 := ⟨by decide +kernel, rfl⟩
theorem dL_law_289 : zD cL_law 289 .iaload 1 290 := ⟨by decide +kernel, rfl⟩
theorem dL_law_290 : zD cL_law 290 (.aload_n 0) 1 291 := ⟨by decide +kernel, rfl⟩
theorem dL_law_291 : zD cL_law 291 (.iload_n 3) 1 292 := ⟨by decide +kernel, rfl⟩
theorem dL_law_292 : zD cL_law 292 (.iconst 2) 1 293 := ⟨by decide +kernel, rfl⟩
theorem dL_law_293 : zD cL_law 293 .iadd 1 294 := ⟨by decide +kernel, rfl⟩
theorem dL_law_294 : zD cL_law 294 .iaload 1 295 := ⟨by decide +kernel, rfl⟩
theorem dL_law_295 : zD cL_law 295 (.invokevirtual 33) 3 298 := ⟨by decide +kernel, rfl⟩
theorem dL_law_298 : zD cL_law 298 (.aload_n 2) 1 299 := ⟨by decide +kernel, rfl⟩
theorem dL_law_299 : zD cL_law 299 (.aload_n 0) 1 300 := ⟨by decide +kernel, rfl⟩
theorem dL_law_300 : zD cL_law 300 (.iload_n 3) 1 301 := ⟨by decide +kernel, rfl⟩
theorem dL_law_301 : zD cL_law 301 (.iconst 1) 1 302 := ⟨by decide +kernel, rfl⟩
theorem dL_law_302 : zD cL_law 302 .iadd 1 303 := ⟨by decide +kernel, rfl⟩
theorem dL_law_303 : zD cL_law 303 .iaload 1 304 := ⟨by decide +kernel, rfl⟩
theorem dL_law_304 : zD cL_law 304 (.aload_n 0) 1 305 := ⟨by decide +kernel, rfl⟩
theorem dL_law_305 : zD cL_law 305 (.iload_n 3) 1 306 := ⟨by decide +kernel, rfl⟩
theorem dL_law_306 : zD cL_law 306 (.iconst 2) 1 307 := ⟨by decide +kernel, rfl⟩
theorem dL_law_307 : zD cL_law 307 .iadd 1 308 := ⟨by decide +kernel, rfl⟩
theorem dL_law_308 : zD cL_law 308 .iaload 1 309 := ⟨by decide +kernel, rfl⟩
theorem dL_law_309 : zD cL_law 309 (.invokevirtual 36) 3 312 := ⟨by decide +kernel, rfl⟩
theorem dL_law_312 : zD cL_law 312 (.if_icmp .eq 489) 3 315 := ⟨by decide +kernel, rfl⟩
theorem dL_law_315 : zD cL_law 315 (.iconst 0) 1 316 := ⟨by decide +kernel, rfl⟩
theorem dL_law_316 : zD cL_law 316 .ireturn 1 317 := ⟨by decide +kernel, rfl⟩
theorem dL_law_317 : zD cL_law 317 (.aload_n 1) 1 318 := ⟨by decide +kernel, rfl⟩
theorem dL_law_318 : zD cL_law 318 (.aload_n 0) 1 319 := ⟨by decide +kernel, rfl⟩
theorem dL_law_319 : zD cL_law 319 (.iload_n 3) 1 320 := ⟨by decide +kernel, rfl⟩
theorem dL_law_320 : zD cL_law 320 (.iconst 1) 1 321 := ⟨by decide +kernel, rfl⟩
theorem dL_law_321 : zD cL_law 321 .iadd 1 322 := ⟨by decide +kernel, rfl⟩
theorem dL_law_322 : zD cL_law 322 .iaload 1 323 := ⟨by decide +kernel, rfl⟩
theorem dL_law_323 : zD cL_law 323 (.aload_n 0) 1 324 := ⟨by decide +kernel, rfl⟩
theorem dL_law_324 : zD cL_law 324 (.iload_n 3) 1 325 := ⟨by decide +kernel, rfl⟩
theorem dL_law_325 : zD cL_law 325 (.iconst 2) 1 326 := ⟨by decide +kernel, rfl⟩
theorem dL_law_326 : zD cL_law 326 .iadd 1 327 := ⟨by decide +kernel, rfl⟩
theorem dL_law_327 : zD cL_law 327 .iaload 1 328 := ⟨by decide +kernel, rfl⟩
theorem dL_law_328 : zD cL_law 328 (.invokevirtual 37) 3 331 := ⟨by decide +kernel, rfl⟩
theorem dL_law_331 : zD cL_law 331 (.aload_n 2) 1 332 := ⟨by decide +kernel, rfl⟩
theorem dL_law_332 : zD cL_law 332 (.aload_n 0) 1 333 := ⟨by decide +kernel, rfl⟩
theorem dL_law_333 : zD cL_law 333 (.iload_n 3) 1 334 := ⟨by decide +kernel, rfl⟩
theorem dL_law_334 : zD cL_law 334 (.iconst 1) 1 335 := ⟨by decide +kernel, rfl⟩
theorem dL_law_335 : zD cL_law 335 .iadd 1 336 := ⟨by decide +kernel, rfl⟩
theorem dL_law_336 : zD cL_law 336 .iaload 1 337 := ⟨by decide +kernel, rfl⟩
theorem dL_law_337 : zD cL_law 337 (.aload_n 0) 1 338 := ⟨by decide +kernel, rfl⟩
theorem dL_law_338 : zD cL_law 338 (.iload_n 3) 1 339 := ⟨by decide +kernel, rfl⟩
theorem dL_law_339 : zD cL_law 339 (.iconst 2) 1 340 := ⟨by decide +kernel, rfl⟩
theorem dL_law_340 : zD cL_law 340 .iadd 1 341 := ⟨by decide +kernel, rfl⟩
theorem dL_law_341 : zD cL_law 341 .iaload 1 342 := ⟨by decide +kernel, rfl⟩
theorem dL_law_342 : zD cL_law 342 (.invokevirtual 40) 3 345 := ⟨by decide +kernel, rfl⟩
theorem dL_law_345 : zD cL_law 345 (.if_icmp .eq 456) 3 348 := ⟨by decide +kernel, rfl⟩
theorem dL_law_348 : zD cL_law 348 (.iconst 0) 1 349 := ⟨by decide +kernel, rfl⟩
theorem dL_law_349 : zD cL_law 349 .ireturn 1 350 := ⟨by decide +kernel, rfl⟩
theorem dL_law_350 : zD cL_law 350 (.aload_n 1) 1 351 := ⟨by decide +kernel, rfl⟩
theorem dL_law_351 : zD cL_law 351 (.aload_n 0) 1 352 := ⟨by decide +kernel, rfl⟩
theorem dL_law_352 : zD cL_law 352 (.iload_n 3) 1 353 := ⟨by decide +kernel, rfl⟩
theorem dL_law_353 : zD cL_law 353 (.iconst 1) 1 354 := ⟨by decide +kernel, rfl⟩
theorem dL_law_354 : zD cL_law 354 .iadd 1 355 := ⟨by decide +kernel, rfl⟩
theorem dL_law_355 : zD cL_law 355 .iaload 1 356 := ⟨by decide +kernel, rfl⟩
theorem dL_law_356 : zD cL_law 356 (.aload_n 0) 1 357 := ⟨by decide +kernel, rfl⟩
theorem dL_law_357 : zD cL_law 357 (.iload_n 3) 1 358 := ⟨by decide +kernel, rfl⟩
theorem dL_law_358 : zD cL_law 358 (.iconst 2) 1 359 := ⟨by decide +kernel, rfl⟩
theorem dL_law_359 : zD cL_law 359 .iadd 1 360 := ⟨by decide +kernel, rfl⟩
theorem dL_law_360 : zD cL_law 360 .iaload 1 361 := ⟨by decide +kernel, rfl⟩
theorem dL_law_361 : zD cL_law 361 (.invokevirtual 41) 3 364 := ⟨by decide +kernel, rfl⟩
theorem dL_law_364 : zD cL_law 364 (.aload_n 2) 1 365 := ⟨by decide +kernel, rfl⟩
theorem dL_law_365 : zD cL_law 365 (.aload_n 0) 1 366 := ⟨by decide +kernel, rfl⟩
theorem dL_law_366 : zD cL_law 366 (.iload_n 3) 1 367 := ⟨by decide +kernel, rfl⟩
theorem dL_law_367 : zD cL_law 367 (.iconst 1) 1 368 := ⟨by decide +kernel, rfl⟩
theorem dL_law_368 : zD cL_law 368 .iadd 1 369 := ⟨by decide +kernel, rfl⟩
theorem dL_law_369 : zD cL_law 369 .iaload 1 370 := ⟨by decide +kernel, rfl⟩
theorem dL_law_370 : zD cL_law 370 (.aload_n 0) 1 371 := ⟨by decide +kernel, rfl⟩
theorem dL_law_371 : zD cL_law 371 (.iload_n 3) 1 372 := ⟨by decide +kernel, rfl⟩
theorem dL_law_372 : zD cL_law 372 (.iconst 2) 1 373 := ⟨by decide +kernel, rfl⟩
theorem dL_law_373 : zD cL_law 373 .iadd 1 374 := ⟨by decide +kernel, rfl⟩
theorem dL_law_374 : zD cL_law 374 .iaload 1 375 := ⟨by decide +kernel, rfl⟩
theorem dL_law_375 : zD cL_law 375 (.invokevirtual 44) 3 378 := ⟨by decide +kernel, rfl⟩
theorem dL_law_378 : zD cL_law 378 (.if_icmp .eq 423) 3 381 := ⟨by decide +kernel, rfl⟩
theorem dL_law_381 : zD cL_law 381 (.iconst 0) 1 382 := ⟨by decide +kernel, rfl⟩
theorem dL_law_382 : zD cL_law 382 .ireturn 1 383 := ⟨by decide +kernel, rfl⟩
theorem dL_law_383 : zD cL_law 383 (.aload_n 1) 1 384 := ⟨by decide +kernel, rfl⟩
theorem dL_law_384 : zD cL_law 384 (.invokevirtual 45) 3 387 := ⟨by decide +kernel, rfl⟩
theorem dL_law_387 : zD cL_law 387 (.aload_n 2) 1 388 := ⟨by decide +kernel, rfl⟩
theorem dL_law_388 : zD cL_law 388 (.invokevirtual 49) 3 391 := ⟨by decide +kernel, rfl⟩
theorem dL_law_391 : zD cL_law 391 (.if_icmp .eq 410) 3 394 := ⟨by decide +kernel, rfl⟩
theorem dL_law_394 : zD cL_law 394 (.iconst 0) 1 395 := ⟨by decide +kernel, rfl⟩
theorem dL_law_395 : zD cL_law 395 .ireturn 1 396 := ⟨by decide +kernel, rfl⟩
theorem dL_law_396 : zD cL_law 396 (.aload_n 1) 1 397 := ⟨by decide +kernel, rfl⟩
theorem dL_law_397 : zD cL_law 397 (.aload_n 0) 1 398 := ⟨by decide +kernel, rfl⟩
theorem dL_law_398 : zD cL_law 398 (.iload_n 3) 1 399 := ⟨by decide +kernel, rfl⟩
theorem dL_law_399 : zD cL_law 399 (.iconst 1) 1 400 := ⟨by decide +kernel, rfl⟩
theorem dL_law_400 : zD cL_law 400 .iadd 1 401 := ⟨by decide +kernel, rfl⟩
theorem dL_law_401 : zD cL_law 401 .iaload 1 402 := ⟨by decide +kernel, rfl⟩
theorem dL_law_402 : zD cL_law 402 (.aload_n 0) 1 403 := ⟨by decide +kernel, rfl⟩
theorem dL_law_403 : zD cL_law 403 (.iload_n 3) 1 404 := ⟨by decide +kernel, rfl⟩
theorem dL_law_404 : zD cL_law 404 (.iconst 2) 1 405 := ⟨by decide +kernel, rfl⟩
theorem dL_law_405 : zD cL_law 405 .iadd 1 406 := ⟨by decide +kernel, rfl⟩
theorem dL_law_406 : zD cL_law 406 .iaload 1 407 := ⟨by decide +kernel, rfl⟩
theorem dL_law_407 : zD cL_law 407 (.invokevirtual 50) 3 410 := ⟨by decide +kernel, rfl⟩
theorem dL_law_410 : zD cL_law 410 (.aload_n 2) 1 411 := ⟨by decide +kernel, rfl⟩
theorem dL_law_411 : zD cL_law 411 (.aload_n 0) 1 412 := ⟨by decide +kernel, rfl⟩
theorem dL_law_412 : zD cL_law 412 (.iload_n 3) 1 413 := ⟨by decide +kernel, rfl⟩
theorem dL_law_413 : zD cL_law 413 (.iconst 1) 1 414 := ⟨by decide +kernel, rfl⟩
theorem dL_law_414 : zD cL_law 414 .iadd 1 415 := ⟨by decide +kernel, rfl⟩
theorem dL_law_415 : zD cL_law 415 .iaload 1 416 := ⟨by decide +kernel, rfl⟩
theorem dL_law_416 : zD cL_law 416 (.aload_n 0) 1 417 := ⟨by decide +kernel, rfl⟩
theorem dL_law_417 : zD cL_law 417 (.iload_n 3) 1 418 := ⟨by decide +kernel, rfl⟩
theorem dL_law_418 : zD cL_law 418 (.iconst 2) 1 419 := ⟨by decide +kernel, rfl⟩
theorem dL_law_419 : zD cL_law 419 .iadd 1 420 := ⟨by decide +kernel, rfl⟩
theorem dL_law_420 : zD cL_law 420 .iaload 1 421 := ⟨by decide +kernel, rfl⟩
theorem dL_law_421 : zD cL_law 421 (.invokevirtual 53) 3 424 := ⟨by decide +kernel, rfl⟩
theorem dL_law_424 : zD cL_law 424 (.if_icmp .eq 377) 3 427 := ⟨by decide +kernel, rfl⟩
theorem dL_law_427 : zD cL_law 427 (.iconst 0) 1 428 := ⟨by decide +kernel, rfl⟩
theorem dL_law_428 : zD cL_law 428 .ireturn 1 429 := ⟨by decide +kernel, rfl⟩
theorem dL_law_429 : zD cL_law 429 (.aload_n 1) 1 430 := ⟨by decide +kernel, rfl⟩
theorem dL_law_430 : zD cL_law 430 (.invokevirtual 54) 3 433 := ⟨by decide +kernel, rfl⟩
theorem dL_law_433 : zD cL_law 433 (.aload_n 2) 1 434 := ⟨by decide +kernel, rfl⟩
theorem dL_law_434 : zD cL_law 434 (.invokevirtual 57) 3 437 := ⟨by decide +kernel, rfl⟩
theorem dL_law_437 : zD cL_law 437 (.if_icmp .eq 364) 3 440 := ⟨by decide +kernel, rfl⟩
theorem dL_law_440 : zD cL_law 440 (.iconst 0) 1 441 := ⟨by decide +kernel, rfl⟩
theorem dL_law_441 : zD cL_law 441 .ireturn 1 442 := ⟨by decide +kernel, rfl⟩
theorem dL_law_442 : zD cL_law 442 (.aload_n 1) 1 443 := ⟨by decide +kernel, rfl⟩
theorem dL_law_443 : zD cL_law 443 (.aload_n 0) 1 444 := ⟨by decide +kernel, rfl⟩
theorem dL_law_444 : zD cL_law 444 (.iload_n 3) 1 445 := ⟨by decide +kernel, rfl⟩
theorem dL_law_445 : zD cL_law 445 (.iconst 1) 1 446 := ⟨by decide +kernel, rfl⟩
theorem dL_law_446 : zD cL_law 446 .iadd 1 447 := ⟨by decide +kernel, rfl⟩
theorem dL_law_447 : zD cL_law 447 .iaload 1 448 := ⟨by decide +kernel, rfl⟩
theorem dL_law_448 : zD cL_law 448 (.invokevirtual 58) 3 451 := ⟨by decide +kernel, rfl⟩
theorem dL_law_451 : zD cL_law 451 (.aload_n 2) 1 452 := ⟨by decide +kernel, rfl⟩
theorem dL_law_452 : zD cL_law 452 (.aload_n 0) 1 453 := ⟨by decide +kernel, rfl⟩
theorem dL_law_453 : zD cL_law 453 (.iload_n 3) 1 454 := ⟨by decide +kernel, rfl⟩
theorem dL_law_454 : zD cL_law 454 (.iconst 1) 1 455 := ⟨by decide +kernel, rfl⟩
theorem dL_law_455 : zD cL_law 455 .iadd 1 456 := ⟨by decide +kernel, rfl⟩
theorem dL_law_456 : zD cL_law 456 .iaload 1 457 := ⟨by decide +kernel, rfl⟩
theorem dL_law_457 : zD cL_law 457 (.invokevirtual 61) 3 460 := ⟨by decide +kernel, rfl⟩
theorem dL_law_460 : zD cL_law 460 (.if_icmp .eq 341) 3 463 := ⟨by decide +kernel, rfl⟩
theorem dL_law_463 : zD cL_law 463 (.iconst 0) 1 464 := ⟨by decide +kernel, rfl⟩
theorem dL_law_464 : zD cL_law 464 .ireturn 1 465 := ⟨by decide +kernel, rfl⟩
theorem dL_law_465 : zD cL_law 465 (.aload_n 1) 1 466 := ⟨by decide +kernel, rfl⟩
theorem dL_law_466 : zD cL_law 466 (.aload_n 0) 1 467 := ⟨by decide +kernel, rfl⟩
theorem dL_law_467 : zD cL_law 467 (.iload_n 3) 1 468 := ⟨by decide +kernel, rfl⟩
theorem dL_law_468 : zD cL_law 468 (.iconst 1) 1 469 := ⟨by decide +kernel, rfl⟩
theorem dL_law_469 : zD cL_law 469 .iadd 1 470 := ⟨by decide +kernel, rfl⟩
theorem dL_law_470 : zD cL_law 470 .iaload 1 471 := ⟨by decide +kernel, rfl⟩
theorem dL_law_471 : zD cL_law 471 (.aload_n 0) 1 472 := ⟨by decide +kernel, rfl⟩
theorem dL_law_472 : zD cL_law 472 (.iload_n 3) 1 473 := ⟨by decide +kernel, rfl⟩
theorem dL_law_473 : zD cL_law 473 (.iconst 2) 1 474 := ⟨by decide +kernel, rfl⟩
theorem dL_law_474 : zD cL_law 474 .iadd 1 475 := ⟨by decide +kernel, rfl⟩
theorem dL_law_475 : zD cL_law 475 .iaload 1 476 := ⟨by decide +kernel, rfl⟩
theorem dL_law_476 : zD cL_law 476 (.invokevirtual 62) 3 479 := ⟨by decide +kernel, rfl⟩
theorem dL_law_479 : zD cL_law 479 (.aload_n 2) 1 480 := ⟨by decide +kernel, rfl⟩
theorem dL_law_480 : zD cL_law 480 (.aload_n 0) 1 481 := ⟨by decide +kernel, rfl⟩
theorem dL_law_481 : zD cL_law 481 (.iload_n 3) 1 482 := ⟨by decide +kernel, rfl⟩
theorem dL_law_482 : zD cL_law 482 (.iconst 1) 1 483 := ⟨by decide +kernel, rfl⟩
theorem dL_law_483 : zD cL_law 483 .iadd 1 484 := ⟨by decide +kernel, rfl⟩
theorem dL_law_484 : zD cL_law 484 .iaload 1 485 := ⟨by decide +kernel, rfl⟩
theorem dL_law_485 : zD cL_law 485 (.aload_n 0) 1 486 := ⟨by decide +kernel, rfl⟩
theorem dL_law_486 : zD cL_law 486 (.iload_n 3) 1 487 := ⟨by decide +kernel, rfl⟩
theorem dL_law_487 : zD cL_law 487 (.iconst 2) 1 488 := ⟨by decide +kernel, rfl⟩
theorem dL_law_488 : zD cL_law 488 .iadd 1 489 := ⟨by decide +kernel, rfl⟩
theorem dL_law_489 : zD cL_law 489 .iaload 1 490 := ⟨by decide +kernel, rfl⟩
theorem dL_law_490 : zD cL_law 490 (.invokevirtual 65) 3 493 := ⟨by decide +kernel, rfl⟩
theorem dL_law_493 : zD cL_law 493 (.if_icmp .eq 308) 3 496 := ⟨by decide +kernel, rfl⟩
theorem dL_law_496 : zD cL_law 496 (.iconst 0) 1 497 := ⟨by decide +kernel, rfl⟩
theorem dL_law_497 : zD cL_law 497 .ireturn 1 498 := ⟨by decide +kernel, rfl⟩
theorem dL_law_498 : zD cL_law 498 (.aload_n 1) 1 499 := ⟨by decide +kernel, rfl⟩
theorem dL_law_499 : zD cL_law 499 (.aload_n 0) 1 500 := ⟨by decide +kernel, rfl⟩
theorem dL_law_500 : zD cL_law 500 (.iload_n 3) 1 501 := ⟨by decide +kernel, rfl⟩
theorem dL_law_501 : zD cL_law 501 (.iconst 1) 1 502 := ⟨by decide +kernel, rfl⟩
theorem dL_law_502 : zD cL_law 502 .iadd 1 503 := ⟨by decide +kernel, rfl⟩
theorem dL_law_503 : zD cL_law 503 .iaload 1 504 := ⟨by decide +kernel, rfl⟩
theorem dL_law_504 : zD cL_law 504 (.aload_n 0) 1 505 := ⟨by decide +kernel, rfl⟩
theorem dL_law_505 : zD cL_law 505 (.iload_n 3) 1 506 := ⟨by decide +kernel, rfl⟩
theorem dL_law_506 : zD cL_law 506 (.iconst 2) 1 507 := ⟨by decide +kernel, rfl⟩
theorem dL_law_507 : zD cL_law 507 .iadd 1 508 := ⟨by decide +kernel, rfl⟩
theorem dL_law_508 : zD cL_law 508 .iaload 1 509 := ⟨by decide +kernel, rfl⟩
theorem dL_law_509 : zD cL_law 509 (.invokevirtual 66) 3 512 := ⟨by decide +kernel, rfl⟩
theorem dL_law_512 : zD cL_law 512 (.aload_n 2) 1 513 := ⟨by decide +kernel, rfl⟩
theorem dL_law_513 : zD cL_law 513 (.aload_n 0) 1 514 := ⟨by decide +kernel, rfl⟩
theorem dL_law_514 : zD cL_law 514 (.iload_n 3) 1 515 := ⟨by decide +kernel, rfl⟩
theorem dL_law_515 : zD cL_law 515 (.iconst 1) 1 516 := ⟨by decide +kernel, rfl⟩
theorem dL_law_516 : zD cL_law 516 .iadd 1 517 := ⟨by decide +kernel, rfl⟩
theorem dL_law_517 : zD cL_law 517 .iaload 1 518 := ⟨by decide +kernel, rfl⟩
theorem dL_law_518 : zD cL_law 518 (.aload_n 0) 1 519 := ⟨by decide +kernel, rfl⟩
theorem dL_law_519 : zD cL_law 519 (.iload_n 3) 1 520 := ⟨by decide +kernel, rfl⟩
theorem dL_law_520 : zD cL_law 520 (.iconst 2) 1 521 := ⟨by decide +kernel, rfl⟩
theorem dL_law_521 : zD cL_law 521 .iadd 1 522 := ⟨by decide +kernel, rfl⟩
theorem dL_law_522 : zD cL_law 522 .iaload 1 523 := ⟨by decide +kernel, rfl⟩
theorem dL_law_523 : zD cL_law 523 (.invokevirtual 69) 3 526 := ⟨by decide +kernel, rfl⟩
theorem dL_law_526 : zD cL_law 526 (.if_icmp .eq 275) 3 529 := ⟨by decide +kernel, rfl⟩
theorem dL_law_529 : zD cL_law 529 (.iconst 0) 1 530 := ⟨by decide +kernel, rfl⟩
theorem dL_law_530 : zD cL_law 530 .ireturn 1 531 := ⟨by decide +kernel, rfl⟩
theorem dL_law_531 : zD cL_law 531 (.aload_n 1) 1 532 := ⟨by decide +kernel, rfl⟩
theorem dL_law_532 : zD cL_law 532 (.aload_n 0) 1 533 := ⟨by decide +kernel, rfl⟩
theorem dL_law_533 : zD cL_law 533 (.iload_n 3) 1 534 := ⟨by decide +kernel, rfl⟩
theorem dL_law_534 : zD cL_law 534 (.iconst 1) 1 535 := ⟨by decide +kernel, rfl⟩
theorem dL_law_535 : zD cL_law 535 .iadd 1 536 := ⟨by decide +kernel, rfl⟩
theorem dL_law_536 : zD cL_law 536 .iaload 1 537 := ⟨by decide +kernel, rfl⟩
theorem dL_law_537 : zD cL_law 537 (.aload_n 0) 1 538 := ⟨by decide +kernel, rfl⟩
theorem dL_law_538 : zD cL_law 538 (.iload_n 3) 1 539 := ⟨by decide +kernel, rfl⟩
theorem dL_law_539 : zD cL_law 539 (.iconst 2) 1 540 := ⟨by decide +kernel, rfl⟩
theorem dL_law_540 : zD cL_law 540 .iadd 1 541 := ⟨by decide +kernel, rfl⟩
theorem dL_law_541 : zD cL_law 541 .iaload 1 542 := ⟨by decide +kernel, rfl⟩
theorem dL_law_542 : zD cL_law 542 (.invokevirtual 70) 3 545 := ⟨by decide +kernel, rfl⟩
theorem dL_law_545 : zD cL_law 545 (.aload_n 2) 1 546 := ⟨by decide +kernel, rfl⟩
theorem dL_law_546 : zD cL_law 546 (.aload_n 0) 1 547 := ⟨by decide +kernel, rfl⟩
theorem dL_law_547 : zD cL_law 547 (.iload_n 3) 1 548 := ⟨by decide +kernel, rfl⟩
theorem dL_law_548 : zD cL_law 548 (.iconst 1) 1 549 := ⟨by decide +kernel, rfl⟩
theorem dL_law_549 : zD cL_law 549 .iadd 1 550 := ⟨by decide +kernel, rfl⟩
theorem dL_law_550 : zD cL_law 550 .iaload 1 551 := ⟨by decide +kernel, rfl⟩
theorem dL_law_551 : zD cL_law 551 (.aload_n 0) 1 552 := ⟨by decide +kernel, rfl⟩
theorem dL_law_552 : zD cL_law 552 (.iload_n 3) 1 553 := ⟨by decide +kernel, rfl⟩
theorem dL_law_553 : zD cL_law 553 (.iconst 2) 1 554 := ⟨by decide +kernel, rfl⟩
theorem dL_law_554 : zD cL_law 554 .iadd 1 555 := ⟨by decide +kernel, rfl⟩
theorem dL_law_555 : zD cL_law 555 .iaload 1 556 := ⟨by decide +kernel, rfl⟩
theorem dL_law_556 : zD cL_law 556 (.invokevirtual 73) 3 559 := ⟨by decide +kernel, rfl⟩
theorem dL_law_559 : zD cL_law 559 (.if_icmp .eq 242) 3 562 := ⟨by decide +kernel, rfl⟩
theorem dL_law_562 : zD cL_law 562 (.iconst 0) 1 563 := ⟨by decide +kernel, rfl⟩
theorem dL_law_563 : zD cL_law 563 .ireturn 1 564 := ⟨by decide +kernel, rfl⟩
theorem dL_law_564 : zD cL_law 564 (.aload_n 1) 1 565 := ⟨by decide +kernel, rfl⟩
theorem dL_law_565 : zD cL_law 565 (.aload_n 0) 1 566 := ⟨by decide +kernel, rfl⟩
theorem dL_law_566 : zD cL_law 566 (.iload_n 3) 1 567 := ⟨by decide +kernel, rfl⟩
theorem dL_law_567 : zD cL_law 567 (.iconst 1) 1 568 := ⟨by decide +kernel, rfl⟩
theorem dL_law_568 : zD cL_law 568 .iadd 1 569 := ⟨by decide +kernel, rfl⟩
theorem dL_law_569 : zD cL_law 569 .iaload 1 570 := ⟨by decide +kernel, rfl⟩
theorem dL_law_570 : zD cL_law 570 (.aload_n 0) 1 571 := ⟨by decide +kernel, rfl⟩
theorem dL_law_571 : zD cL_law 571 (.iload_n 3) 1 572 := ⟨by decide +kernel, rfl⟩
theorem dL_law_572 : zD cL_law 572 (.iconst 2) 1 573 := ⟨by decide +kernel, rfl⟩
theorem dL_law_573 : zD cL_law 573 .iadd 1 574 := ⟨by decide +kernel, rfl⟩
theorem dL_law_574 : zD cL_law 574 .iaload 1 575 := ⟨by decide +kernel, rfl⟩
theorem dL_law_575 : zD cL_law 575 (.invokevirtual 74) 3 578 := ⟨by decide +kernel, rfl⟩
theorem dL_law_578 : zD cL_law 578 (.aload_n 2) 1 579 := ⟨by decide +kernel, rfl⟩
theorem dL_law_579 : zD cL_law 579 (.aload_n 0) 1 580 := ⟨by decide +kernel, rfl⟩
theorem dL_law_580 : zD cL_law 580 (.iload_n 3) 1 581 := ⟨by decide +kernel, rfl⟩
theorem dL_law_581 : zD cL_law 581 (.iconst 1) 1 582 := ⟨by decide +kernel, rfl⟩
theorem dL_law_582 : zD cL_law 582 .iadd 1 583 := ⟨by decide +kernel, rfl⟩
theorem dL_law_583 : zD cL_law 583 .iaload 1 584 := ⟨by decide +kernel, rfl⟩
theorem dL_law_584 : zD cL_law 584 (.aload_n 0) 1 585 := ⟨by decide +kernel, rfl⟩
theorem dL_law_585 : zD cL_law 585 (.iload_n 3) 1 586 := ⟨by decide +kernel, rfl⟩
theorem dL_law_586 : zD cL_law 586 (.iconst 2) 1 587 := ⟨by decide +kernel, rfl⟩
theorem dL_law_587 : zD cL_law 587 .iadd 1 588 := ⟨by decide +kernel, rfl⟩
theorem dL_law_588 : zD cL_law 588 .iaload 1 589 := ⟨by decide +kernel, rfl⟩
theorem dL_law_589 : zD cL_law 589 (.invokevirtual 77) 3 592 := ⟨by decide +kernel, rfl⟩
theorem dL_law_592 : zD cL_law 592 (.if_icmp .eq 209) 3 595 := ⟨by decide +kernel, rfl⟩
theorem dL_law_595 : zD cL_law 595 (.iconst 0) 1 596 := ⟨by decide +kernel, rfl⟩
theorem dL_law_596 : zD cL_law 596 .ireturn 1 597 := ⟨by decide +kernel, rfl⟩
theorem dL_law_597 : zD cL_law 597 (.aload_n 1) 1 598 := ⟨by decide +kernel, rfl⟩
theorem dL_law_598 : zD cL_law 598 (.aload_n 0) 1 599 := ⟨by decide +kernel, rfl⟩
theorem dL_law_599 : zD cL_law 599 (.iload_n 3) 1 600 := ⟨by decide +kernel, rfl⟩
theorem dL_law_600 : zD cL_law 600 (.iconst 1) 1 601 := ⟨by decide +kernel, rfl⟩
theorem dL_law_601 : zD cL_law 601 .iadd 1 602 := ⟨by decide +kernel, rfl⟩
theorem dL_law_602 : zD cL_law 602 .iaload 1 603 := ⟨by decide +kernel, rfl⟩
theorem dL_law_603 : zD cL_law 603 (.invokevirtual 78) 3 606 := ⟨by decide +kernel, rfl⟩
theorem dL_law_606 : zD cL_law 606 (.aload_n 2) 1 607 := ⟨by decide +kernel, rfl⟩
theorem dL_law_607 : zD cL_law 607 (.aload_n 0) 1 608 := ⟨by decide +kernel, rfl⟩
theorem dL_law_608 : zD cL_law 608 (.iload_n 3) 1 609 := ⟨by decide +kernel, rfl⟩
theorem dL_law_609 : zD cL_law 609 (.iconst 1) 1 610 := ⟨by decide +kernel, rfl⟩
theorem dL_law_610 : zD cL_law 610 .iadd 1 611 := ⟨by decide +kernel, rfl⟩
theorem dL_law_611 : zD cL_law 611 .iaload 1 612 := ⟨by decide +kernel, rfl⟩
theorem dL_law_612 : zD cL_law 612 (.invokevirtual 81) 3 615 := ⟨by decide +kernel, rfl⟩
theorem dL_law_615 : zD cL_law 615 (.if_icmp .eq 186) 3 618 := ⟨by decide +kernel, rfl⟩
theorem dL_law_618 : zD cL_law 618 (.iconst 0) 1 619 := ⟨by decide +kernel, rfl⟩
theorem dL_law_619 : zD cL_law 619 .ireturn 1 620 := ⟨by decide +kernel, rfl⟩
theorem dL_law_620 : zD cL_law 620 (.aload_n 1) 1 621 := ⟨by decide +kernel, rfl⟩
theorem dL_law_621 : zD cL_law 621 (.aload_n 0) 1 622 := ⟨by decide +kernel, rfl⟩
theorem dL_law_622 : zD cL_law 622 (.iload_n 3) 1 623 := ⟨by decide +kernel, rfl⟩
theorem dL_law_623 : zD cL_law 623 (.iconst 1) 1 624 := ⟨by decide +kernel, rfl⟩
theorem dL_law_624 : zD cL_law 624 .iadd 1 625 := ⟨by decide +kernel, rfl⟩
theorem dL_law_625 : zD cL_law 625 .iaload 1 626 := ⟨by decide +kernel, rfl⟩
theorem dL_law_626 : zD cL_law 626 (.aload_n 0) 1 627 := ⟨by decide +kernel, rfl⟩
theorem dL_law_627 : zD cL_law 627 (.iload_n 3) 1 628 := ⟨by decide +kernel, rfl⟩
theorem dL_law_628 : zD cL_law 628 (.iconst 2) 1 629 := ⟨by decide +kernel, rfl⟩
theorem dL_law_629 : zD cL_law 629 .iadd 1 630 := ⟨by decide +kernel, rfl⟩
theorem dL_law_630 : zD cL_law 630 .iaload 1 631 := ⟨by decide +kernel, rfl⟩
theorem dL_law_631 : zD cL_law 631 (.invokevirtual 82) 3 634 := ⟨by decide +kernel, rfl⟩
theorem dL_law_634 : zD cL_law 634 (.aload_n 2) 1 635 := ⟨by decide +kernel, rfl⟩
theorem dL_law_635 : zD cL_law 635 (.aload_n 0) 1 636 := ⟨by decide +kernel, rfl⟩
theorem dL_law_636 : zD cL_law 636 (.iload_n 3) 1 637 := ⟨by decide +kernel, rfl⟩
theorem dL_law_637 : zD cL_law 637 (.iconst 1) 1 638 := ⟨by decide +kernel, rfl⟩
theorem dL_law_638 : zD cL_law 638 .iadd 1 639 := ⟨by decide +kernel, rfl⟩
theorem dL_law_639 : zD cL_law 639 .iaload 1 640 := ⟨by decide +kernel, rfl⟩
theorem dL_law_640 : zD cL_law 640 (.aload_n 0) 1 641 := ⟨by decide +kernel, rfl⟩
theorem dL_law_641 : zD cL_law 641 (.iload_n 3) 1 642 := ⟨by decide +kernel, rfl⟩
theorem dL_law_642 : zD cL_law 642 (.iconst 2) 1 643 := ⟨by decide +kernel, rfl⟩
theorem dL_law_643 : zD cL_law 643 .iadd 1 644 := ⟨by decide +kernel, rfl⟩
theorem dL_law_644 : zD cL_law 644 .iaload 1 645 := ⟨by decide +kernel, rfl⟩
theorem dL_law_645 : zD cL_law 645 (.invokevirtual 85) 3 648 := ⟨by decide +kernel, rfl⟩
theorem dL_law_648 : zD cL_law 648 (.if_icmp .eq 153) 3 651 := ⟨by decide +kernel, rfl⟩
theorem dL_law_651 : zD cL_law 651 (.iconst 0) 1 652 := ⟨by decide +kernel, rfl⟩
theorem dL_law_652 : zD cL_law 652 .ireturn 1 653 := ⟨by decide +kernel, rfl⟩
theorem dL_law_653 : zD cL_law 653 (.aload_n 1) 1 654 := ⟨by decide +kernel, rfl⟩
theorem dL_law_654 : zD cL_law 654 (.aload_n 0) 1 655 := ⟨by decide +kernel, rfl⟩
theorem dL_law_655 : zD cL_law 655 (.iload_n 3) 1 656 := ⟨by decide +kernel, rfl⟩
theorem dL_law_656 : zD cL_law 656 (.iconst 1) 1 657 := ⟨by decide +kernel, rfl⟩
theorem dL_law_657 : zD cL_law 657 .iadd 1 658 := ⟨by decide +kernel, rfl⟩
theorem dL_law_658 : zD cL_law 658 .iaload 1 659 := ⟨by decide +kernel, rfl⟩
theorem dL_law_659 : zD cL_law 659 (.aload_n 0) 1 660 := ⟨by decide +kernel, rfl⟩
theorem dL_law_660 : zD cL_law 660 (.iload_n 3) 1 661 := ⟨by decide +kernel, rfl⟩
theorem dL_law_661 : zD cL_law 661 (.iconst 2) 1 662 := ⟨by decide +kernel, rfl⟩
theorem dL_law_662 : zD cL_law 662 .iadd 1 663 := ⟨by decide +kernel, rfl⟩
theorem dL_law_663 : zD cL_law 663 .iaload 1 664 := ⟨by decide +kernel, rfl⟩
theorem dL_law_664 : zD cL_law 664 (.aload_n 0) 1 665 := ⟨by decide +kernel, rfl⟩
theorem dL_law_665 : zD cL_law 665 (.iload_n 3) 1 666 := ⟨by decide +kernel, rfl⟩
theorem dL_law_666 : zD cL_law 666 (.iconst 3) 1 667 := ⟨by decide +kernel, rfl⟩
theorem dL_law_667 : zD cL_law 667 .iadd 1 668 := ⟨by decide +kernel, rfl⟩
theorem dL_law_668 : zD cL_law 668 .iaload 1 669 := ⟨by decide +kernel, rfl⟩
theorem dL_law_669 : zD cL_law 669 (.invokevirtual 86) 3 672 := ⟨by decide +kernel, rfl⟩
theorem dL_law_672 : zD cL_law 672 (.aload_n 2) 1 673 := ⟨by decide +kernel, rfl⟩
theorem dL_law_673 : zD cL_law 673 (.aload_n 0) 1 674 := ⟨by decide +kernel, rfl⟩
theorem dL_law_674 : zD cL_law 674 (.iload_n 3) 1 675 := ⟨by decide +kernel, rfl⟩
theorem dL_law_675 : zD cL_law 675 (.iconst 1) 1 676 := ⟨by decide +kernel, rfl⟩
theorem dL_law_676 : zD cL_law 676 .iadd 1 677 := ⟨by decide +kernel, rfl⟩
theorem dL_law_677 : zD cL_law 677 .iaload 1 678 := ⟨by decide +kernel, rfl⟩
theorem dL_law_678 : zD cL_law 678 (.aload_n 0) 1 679 := ⟨by decide +kernel, rfl⟩
theorem dL_law_679 : zD cL_law 679 (.iload_n 3) 1 680 := ⟨by decide +kernel, rfl⟩
theorem dL_law_680 : zD cL_law 680 (.iconst 2) 1 681 := ⟨by decide +kernel, rfl⟩
theorem dL_law_681 : zD cL_law 681 .iadd 1 682 := ⟨by decide +kernel, rfl⟩
theorem dL_law_682 : zD cL_law 682 .iaload 1 683 := ⟨by decide +kernel, rfl⟩
theorem dL_law_683 : zD cL_law 683 (.aload_n 0) 1 684 := ⟨by decide +kernel, rfl⟩
theorem dL_law_684 : zD cL_law 684 (.iload_n 3) 1 685 := ⟨by decide +kernel, rfl⟩
theorem dL_law_685 : zD cL_law 685 (.iconst 3) 1 686 := ⟨by decide +kernel, rfl⟩
theorem dL_law_686 : zD cL_law 686 .iadd 1 687 := ⟨by decide +kernel, rfl⟩
theorem dL_law_687 : zD cL_law 687 .iaload 1 688 := ⟨by decide +kernel, rfl⟩
theorem dL_law_688 : zD cL_law 688 (.invokevirtual 89) 3 691 := ⟨by decide +kernel, rfl⟩
theorem dL_law_691 : zD cL_law 691 (.if_icmp .eq 110) 3 694 := ⟨by decide +kernel, rfl⟩
theorem dL_law_694 : zD cL_law 694 (.iconst 0) 1 695 := ⟨by decide +kernel, rfl⟩
theorem dL_law_695 : zD cL_law 695 .ireturn 1 696 := ⟨by decide +kernel, rfl⟩
theorem dL_law_696 : zD cL_law 696 (.aload_n 1) 1 697 := ⟨by decide +kernel, rfl⟩
theorem dL_law_697 : zD cL_law 697 (.aload_n 0) 1 698 := ⟨by decide +kernel, rfl⟩
theorem dL_law_698 : zD cL_law 698 (.iload_n 3) 1 699 := ⟨by decide +kernel, rfl⟩
theorem dL_law_699 : zD cL_law 699 (.iconst 1) 1 700 := ⟨by decide +kernel, rfl⟩
theorem dL_law_700 : zD cL_law 700 .iadd 1 701 := ⟨by decide +kernel, rfl⟩
theorem dL_law_701 : zD cL_law 701 .iaload 1 702 := ⟨by decide +kernel, rfl⟩
theorem dL_law_702 : zD cL_law 702 (.aload_n 0) 1 703 := ⟨by decide +kernel, rfl⟩
theorem dL_law_703 : zD cL_law 703 (.iload_n 3) 1 704 := ⟨by decide +kernel, rfl⟩
theorem dL_law_704 : zD cL_law 704 (.iconst 2) 1 705 := ⟨by decide +kernel, rfl⟩
theorem dL_law_705 : zD cL_law 705 .iadd 1 706 := ⟨by decide +kernel, rfl⟩
theorem dL_law_706 : zD cL_law 706 .iaload 1 707 := ⟨by decide +kernel, rfl⟩
theorem dL_law_707 : zD cL_law 707 (.aload_n 0) 1 708 := ⟨by decide +kernel, rfl⟩
theorem dL_law_708 : zD cL_law 708 (.iload_n 3) 1 709 := ⟨by decide +kernel, rfl⟩
theorem dL_law_709 : zD cL_law 709 (.iconst 3) 1 710 := ⟨by decide +kernel, rfl⟩
theorem dL_law_710 : zD cL_law 710 .iadd 1 711 := ⟨by decide +kernel, rfl⟩
theorem dL_law_711 : zD cL_law 711 .iaload 1 712 := ⟨by decide +kernel, rfl⟩
theorem dL_law_712 : zD cL_law 712 (.ifCond .eq 7) 3 715 := ⟨by decide +kernel, rfl⟩
theorem dL_law_715 : zD cL_law 715 (.iconst 1) 1 716 := ⟨by decide +kernel, rfl⟩
theorem dL_law_716 : zD cL_law 716 (.goto 4) 3 719 := ⟨by decide +kernel, rfl⟩
theorem dL_law_719 : zD cL_law 719 (.iconst 0) 1 720 := ⟨by decide +kernel, rfl⟩
theorem dL_law_720 : zD cL_law 720 (.invokevirtual 90) 3 723 := ⟨by decide +kernel, rfl⟩
theorem dL_law_723 : zD cL_law 723 (.aload_n 2) 1 724 := ⟨by decide +kernel, rfl⟩
theorem dL_law_724 : zD cL_law 724 (.aload_n 0) 1 725 := ⟨by decide +kernel, rfl⟩
theorem dL_law_725 : zD cL_law 725 (.iload_n 3) 1 726 := ⟨by decide +kernel, rfl⟩
theorem dL_law_726 : zD cL_law 726 (.iconst 1) 1 727 := ⟨by decide +kernel, rfl⟩
theorem dL_law_727 : zD cL_law 727 .iadd 1 728 := ⟨by decide +kernel, rfl⟩
theorem dL_law_728 : zD cL_law 728 .iaload 1 729 := ⟨by decide +kernel, rfl⟩
theorem dL_law_729 : zD cL_law 729 (.aload_n 0) 1 730 := ⟨by decide +kernel, rfl⟩
theorem dL_law_730 : zD cL_law 730 (.iload_n 3) 1 731 := ⟨by decide +kernel, rfl⟩
theorem dL_law_731 : zD cL_law 731 (.iconst 2) 1 732 := ⟨by decide +kernel, rfl⟩
theorem dL_law_732 : zD cL_law 732 .iadd 1 733 := ⟨by decide +kernel, rfl⟩
theorem dL_law_733 : zD cL_law 733 .iaload 1 734 := ⟨by decide +kernel, rfl⟩
theorem dL_law_734 : zD cL_law 734 (.aload_n 0) 1 735 := ⟨by decide +kernel, rfl⟩
theorem dL_law_735 : zD cL_law 735 (.iload_n 3) 1 736 := ⟨by decide +kernel, rfl⟩
theorem dL_law_736 : zD cL_law 736 (.iconst 3) 1 737 := ⟨by decide +kernel, rfl⟩
theorem dL_law_737 : zD cL_law 737 .iadd 1 738 := ⟨by decide +kernel, rfl⟩
theorem dL_law_738 : zD cL_law 738 .iaload 1 739 := ⟨by decide +kernel, rfl⟩
theorem dL_law_739 : zD cL_law 739 (.ifCond .eq 7) 3 742 := ⟨by decide +kernel, rfl⟩
theorem dL_law_742 : zD cL_law 742 (.iconst 1) 1 743 := ⟨by decide +kernel, rfl⟩
theorem dL_law_743 : zD cL_law 743 (.goto 4) 3 746 := ⟨by decide +kernel, rfl⟩
theorem dL_law_746 : zD cL_law 746 (.iconst 0) 1 747 := ⟨by decide +kernel, rfl⟩
theorem dL_law_747 : zD cL_law 747 (.invokevirtual 94) 3 750 := ⟨by decide +kernel, rfl⟩
theorem dL_law_750 : zD cL_law 750 (.if_icmp .eq 51) 3 753 := ⟨by decide +kernel, rfl⟩
theorem dL_law_753 : zD cL_law 753 (.iconst 0) 1 754 := ⟨by decide +kernel, rfl⟩
theorem dL_law_754 : zD cL_law 754 .ireturn 1 755 := ⟨by decide +kernel, rfl⟩
theorem dL_law_755 : zD cL_law 755 (.aload_n 1) 1 756 := ⟨by decide +kernel, rfl⟩
theorem dL_law_756 : zD cL_law 756 (.aload_n 0) 1 757 := ⟨by decide +kernel, rfl⟩
theorem dL_law_757 : zD cL_law 757 (.iload_n 3) 1 758 := ⟨by decide +kernel, rfl⟩
theorem dL_law_758 : zD cL_law 758 (.iconst 1) 1 759 := ⟨by decide +kernel, rfl⟩
theorem dL_law_759 : zD cL_law 759 .iadd 1 760 := ⟨by decide +kernel, rfl⟩
theorem dL_law_760 : zD cL_law 760 .iaload 1 761 := ⟨by decide +kernel, rfl⟩
theorem dL_law_761 : zD cL_law 761 (.invokevirtual 95) 3 764 := ⟨by decide +kernel, rfl⟩
theorem dL_law_764 : zD cL_law 764 (.aload_n 2) 1 765 := ⟨by decide +kernel, rfl⟩
theorem dL_law_765 : zD cL_law 765 (.aload_n 0) 1 766 := ⟨by decide +kernel, rfl⟩
theorem dL_law_766 : zD cL_law 766 (.iload_n 3) 1 767 := ⟨by decide +kernel, rfl⟩
theorem dL_law_767 : zD cL_law 767 (.iconst 1) 1 768 := ⟨by decide +kernel, rfl⟩
theorem dL_law_768 : zD cL_law 768 .iadd 1 769 := ⟨by decide +kernel, rfl⟩
theorem dL_law_769 : zD cL_law 769 .iaload 1 770 := ⟨by decide +kernel, rfl⟩
theorem dL_law_770 : zD cL_law 770 (.invokevirtual 98) 3 773 := ⟨by decide +kernel, rfl⟩
theorem dL_law_773 : zD cL_law 773 (.if_icmp .eq 28) 3 776 := ⟨by decide +kernel, rfl⟩
theorem dL_law_776 : zD cL_law 776 (.iconst 0) 1 777 := ⟨by decide +kernel, rfl⟩
theorem dL_law_777 : zD cL_law 777 .ireturn 1 778 := ⟨by decide +kernel, rfl⟩
theorem dL_law_778 : zD cL_law 778 (.aload_n 1) 1 779 := ⟨by decide +kernel, rfl⟩
theorem dL_law_779 : zD cL_law 779 (.aload_n 0) 1 780 := ⟨by decide +kernel, rfl⟩
theorem dL_law_780 : zD cL_law 780 (.iload_n 3) 1 781 := ⟨by decide +kernel, rfl⟩
theorem dL_law_781 : zD cL_law 781 (.iconst 1) 1 782 := ⟨by decide +kernel, rfl⟩
theorem dL_law_782 : zD cL_law 782 .iadd 1 783 := ⟨by decide +kernel, rfl⟩
theorem dL_law_783 : zD cL_law 783 .iaload 1 784 := ⟨by decide +kernel, rfl⟩
theorem dL_law_784 : zD cL_law 784 (.invokevirtual 99) 3 787 := ⟨by decide +kernel, rfl⟩
theorem dL_law_787 : zD cL_law 787 (.aload_n 2) 1 788 := ⟨by decide +kernel, rfl⟩
theorem dL_law_788 : zD cL_law 788 (.aload_n 0) 1 789 := ⟨by decide +kernel, rfl⟩
theorem dL_law_789 : zD cL_law 789 (.iload_n 3) 1 790 := ⟨by decide +kernel, rfl⟩
theorem dL_law_790 : zD cL_law 790 (.iconst 1) 1 791 := ⟨by decide +kernel, rfl⟩
theorem dL_law_791 : zD cL_law 791 .iadd 1 792 := ⟨by decide +kernel, rfl⟩
theorem dL_law_792 : zD cL_law 792 .iaload 1 793 := ⟨by decide +kernel, rfl⟩
theorem dL_law_793 : zD cL_law 793 (.invokevirtual 102) 3 796 := ⟨by decide +kernel, rfl⟩
theorem dL_law_796 : zD cL_law 796 (.if_icmp .eq 5) 3 799 := ⟨by decide +kernel, rfl⟩
theorem dL_law_799 : zD cL_law 799 (.iconst 0) 1 800 := ⟨by decide +kernel, rfl⟩
theorem dL_law_800 : zD cL_law 800 .ireturn 1 801 := ⟨by decide +kernel, rfl⟩
theorem dL_law_801 : zD cL_law 801 (.iinc 3 5) 3 804 := ⟨by decide +kernel, rfl⟩
theorem dL_law_804 : zD cL_law 804 (.goto (-786)) 3 807 := ⟨by decide +kernel, rfl⟩
theorem dL_law_807 : zD cL_law 807 (.iconst 1) 1 808 := ⟨by decide +kernel, rfl⟩
theorem dL_law_808 : zD cL_law 808 .ireturn 1 809 := ⟨by decide +kernel, rfl⟩
end
section
/-! ===== the abstract memory: places 0, 1, .. ; a shape a place; ints, longs, references by place and index ===== -/
abbrev zS : Type := List (Nat × Nat)
abbrev zMI : Type := Nat → Nat → Int32
abbrev zML : Type := Nat → Nat → Int64
abbrev zMR : Type := Nat → Nat → Option Nat
abbrev zGt : Type := ClassId × ClassId × ClassId
def zu (I : zMI) (p k : Nat) (v : Int32) : zMI := fun q j => if q = p ∧ j = k then v else I q j
def zuL (I : zML) (p k : Nat) (v : Int64) : zML := fun q j => if q = p ∧ j = k then v else I q j
def zuR (I : zMR) (p k : Nat) (v : Option Nat) : zMR := fun q j => if q = p ∧ j = k then v else I q j
def zKD : List (List Nat) := [[2, 0, 0, 0, 0, 0, 0, 0], [2, 0, 0], [2, 2, 2, 2, 2, 0, 0, 0, 0, 0, 0], [2], [2, 2, 2, 2, 2, 2, 2, 2, 0, 0, 0], [2, 2, 2, 2, 0, 2, 2, 2, 2, 2, 2, 0, 0], [2, 2, 0, 2, 2, 0, 2, 2, 2, 2, 2, 0, 0, 0, 1, 2]]
def zkd (ci k : Nat) : Nat := (zKD.getD ci []).getD k 0
def zN (ci : Nat) : Nat := (zKD.getD ci []).length
def zF (ρ : Nat → Nat) (I : zMI) (L : zML) (R : zMR) (ci p k : Nat) : Value := if zkd ci k = 0 then .int (I p k) else if zkd ci k = 1 then .long (L p k) else va_rf ((R p k).map ρ)
def zfs (ρ : Nat → Nat) (I : zMI) (L : zML) (R : zMR) (ci p : Nat) : List Value := (List.range (zN ci)).map (zF ρ I L R ci p)
def zE (G : zGt) (ρ : Nat → Nat) (S : zS) (I : zMI) (L : zML) (R : zMR) (p : Nat) : va_E :=
  match S[p]? with
  | some (0, n) => .inl (G.1, n, .inl (I p))
  | some (1, n) => .inl (G.2.1, n, .inl (I p))
  | some (2, n) => .inl (G.2.2, n, .inr (.inr (.inr (.inr (fun i => (R p i).map ρ)))))
  | some (ci + 3, _) => .inr (ci, zfs ρ I L R ci p)
  | none => .inr (0, [])
def zr (as : List Nat) : Nat → Nat := fun q => as.getD q 0
def zW (G : zGt) (as : List Nat) (S : zS) (I : zMI) (L : zML) (R : zMR) : va_W := (List.range as.length).map (fun p => (zr as p, zE G (zr as) S I L R p))
def zc (as : List Nat) : Value → Value
  | .ref k => .ref (zr as k)
  | .retAddr k => .ref k
  | v => v
theorem zc_cat (as : List Nat) (v : Value) : (zc as v).category = v.category := by cases v <;> rfl
theorem zc_cats (as : List Nat) (st : List Value) : ((st.map (zc as)).map fun v => v.category).sum = (st.map fun v => v.category).sum := by
  rw [List.map_map]
  congr 1
  exact List.map_congr_left (fun v _ => zc_cat as v)
theorem zW_get {G : zGt} {as : List Nat} {S : zS} {I : zMI} {L : zML} {R : zMR} {p : Nat} (h : p < as.length) : (zW G as S I L R)[p]? = some (zr as p, zE G (zr as) S I L R p) := by
  simp [zW, h]
theorem zW_len {G : zGt} {as : List Nat} {S : zS} {I : zMI} {L : zML} {R : zMR} : (zW G as S I L R).length = as.length := by simp [zW]
theorem zW_set {G : zGt} {as : List Nat} {S : zS} {I I2 : zMI} {L L2 : zML} {R R2 : zMR} {p : Nat} (hne : ∀ q, q ≠ p → zE G (zr as) S I2 L2 R2 q = zE G (zr as) S I L R q) :
    (zW G as S I L R).set p (zr as p, zE G (zr as) S I2 L2 R2 p) = zW G as S I2 L2 R2 := by
  apply List.ext_getElem?
  intro q
  by_cases hq : q < as.length
  · rw [zW_get hq]
    by_cases e : q = p
    · subst e
      rw [List.getElem?_set_self (by rw [zW_len]; exact hq)]
    · rw [List.getElem?_set_ne (Ne.symm e), zW_get hq, hne q e]
  · rw [List.getElem?_eq_none (by rw [List.length_set, zW_len]; omega), List.getElem?_eq_none (by rw [zW_len]; omega)]
theorem zu_ne {I : zMI} {p k q : Nat} {v : Int32} (h : q ≠ p) : zu I p k v q = I q := by
  funext j; simp [zu, h]
theorem zuL_ne {I : zML} {p k q : Nat} {v : Int64} (h : q ≠ p) : zuL I p k v q = I q := by
  funext j; simp [zuL, h]
theorem zuR_ne {I : zMR} {p k q : Nat} {v : Option Nat} (h : q ≠ p) : zuR I p k v q = I q := by
  funext j; simp [zuR, h]
theorem zu_at {I : zMI} {p k : Nat} {v : Int32} : zu I p k v p = upd (I p) k v := by
  funext j; simp [zu, upd]
theorem zuR_at {I : zMR} {p k : Nat} {v : Option Nat} : zuR I p k v p = va_up (I p) k v := by
  funext j; simp [zuR, va_up]
theorem zu_same {I : zMI} {p k : Nat} {v : Int32} : zu I p k v p k = v := by simp [zu]
theorem zu_nk {I : zMI} {p k q j : Nat} {v : Int32} (h : q ≠ p ∨ j ≠ k) : zu I p k v q j = I q j := by
  unfold zu
  rw [if_neg]
  rintro ⟨h1, h2⟩
  rcases h with h | h
  · exact h h1
  · exact h h2
theorem zE_congr {G : zGt} {ρ : Nat → Nat} {S : zS} {I I2 : zMI} {L L2 : zML} {R R2 : zMR} {q : Nat} (h1 : I2 q = I q) (h2 : L2 q = L q) (h3 : R2 q = R q) : zE G ρ S I2 L2 R2 q = zE G ρ S I L R q := by
  unfold zE zfs zF
  rw [h1, h2, h3]
/-- the classes' tables -/
def zCl (ci : Nat) (C : String) (T : u_T) (N : Nat) (ty : Nat → FieldType) : Prop := vwCl[ci]? = some (C, T, N) ∧ (∀ w ∈ u_ws C T N, w ∈ zT) ∧ (∀ k, k < N → parseFieldDescriptor (T k).2.2.1 = some (ty k)) ∧ (∀ a, a < N → ∀ b, b < N → a ≠ b → (T a).2.1 ≠ (T b).2.1) ∧ N = zN ci ∧ Cond.instantiable C N ∈ zT ∧ Cond.initialized C ∈ zT
/-- a field by its pool entry: class, place, kind (0 int, 1 long, 2 reference, 3 boolean), final -/
def zFL (own : String) (idx ci k kd : Nat) (fin : Bool) : Prop := ∃ (C : String) (T : u_T) (N : Nat) (ty : Nat → FieldType), zCl ci C T N ty ∧ k < N ∧ Cond.fieldLink own idx (T k).1 (T k).2.1 (T k).2.2.1 ∈ zT ∧ (T k).2.2.2 = fin ∧ zkd ci k = (if kd = 3 then 0 else kd) ∧ (kd = 0 → ty k = .int) ∧ (kd = 1 → ty k = .long) ∧ (kd = 2 → (∃ n, ty k = .object n) ∨ ∃ t, ty k = .array t) ∧ (kd = 3 → ty k = .boolean)
def zTy (G : zGt) : List (ClassId × FieldType) := [(G.1, .int), (G.2.1, .boolean), (G.2.2, .object RX2)]
def zRep (D : va_G) (G : zGt) (as : List Nat) (A : Nat → Prop) (S : zS) (I : zMI) (L : zML) (R : zMR) (H : Heap) (s : State) : Prop :=
  as.length = S.length ∧ va_P D vwCl (zW G as S I L R) H ∧ va_D A (zW G as S I L R) ∧ va_K D vwCl (zTy G) s
def zH (ls : Array Slot) (nL : Nat) (as : List Nat) (lv : List (Option Value)) : Prop := ls.size = nL ∧ lv_wf ls ∧ lv.length ≤ nL ∧ ∀ (i : Nat) (v : Value), lv[i]? = some (some v) → ls[i]? = some (.val (zc as v))
def zNest : List Cond := [.methodLinkNest "TwoMasks" 9 ⟨"TwoMasks$Layout", "<init>", "()V"⟩ "TwoMasks", .methodLinkNest "TwoMasks" 18 ⟨"TwoMasks$Pieces", "<init>", "()V"⟩ "TwoMasks", .methodLinkNest "TwoMasks$History" 24 ⟨"TwoMasks$Layout", "<init>", "()V"⟩ "TwoMasks", .methodLinkNest "TwoMasks$Layout" 97 ⟨"TwoMasks", "isPlace", "(I)Z"⟩ "TwoMasks", .methodLinkNest "TwoMasks$Pieces" 57 ⟨"TwoMasks", "lowestOf", "(I)I"⟩ "TwoMasks", .methodLinkNest "TwoMasks$Pieces" 65 ⟨"TwoMasks", "withoutLowest", "(I)I"⟩ "TwoMasks"]
def zNw (s : State) : Prop := (∀ w ∈ zNest, va_Nw w s) ∧ va_AO RX2 s
def zSc (sc : Option (Nat × Nat × (Nat → Int32))) (A : Nat → Prop) (s : State) : Prop := match sc with
  | none => True
  | some q => va_X q.1 q.2.1 q.2.2 s s.heap ∧ q.1 < s.heap.size ∧ ¬ A q.1
/-- a method's own numbers: class, code, locals, answer's type, a constructor or not, depth, new cells and slots in all, the script -/
abbrev zG : Type := String × ByteArray × Nat × Option FieldType × Bool × Nat × (Nat × Nat) × Option (Nat × Nat × (Nat → Int32))
abbrev zMt (own : String) (cc : ByteArray) (nL : Nat) (rt : Option FieldType) (d : Nat) : zG := (own, cc, nL, rt, false, d, (0, 0), none)
def zX (g : zG) (p : Program) (l : Launch) (e : Env) (Rm : Room) (s : State) (m : MethodId) (args : Array Value) (meth : Method) (c : Code) (A : Nat → Prop) : Prop :=
  p.tables.exec = Jvm.exec ∧ c.code = g.2.1 ∧ meth.sig.returnType = g.2.2.2.1 ∧ meth.locks = false ∧ c.maxLocals = g.2.2.1 ∧ s.vm.findClass g.1 = some m.cls ∧ (∀ w ∈ zT, w.before args s = true) ∧ (g.2.2.2.2.1 = true → meth.name = "<init>") ∧ g.2.2.2.2.2.1 ≤ Rm.frames ∧ 40 * g.2.2.2.2.2.1 ≤ Rm.locals ∧ Rm.cells = g.2.2.2.2.2.2.1.1 ∧ Rm.slots = g.2.2.2.2.2.2.1.2 ∧ zNw s ∧ (∀ q : Nat, s.heap.size ≤ q → A q) ∧ zSc g.2.2.2.2.2.2.2 A s
abbrev zPost : Type := zS → zMI → zML → zMR → Option Value → Prop
def zri : Option Value → Instr
  | none => .return_
  | some (.ref _) => .areturn
  | some _ => .ireturn
def zVr : Option FieldType → Option Value → Prop
  | none, none => True
  | some ty, some (.int v) => narrow ty (.int v) = .int v
  | some (.object _), some (.ref _) => True
  | _, _ => False
def zEnd (g : zG) (Post : zPost) (p : Program) (l : Launch) (e : Env) (Rm : Room) (s : State) (m : MethodId) (args : Array Value) (below : List Frame) (meth : Method) (c : Code) (D : va_G) (G : zGt) (as : List Nat) (A : Nat → Prop) (Q : State → Prop) : Prop :=
  ∀ (S : zS) (I : zMI) (L : zML) (R : zMR) (r : Option Value) (as2 : List Nat) (H : Heap) (locs : List Loc) (pc : Nat) (ls : Array Slot), decode g.2.1 pc = .ok (zri r, 1) → Post S I L R r → zVr g.2.2.2.1 r → as <+: as2 → zRep D G as2 A S I L R H s → va_S A s.heap H locs →
    W p l e Rm s m args below meth c H locs g.2.2.2.2.2.2.1.1 g.2.2.2.2.2.2.1.2 Q (F0 m pc ls (r.toList.map (zc as2)))
/-- THE JUDGEMENT: at pc, with these locals, stack and memory, the method comes to its end with Post -/
def zV (g : zG) (Post : zPost) (u : Nat × Nat) (S : zS) (I : zMI) (L : zML) (R : zMR) (pc : Nat) (lv : List (Option Value)) (st : List Value) : Prop :=
  ∀ (p : Program) (l : Launch) (e : Env) (Rm : Room) (s : State) (m : MethodId) (args : Array Value) (below : List Frame) (meth : Method) (c : Code) (D : va_G) (G : zGt) (as : List Nat) (A : Nat → Prop) (H : Heap) (locs : List Loc) (ls : Array Slot) (Q : State → Prop),
    zX g p l e Rm s m args meth c A → va_S A s.heap H locs → zRep D G as A S I L R H s → zH ls g.2.2.1 as lv → zEnd g Post p l e Rm s m args below meth c D G as A Q →
    W p l e Rm s m args below meth c H locs u.1 u.2 Q (F0 m pc ls (st.map (zc as)))
section ZRules
variable {g : zG} {Post : zPost} {u : Nat × Nat} {S : zS} {I : zMI} {L : zML} {R : zMR} {pc pc2 : Nat} {lv : List (Option Value)} {st : List Value}
theorem z_iconst {n : Int} (v : Int32) (hd : zD g.2.1 pc (.iconst n) 1 pc2) (hv : Int32.ofInt n = v) (k : zV g Post u S I L R pc2 lv (.int v :: st)) : zV g Post u S I L R pc lv st := by
  intro p l e Rm s m args below meth c D G as A H locs ls Q hX hS hR hL hE
  obtain ⟨hd, rfl⟩ := hd
  exact lv_iconst hX.1 hX.2.1 hd hv (k p l e Rm s m args below meth c D G as A H locs ls Q hX hS hR hL hE)
theorem z_bipush {n : Int} (v : Int32) (hd : zD g.2.1 pc (.bipush n) 2 pc2) (hv : (Int8.ofInt n).toInt32 = v) (k : zV g Post u S I L R pc2 lv (.int v :: st)) : zV g Post u S I L R pc lv st := by
  intro p l e Rm s m args below meth c D G as A H locs ls Q hX hS hR hL hE
  obtain ⟨hd, rfl⟩ := hd
  exact lv_bipush hX.1 hX.2.1 hd hv (k p l e Rm s m args below meth c D G as A H locs ls Q hX hS hR hL hE)
theorem z_sipush {n : Int} (v : Int32) (hd : zD g.2.1 pc (.sipush n) 3 pc2) (hv : (Int16.ofInt n).toInt32 = v) (k : zV g Post u S I L R pc2 lv (.int v :: st)) : zV g Post u S I L R pc lv st := by
  intro p l e Rm s m args below meth c D G as A H locs ls Q hX hS hR hL hE
  obtain ⟨hd, rfl⟩ := hd
  exact lv_sipush hX.1 hX.2.1 hd hv (k p l e Rm s m args below meth c D G as A H locs ls Q hX hS hR hL hE)
theorem z_lconst {n : Fin 2} (v : Int64) (hd : zD g.2.1 pc (.lconst n) 1 pc2) (hv : Int64.ofNat (n : Nat) = v) (k : zV g Post u S I L R pc2 lv (.long v :: st)) : zV g Post u S I L R pc lv st := by
  intro p l e Rm s m args below meth c D G as A H locs ls Q hX hS hR hL hE
  obtain ⟨hd, rfl⟩ := hd
  exact lv_lconst hX.1 hX.2.1 hd hv (k p l e Rm s m args below meth c D G as A H locs ls Q hX hS hR hL hE)
theorem z_ldc {idx : Nat} {v : Int32} (hd : zD g.2.1 pc (.ldc idx) 2 pc2) (hc : Cond.constant g.1 idx v ∈ zT) (k : zV g Post u S I L R pc2 lv (.int v :: st)) : zV g Post u S I L R pc lv st := by
  intro p l e Rm s m args below meth c D G as A H locs ls Q hX hS hR hL hE
  obtain ⟨hd, rfl⟩ := hd
  exact lv_ldc hX.1 hX.2.1 hX.2.2.2.2.2.1 (hX.2.2.2.2.2.2.1 _ hc) hd (k p l e Rm s m args below meth c D G as A H locs ls Q hX hS hR hL hE)
theorem z_ldcw {idx : Nat} {v : Int32} (hd : zD g.2.1 pc (.ldc_w idx) 3 pc2) (hc : Cond.constant g.1 idx v ∈ zT) (k : zV g Post u S I L R pc2 lv (.int v :: st)) : zV g Post u S I L R pc lv st := by
  intro p l e Rm s m args below meth c D G as A H locs ls Q hX hS hR hL hE
  obtain ⟨hd, rfl⟩ := hd
  exact lv_ldcw hX.1 hX.2.1 hX.2.2.2.2.2.1 (hX.2.2.2.2.2.2.1 _ hc) hd (k p l e Rm s m args below meth c D G as A H locs ls Q hX hS hR hL hE)
theorem z_ldc2 {idx : Nat} {v : Int64} (hd : zD g.2.1 pc (.ldc2_w idx) 3 pc2) (hc : Cond.constantLong g.1 idx v ∈ zT) (k : zV g Post u S I L R pc2 lv (.long v :: st)) : zV g Post u S I L R pc lv st := by
  intro p l e Rm s m args below meth c D G as A H locs ls Q hX hS hR hL hE
  obtain ⟨hd, rfl⟩ := hd
  exact lv_ldc2 hX.1 hX.2.1 hX.2.2.2.2.2.1 (hX.2.2.2.2.2.2.1 _ hc) hd (k p l e Rm s m args below meth c D G as A H locs ls Q hX hS hR hL hE)
theorem z_iload {i : Nat} {x : Int32} (hd : zD g.2.1 pc (.iload i) 2 pc2) (hl : lv[i]? = some (some (.int x))) (k : zV g Post u S I L R pc2 lv (.int x :: st)) : zV g Post u S I L R pc lv st := by
  intro p l e Rm s m args below meth c D G as A H locs ls Q hX hS hR hL hE
  obtain ⟨hd, rfl⟩ := hd
  exact lv_iload hX.1 hX.2.1 hd (hL.2.2.2 i _ hl) (k p l e Rm s m args below meth c D G as A H locs ls Q hX hS hR hL hE)
theorem z_iload_n {i : Fin 4} {x : Int32} (hd : zD g.2.1 pc (.iload_n i) 1 pc2) (hl : lv[(i : Nat)]? = some (some (.int x))) (k : zV g Post u S I L R pc2 lv (.int x :: st)) : zV g Post u S I L R pc lv st := by
  intro p l e Rm s m args below meth c D G as A H locs ls Q hX hS hR hL hE
  obtain ⟨hd, rfl⟩ := hd
  exact lv_iload_n hX.1 hX.2.1 hd rfl (hL.2.2.2 i _ hl) (k p l e Rm s m args below meth c D G as A H locs ls Q hX hS hR hL hE)
theorem z_lload {i : Nat} {x : Int64} (hd : zD g.2.1 pc (.lload i) 2 pc2) (hl : lv[i]? = some (some (.long x))) (k : zV g Post u S I L R pc2 lv (.long x :: st)) : zV g Post u S I L R pc lv st := by
  intro p l e Rm s m args below meth c D G as A H locs ls Q hX hS hR hL hE
  obtain ⟨hd, rfl⟩ := hd
  exact lv_lload hX.1 hX.2.1 hd (hL.2.2.2 i _ hl) (k p l e Rm s m args below meth c D G as A H locs ls Q hX hS hR hL hE)
theorem z_lload_n {i : Fin 4} {x : Int64} (hd : zD g.2.1 pc (.lload_n i) 1 pc2) (hl : lv[(i : Nat)]? = some (some (.long x))) (k : zV g Post u S I L R pc2 lv (.long x :: st)) : zV g Post u S I L R pc lv st := by
  intro p l e Rm s m args below meth c D G as A H locs ls Q hX hS hR hL hE
  obtain ⟨hd, rfl⟩ := hd
  exact lv_lload_n hX.1 hX.2.1 hd rfl (hL.2.2.2 i _ hl) (k p l e Rm s m args below meth c D G as A H locs ls Q hX hS hR hL hE)
theorem z_aload {i : Nat} {x : Nat} (hd : zD g.2.1 pc (.aload i) 2 pc2) (hl : lv[i]? = some (some (.ref x))) (k : zV g Post u S I L R pc2 lv (.ref x :: st)) : zV g Post u S I L R pc lv st := by
  intro p l e Rm s m args below meth c D G as A H locs ls Q hX hS hR hL hE
  obtain ⟨hd, rfl⟩ := hd
  exact lv_aload hX.1 hX.2.1 hd (hL.2.2.2 i _ hl) (k p l e Rm s m args below meth c D G as A H locs ls Q hX hS hR hL hE)
theorem z_aload_n {i : Fin 4} {x : Nat} (hd : zD g.2.1 pc (.aload_n i) 1 pc2) (hl : lv[(i : Nat)]? = some (some (.ref x))) (k : zV g Post u S I L R pc2 lv (.ref x :: st)) : zV g Post u S I L R pc lv st := by
  intro p l e Rm s m args below meth c D G as A H locs ls Q hX hS hR hL hE
  obtain ⟨hd, rfl⟩ := hd
  exact lv_aload_n hX.1 hX.2.1 hd rfl (hL.2.2.2 i _ hl) (k p l e Rm s m args below meth c D G as A H locs ls Q hX hS hR hL hE)
theorem z_aloadR {i : Nat} {x : Nat} (hd : zD g.2.1 pc (.aload i) 2 pc2) (hl : lv[i]? = some (some (.retAddr x))) (k : zV g Post u S I L R pc2 lv (.retAddr x :: st)) : zV g Post u S I L R pc lv st := by
  intro p l e Rm s m args below meth c D G as A H locs ls Q hX hS hR hL hE
  obtain ⟨hd, rfl⟩ := hd
  exact lv_aload hX.1 hX.2.1 hd (hL.2.2.2 i _ hl) (k p l e Rm s m args below meth c D G as A H locs ls Q hX hS hR hL hE)
theorem z_aload_nR {i : Fin 4} {x : Nat} (hd : zD g.2.1 pc (.aload_n i) 1 pc2) (hl : lv[(i : Nat)]? = some (some (.retAddr x))) (k : zV g Post u S I L R pc2 lv (.retAddr x :: st)) : zV g Post u S I L R pc lv st := by
  intro p l e Rm s m args below meth c D G as A H locs ls Q hX hS hR hL hE
  obtain ⟨hd, rfl⟩ := hd
  exact lv_aload_n hX.1 hX.2.1 hd rfl (hL.2.2.2 i _ hl) (k p l e Rm s m args below meth c D G as A H locs ls Q hX hS hR hL hE)
def zl (as : List Nat) (lv : List (Option Value)) : List (Nat × Value) := (List.range lv.length).filterMap (fun j => ((lv[j]?).join).map (fun w => (j, zc as w)))
theorem zl_mem {as : List Nat} {lv : List (Option Value)} {j : Nat} {w : Value} : (j, w) ∈ zl as lv ↔ ∃ w0, lv[j]? = some (some w0) ∧ w = zc as w0 := by
  unfold zl
  rw [List.mem_filterMap]
  constructor
  · rintro ⟨a, ha, h⟩
    cases h1 : lv[a]? with
    | none => rw [h1] at h; cases h
    | some o =>
      cases o with
      | none => rw [h1] at h; cases h
      | some w0 =>
        rw [h1] at h
        simp only [Option.join_some, Option.map_some, Option.some.injEq, Prod.mk.injEq] at h
        obtain ⟨rfl, rfl⟩ := h
        exact ⟨w0, h1, rfl⟩
  · rintro ⟨w0, h, rfl⟩
    refine ⟨j, List.mem_range.mpr (List.getElem?_eq_some_iff.mp h).1, ?_⟩
    rw [h]
    rfl
theorem zH_has {ls : Array Slot} {nL : Nat} {as : List Nat} {lv : List (Option Value)} (h : zH ls nL as lv) : lv_has ls nL (zl as lv) := by
  refine ⟨h.1, h.2.1, fun q hq => ?_⟩
  obtain ⟨j, w⟩ := q
  obtain ⟨w0, h1, rfl⟩ := zl_mem.mp hq
  exact h.2.2.2 j w0 h1
def zCat (lv : List (Option Value)) : Bool := lv.all (fun o => match o with | none => true | some v => v.category == 1)
theorem zH_set {ls ls2 : Array Slot} {nL : Nat} {as : List Nat} {lv : List (Option Value)} {i : Nat} {v : Value} (h : zH ls nL as lv) (hc : zCat lv = true)
    (h2 : lv_has ls2 nL ((i, zc as v) :: (zl as lv).filter (fun q => !(q.1 == i) && !(q.1 + 1 == i && q.2.category == 2)))) : zH ls2 nL as (lv.set i (some v)) := by
  refine ⟨h2.1, h2.2.1, by rw [List.length_set]; exact h.2.2.1, fun j w hj => ?_⟩
  by_cases e : j = i
  · subst e
    have hlt : j < lv.length := by
      have := (List.getElem?_eq_some_iff.mp hj).1
      rwa [List.length_set] at this
    rw [List.getElem?_set_self hlt] at hj
    cases hj
    exact h2.2.2 (j, zc as v) List.mem_cons_self
  · rw [List.getElem?_set_ne (Ne.symm e)] at hj
    refine h2.2.2 (j, zc as w) (List.mem_cons_of_mem _ (List.mem_filter.mpr ⟨zl_mem.mpr ⟨w, hj, rfl⟩, ?_⟩))
    have hw : (zc as w).category = 1 := by
      rw [zc_cat]
      have := List.all_eq_true.mp hc _ (List.mem_of_getElem? hj)
      simpa using this
    simp [e, hw]
theorem z_istore {i : Nat} {x : Int32} (hd : zD g.2.1 pc (.istore i) 2 pc2) (hi : i < lv.length) (hc : zCat lv = true) (k : zV g Post u S I L R pc2 (lv.set i (some (.int x))) st) : zV g Post u S I L R pc lv (.int x :: st) := by
  intro p l e Rm s m args below meth c D G as A H locs ls Q hX hS hR hL hE
  obtain ⟨hd, rfl⟩ := hd
  exact lv_istore hX.1 hX.2.1 hd (zH_has hL) (Nat.lt_of_lt_of_le hi hL.2.2.1) rfl (fun ls2 h2 => k p l e Rm s m args below meth c D G as A H locs ls2 Q hX hS hR (zH_set (v := .int x) hL hc h2) hE)
theorem z_istore_n {i : Fin 4} {x : Int32} (hd : zD g.2.1 pc (.istore_n i) 1 pc2) (hi : (i : Nat) < lv.length) (hc : zCat lv = true) (k : zV g Post u S I L R pc2 (lv.set (i : Nat) (some (.int x))) st) : zV g Post u S I L R pc lv (.int x :: st) := by
  intro p l e Rm s m args below meth c D G as A H locs ls Q hX hS hR hL hE
  obtain ⟨hd, rfl⟩ := hd
  exact lv_istore_n hX.1 hX.2.1 hd rfl (zH_has hL) (Nat.lt_of_lt_of_le hi hL.2.2.1) rfl (fun ls2 h2 => k p l e Rm s m args below meth c D G as A H locs ls2 Q hX hS hR (zH_set (v := .int x) hL hc h2) hE)
theorem z_astore {i : Nat} {x : Nat} (hd : zD g.2.1 pc (.astore i) 2 pc2) (hi : i < lv.length) (hc : zCat lv = true) (k : zV g Post u S I L R pc2 (lv.set i (some (.ref x))) st) : zV g Post u S I L R pc lv (.ref x :: st) := by
  intro p l e Rm s m args below meth c D G as A H locs ls Q hX hS hR hL hE
  obtain ⟨hd, rfl⟩ := hd
  exact lv_astore hX.1 hX.2.1 hd (zH_has hL) (Nat.lt_of_lt_of_le hi hL.2.2.1) rfl (fun ls2 h2 => k p l e Rm s m args below meth c D G as A H locs ls2 Q hX hS hR (zH_set (v := .ref x) hL hc h2) hE)
theorem z_astore_n {i : Fin 4} {x : Nat} (hd : zD g.2.1 pc (.astore_n i) 1 pc2) (hi : (i : Nat) < lv.length) (hc : zCat lv = true) (k : zV g Post u S I L R pc2 (lv.set (i : Nat) (some (.ref x))) st) : zV g Post u S I L R pc lv (.ref x :: st) := by
  intro p l e Rm s m args below meth c D G as A H locs ls Q hX hS hR hL hE
  obtain ⟨hd, rfl⟩ := hd
  exact lv_astore_n hX.1 hX.2.1 hd rfl (zH_has hL) (Nat.lt_of_lt_of_le hi hL.2.2.1) rfl (fun ls2 h2 => k p l e Rm s m args below meth c D G as A H locs ls2 Q hX hS hR (zH_set (v := .ref x) hL hc h2) hE)
theorem z_iinc {i : Nat} {n : Int} {x : Int32} (v : Int32) (hd : zD g.2.1 pc (.iinc i n) 3 pc2) (hl : lv[i]? = some (some (.int x))) (hc : zCat lv = true) (hv : x + Int32.ofInt n = v) (k : zV g Post u S I L R pc2 (lv.set i (some (.int v))) st) : zV g Post u S I L R pc lv st := by
  intro p l e Rm s m args below meth c D G as A H locs ls Q hX hS hR hL hE
  obtain ⟨hd, rfl⟩ := hd
  obtain ⟨j, hj⟩ := List.getElem?_of_mem (zl_mem.mpr ⟨_, hl, rfl⟩ : (i, zc as (.int x)) ∈ zl as lv)
  exact lv_iinc hX.1 hX.2.1 hd (zH_has hL) hj hv (Nat.lt_of_lt_of_le (List.getElem?_eq_some_iff.mp hl).1 hL.2.2.1) rfl (fun ls2 h2 => k p l e Rm s m args below meth c D G as A H locs ls2 Q hX hS hR (zH_set (v := .int v) hL hc h2) hE)
theorem z_ist0 {a0 : Option Value} {t : List (Option Value)} {x : Int32} (hd : zD g.2.1 pc (.istore_n 0) 1 pc2) (hc : zCat (a0 :: t) = true) (k : zV g Post u S I L R pc2 (some (.int x) :: t) st) : zV g Post u S I L R pc (a0 :: t) (.int x :: st) := z_istore_n hd (show 0 < _ by simp only [List.length_cons]; omega) hc k
theorem z_ast0 {a0 : Option Value} {t : List (Option Value)} {x : Nat} (hd : zD g.2.1 pc (.astore_n 0) 1 pc2) (hc : zCat (a0 :: t) = true) (k : zV g Post u S I L R pc2 (some (.ref x) :: t) st) : zV g Post u S I L R pc (a0 :: t) (.ref x :: st) := z_astore_n hd (show 0 < _ by simp only [List.length_cons]; omega) hc k
theorem z_iinc0 {t : List (Option Value)} {n : Int} {x : Int32} (v : Int32) (hd : zD g.2.1 pc (.iinc 0 n) 3 pc2) (hc : zCat (some (.int x) :: t) = true) (hv : x + Int32.ofInt n = v) (k : zV g Post u S I L R pc2 (some (.int v) :: t) st) : zV g Post u S I L R pc (some (.int x) :: t) st := z_iinc v hd rfl hc hv k
theorem z_ist1 {a0 a1 : Option Value} {t : List (Option Value)} {x : Int32} (hd : zD g.2.1 pc (.istore_n 1) 1 pc2) (hc : zCat (a0 :: a1 :: t) = true) (k : zV g Post u S I L R pc2 (a0 :: some (.int x) :: t) st) : zV g Post u S I L R pc (a0 :: a1 :: t) (.int x :: st) := z_istore_n hd (show 1 < _ by simp only [List.length_cons]; omega) hc k
theorem z_ast1 {a0 a1 : Option Value} {t : List (Option Value)} {x : Nat} (hd : zD g.2.1 pc (.astore_n 1) 1 pc2) (hc : zCat (a0 :: a1 :: t) = true) (k : zV g Post u S I L R pc2 (a0 :: some (.ref x) :: t) st) : zV g Post u S I L R pc (a0 :: a1 :: t) (.ref x :: st) := z_astore_n hd (show 1 < _ by simp only [List.length_cons]; omega) hc k
theorem z_iinc1 {a0 : Option Value} {t : List (Option Value)} {n : Int} {x : Int32} (v : Int32) (hd : zD g.2.1 pc (.iinc 1 n) 3 pc2) (hc : zCat (a0 :: some (.int x) :: t) = true) (hv : x + Int32.ofInt n = v) (k : zV g Post u S I L R pc2 (a0 :: some (.int v) :: t) st) : zV g Post u S I L R pc (a0 :: some (.int x) :: t) st := z_iinc v hd rfl hc hv k
theorem z_ist2 {a0 a1 a2 : Option Value} {t : List (Option Value)} {x : Int32} (hd : zD g.2.1 pc (.istore_n 2) 1 pc2) (hc : zCat (a0 :: a1 :: a2 :: t) = true) (k : zV g Post u S I L R pc2 (a0 :: a1 :: some (.int x) :: t) st) : zV g Post u S I L R pc (a0 :: a1 :: a2 :: t) (.int x :: st) := z_istore_n hd (show 2 < _ by simp only [List.length_cons]; omega) hc k
theorem z_ast2 {a0 a1 a2 : Option Value} {t : List (Option Value)} {x : Nat} (hd : zD g.2.1 pc (.astore_n 2) 1 pc2) (hc : zCat (a0 :: a1 :: a2 :: t) = true) (k : zV g Post u S I L R pc2 (a0 :: a1 :: some (.ref x) :: t) st) : zV g Post u S I L R pc (a0 :: a1 :: a2 :: t) (.ref x :: st) := z_astore_n hd (show 2 < _ by simp only [List.length_cons]; omega) hc k
theorem z_iinc2 {a0 a1 : Option Value} {t : List (Option Value)} {n : Int} {x : Int32} (v : Int32) (hd : zD g.2.1 pc (.iinc 2 n) 3 pc2) (hc : zCat (a0 :: a1 :: some (.int x) :: t) = true) (hv : x + Int32.ofInt n = v) (k : zV g Post u S I L R pc2 (a0 :: a1 :: some (.int v) :: t) st) : zV g Post u S I L R pc (a0 :: a1 :: some (.int x) :: t) st := z_iinc v hd rfl hc hv k
theorem z_ist3 {a0 a1 a2 a3 : Option Value} {t : List (Option Value)} {x : Int32} (hd : zD g.2.1 pc (.istore_n 3) 1 pc2) (hc : zCat (a0 :: a1 :: a2 :: a3 :: t) = true) (k : zV g Post u S I L R pc2 (a0 :: a1 :: a2 :: some (.int x) :: t) st) : zV g Post u S I L R pc (a0 :: a1 :: a2 :: a3 :: t) (.int x :: st) := z_istore_n hd (show 3 < _ by simp only [List.length_cons]; omega) hc k
theorem z_ast3 {a0 a1 a2 a3 : Option Value} {t : List (Option Value)} {x : Nat} (hd : zD g.2.1 pc (.astore_n 3) 1 pc2) (hc : zCat (a0 :: a1 :: a2 :: a3 :: t) = true) (k : zV g Post u S I L R pc2 (a0 :: a1 :: a2 :: some (.ref x) :: t) st) : zV g Post u S I L R pc (a0 :: a1 :: a2 :: a3 :: t) (.ref x :: st) := z_astore_n hd (show 3 < _ by simp only [List.length_cons]; omega) hc k
theorem z_iinc3 {a0 a1 a2 : Option Value} {t : List (Option Value)} {n : Int} {x : Int32} (v : Int32) (hd : zD g.2.1 pc (.iinc 3 n) 3 pc2) (hc : zCat (a0 :: a1 :: a2 :: some (.int x) :: t) = true) (hv : x + Int32.ofInt n = v) (k : zV g Post u S I L R pc2 (a0 :: a1 :: a2 :: some (.int v) :: t) st) : zV g Post u S I L R pc (a0 :: a1 :: a2 :: some (.int x) :: t) st := z_iinc v hd rfl hc hv k
theorem z_ist4 {a0 a1 a2 a3 a4 : Option Value} {t : List (Option Value)} {x : Int32} (hd : zD g.2.1 pc (.istore 4) 2 pc2) (hc : zCat (a0 :: a1 :: a2 :: a3 :: a4 :: t) = true) (k : zV g Post u S I L R pc2 (a0 :: a1 :: a2 :: a3 :: some (.int x) :: t) st) : zV g Post u S I L R pc (a0 :: a1 :: a2 :: a3 :: a4 :: t) (.int x :: st) := z_istore hd (show 4 < _ by simp only [List.length_cons]; omega) hc k
theorem z_ast4 {a0 a1 a2 a3 a4 : Option Value} {t : List (Option Value)} {x : Nat} (hd : zD g.2.1 pc (.astore 4) 2 pc2) (hc : zCat (a0 :: a1 :: a2 :: a3 :: a4 :: t) = true) (k : zV g Post u S I L R pc2 (a0 :: a1 :: a2 :: a3 :: some (.ref x) :: t) st) : zV g Post u S I L R pc (a0 :: a1 :: a2 :: a3 :: a4 :: t) (.ref x :: st) := z_astore hd (show 4 < _ by simp only [List.length_cons]; omega) hc k
theorem z_iinc4 {a0 a1 a2 a3 : Option Value} {t : List (Option Value)} {n : Int} {x : Int32} (v : Int32) (hd : zD g.2.1 pc (.iinc 4 n) 3 pc2) (hc : zCat (a0 :: a1 :: a2 :: a3 :: some (.int x) :: t) = true) (hv : x + Int32.ofInt n = v) (k : zV g Post u S I L R pc2 (a0 :: a1 :: a2 :: a3 :: some (.int v) :: t) st) : zV g Post u S I L R pc (a0 :: a1 :: a2 :: a3 :: some (.int x) :: t) st := z_iinc v hd rfl hc hv k
theorem z_ist5 {a0 a1 a2 a3 a4 a5 : Option Value} {t : List (Option Value)} {x : Int32} (hd : zD g.2.1 pc (.istore 5) 2 pc2) (hc : zCat (a0 :: a1 :: a2 :: a3 :: a4 :: a5 :: t) = true) (k : zV g Post u S I L R pc2 (a0 :: a1 :: a2 :: a3 :: a4 :: some (.int x) :: t) st) : zV g Post u S I L R pc (a0 :: a1 :: a2 :: a3 :: a4 :: a5 :: t) (.int x :: st) := z_istore hd (show 5 < _ by simp only [List.length_cons]; omega) hc k
theorem z_ast5 {a0 a1 a2 a3 a4 a5 : Option Value} {t : List (Option Value)} {x : Nat} (hd : zD g.2.1 pc (.astore 5) 2 pc2) (hc : zCat (a0 :: a1 :: a2 :: a3 :: a4 :: a5 :: t) = true) (k : zV g Post u S I L R pc2 (a0 :: a1 :: a2 :: a3 :: a4 :: some (.ref x) :: t) st) : zV g Post u S I L R pc (a0 :: a1 :: a2 :: a3 :: a4 :: a5 :: t) (.ref x :: st) := z_astore hd (show 5 < _ by simp only [List.length_cons]; omega) hc k
theorem z_iinc5 {a0 a1 a2 a3 a4 : Option Value} {t : List (Option Value)} {n : Int} {x : Int32} (v : Int32) (hd : zD g.2.1 pc (.iinc 5 n) 3 pc2) (hc : zCat (a0 :: a1 :: a2 :: a3 :: a4 :: some (.int x) :: t) = true) (hv : x + Int32.ofInt n = v) (k : zV g Post u S I L R pc2 (a0 :: a1 :: a2 :: a3 :: a4 :: some (.int v) :: t) st) : zV g Post u S I L R pc (a0 :: a1 :: a2 :: a3 :: a4 :: some (.int x) :: t) st := z_iinc v hd rfl hc hv k
theorem z_ist6 {a0 a1 a2 a3 a4 a5 a6 : Option Value} {t : List (Option Value)} {x : Int32} (hd : zD g.2.1 pc (.istore 6) 2 pc2) (hc : zCat (a0 :: a1 :: a2 :: a3 :: a4 :: a5 :: a6 :: t) = true) (k : zV g Post u S I L R pc2 (a0 :: a1 :: a2 :: a3 :: a4 :: a5 :: some (.int x) :: t) st) : zV g Post u S I L R pc (a0 :: a1 :: a2 :: a3 :: a4 :: a5 :: a6 :: t) (.int x :: st) := z_istore hd (show 6 < _ by simp only [List.length_cons]; omega) hc k
theorem z_ast6 {a0 a1 a2 a3 a4 a5 a6 : Option Value} {t : List (Option Value)} {x : Nat} (hd : zD g.2.1 pc (.astore 6) 2 pc2) (hc : zCat (a0 :: a1 :: a2 :: a3 :: a4 :: a5 :: a6 :: t) = true) (k : zV g Post u S I L R pc2 (a0 :: a1 :: a2 :: a3 :: a4 :: a5 :: some (.ref x) :: t) st) : zV g Post u S I L R pc (a0 :: a1 :: a2 :: a3 :: a4 :: a5 :: a6 :: t) (.ref x :: st) := z_astore hd (show 6 < _ by simp only [List.length_cons]; omega) hc k
theorem z_iinc6 {a0 a1 a2 a3 a4 a5 : Option Value} {t : List (Option Value)} {n : Int} {x : Int32} (v : Int32) (hd : zD g.2.1 pc (.iinc 6 n) 3 pc2) (hc : zCat (a0 :: a1 :: a2 :: a3 :: a4 :: a5 :: some (.int x) :: t) = true) (hv : x + Int32.ofInt n = v) (k : zV g Post u S I L R pc2 (a0 :: a1 :: a2 :: a3 :: a4 :: a5 :: some (.int v) :: t) st) : zV g Post u S I L R pc (a0 :: a1 :: a2 :: a3 :: a4 :: a5 :: some (.int x) :: t) st := z_iinc v hd rfl hc hv k
theorem z_ist7 {a0 a1 a2 a3 a4 a5 a6 a7 : Option Value} {t : List (Option Value)} {x : Int32} (hd : zD g.2.1 pc (.istore 7) 2 pc2) (hc : zCat (a0 :: a1 :: a2 :: a3 :: a4 :: a5 :: a6 :: a7 :: t) = true) (k : zV g Post u S I L R pc2 (a0 :: a1 :: a2 :: a3 :: a4 :: a5 :: a6 :: some (.int x) :: t) st) : zV g Post u S I L R pc (a0 :: a1 :: a2 :: a3 :: a4 :: a5 :: a6 :: a7 :: t) (.int x :: st) := z_istore hd (show 7 < _ by simp only [List.length_cons]; omega) hc k
theorem z_iinc7 {a0 a1 a2 a3 a4 a5 a6 : Option Value} {t : List (Option Value)} {n : Int} {x : Int32} (v : Int32) (hd : zD g.2.1 pc (.iinc 7 n) 3 pc2) (hc : zCat (a0 :: a1 :: a2 :: a3 :: a4 :: a5 :: a6 :: some (.int x) :: t) = true) (hv : x + Int32.ofInt n = v) (k : zV g Post u S I L R pc2 (a0 :: a1 :: a2 :: a3 :: a4 :: a5 :: a6 :: some (.int v) :: t) st) : zV g Post u S I L R pc (a0 :: a1 :: a2 :: a3 :: a4 :: a5 :: a6 :: some (.int x) :: t) st := z_iinc v hd rfl hc hv k
theorem z_ist8 {a0 a1 a2 a3 a4 a5 a6 a7 a8 : Option Value} {t : List (Option Value)} {x : Int32} (hd : zD g.2.1 pc (.istore 8) 2 pc2) (hc : zCat (a0 :: a1 :: a2 :: a3 :: a4 :: a5 :: a6 :: a7 :: a8 :: t) = true) (k : zV g Post u S I L R pc2 (a0 :: a1 :: a2 :: a3 :: a4 :: a5 :: a6 :: a7 :: some (.int x) :: t) st) : zV g Post u S I L R pc (a0 :: a1 :: a2 :: a3 :: a4 :: a5 :: a6 :: a7 :: a8 :: t) (.int x :: st) := z_istore hd (show 8 < _ by simp only [List.length_cons]; omega) hc k
theorem z_iinc8 {a0 a1 a2 a3 a4 a5 a6 a7 : Option Value} {t : List (Option Value)} {n : Int} {x : Int32} (v : Int32) (hd : zD g.2.1 pc (.iinc 8 n) 3 pc2) (hc : zCat (a0 :: a1 :: a2 :: a3 :: a4 :: a5 :: a6 :: a7 :: some (.int x) :: t) = true) (hv : x + Int32.ofInt n = v) (k : zV g Post u S I L R pc2 (a0 :: a1 :: a2 :: a3 :: a4 :: a5 :: a6 :: a7 :: some (.int v) :: t) st) : zV g Post u S I L R pc (a0 :: a1 :: a2 :: a3 :: a4 :: a5 :: a6 :: a7 :: some (.int x) :: t) st := z_iinc v hd rfl hc hv k
theorem z_ist9 {a0 a1 a2 a3 a4 a5 a6 a7 a8 a9 : Option Value} {t : List (Option Value)} {x : Int32} (hd : zD g.2.1 pc (.istore 9) 2 pc2) (hc : zCat (a0 :: a1 :: a2 :: a3 :: a4 :: a5 :: a6 :: a7 :: a8 :: a9 :: t) = true) (k : zV g Post u S I L R pc2 (a0 :: a1 :: a2 :: a3 :: a4 :: a5 :: a6 :: a7 :: a8 :: some (.int x) :: t) st) : zV g Post u S I L R pc (a0 :: a1 :: a2 :: a3 :: a4 :: a5 :: a6 :: a7 :: a8 :: a9 :: t) (.int x :: st) := z_istore hd (show 9 < _ by simp only [List.length_cons]; omega) hc k
theorem z_iinc9 {a0 a1 a2 a3 a4 a5 a6 a7 a8 : Option Value} {t : List (Option Value)} {n : Int} {x : Int32} (v : Int32) (hd : zD g.2.1 pc (.iinc 9 n) 3 pc2) (hc : zCat (a0 :: a1 :: a2 :: a3 :: a4 :: a5 :: a6 :: a7 :: a8 :: some (.int x) :: t) = true) (hv : x + Int32.ofInt n = v) (k : zV g Post u S I L R pc2 (a0 :: a1 :: a2 :: a3 :: a4 :: a5 :: a6 :: a7 :: a8 :: some (.int v) :: t) st) : zV g Post u S I L R pc (a0 :: a1 :: a2 :: a3 :: a4 :: a5 :: a6 :: a7 :: a8 :: some (.int x) :: t) st := z_iinc v hd rfl hc hv k
theorem z_ist10 {a0 a1 a2 a3 a4 a5 a6 a7 a8 a9 a10 : Option Value} {t : List (Option Value)} {x : Int32} (hd : zD g.2.1 pc (.istore 10) 2 pc2) (hc : zCat (a0 :: a1 :: a2 :: a3 :: a4 :: a5 :: a6 :: a7 :: a8 :: a9 :: a10 :: t) = true) (k : zV g Post u S I L R pc2 (a0 :: a1 :: a2 :: a3 :: a4 :: a5 :: a6 :: a7 :: a8 :: a9 :: some (.int x) :: t) st) : zV g Post u S I L R pc (a0 :: a1 :: a2 :: a3 :: a4 :: a5 :: a6 :: a7 :: a8 :: a9 :: a10 :: t) (.int x :: st) := z_istore hd (show 10 < _ by simp only [List.length_cons]; omega) hc k
theorem z_iinc10 {a0 a1 a2 a3 a4 a5 a6 a7 a8 a9 : Option Value} {t : List (Option Value)} {n : Int} {x : Int32} (v : Int32) (hd : zD g.2.1 pc (.iinc 10 n) 3 pc2) (hc : zCat (a0 :: a1 :: a2 :: a3 :: a4 :: a5 :: a6 :: a7 :: a8 :: a9 :: some (.int x) :: t) = true) (hv : x + Int32.ofInt n = v) (k : zV g Post u S I L R pc2 (a0 :: a1 :: a2 :: a3 :: a4 :: a5 :: a6 :: a7 :: a8 :: a9 :: some (.int v) :: t) st) : zV g Post u S I L R pc (a0 :: a1 :: a2 :: a3 :: a4 :: a5 :: a6 :: a7 :: a8 :: a9 :: some (.int x) :: t) st := z_iinc v hd rfl hc hv k
theorem z_ist11 {a0 a1 a2 a3 a4 a5 a6 a7 a8 a9 a10 a11 : Option Value} {t : List (Option Value)} {x : Int32} (hd : zD g.2.1 pc (.istore 11) 2 pc2) (hc : zCat (a0 :: a1 :: a2 :: a3 :: a4 :: a5 :: a6 :: a7 :: a8 :: a9 :: a10 :: a11 :: t) = true) (k : zV g Post u S I L R pc2 (a0 :: a1 :: a2 :: a3 :: a4 :: a5 :: a6 :: a7 :: a8 :: a9 :: a10 :: some (.int x) :: t) st) : zV g Post u S I L R pc (a0 :: a1 :: a2 :: a3 :: a4 :: a5 :: a6 :: a7 :: a8 :: a9 :: a10 :: a11 :: t) (.int x :: st) := z_istore hd (show 11 < _ by simp only [List.length_cons]; omega) hc k
theorem z_iinc11 {a0 a1 a2 a3 a4 a5 a6 a7 a8 a9 a10 : Option Value} {t : List (Option Value)} {n : Int} {x : Int32} (v : Int32) (hd : zD g.2.1 pc (.iinc 11 n) 3 pc2) (hc : zCat (a0 :: a1 :: a2 :: a3 :: a4 :: a5 :: a6 :: a7 :: a8 :: a9 :: a10 :: some (.int x) :: t) = true) (hv : x + Int32.ofInt n = v) (k : zV g Post u S I L R pc2 (a0 :: a1 :: a2 :: a3 :: a4 :: a5 :: a6 :: a7 :: a8 :: a9 :: a10 :: some (.int v) :: t) st) : zV g Post u S I L R pc (a0 :: a1 :: a2 :: a3 :: a4 :: a5 :: a6 :: a7 :: a8 :: a9 :: a10 :: some (.int x) :: t) st := z_iinc v hd rfl hc hv k
theorem z_ist12 {a0 a1 a2 a3 a4 a5 a6 a7 a8 a9 a10 a11 a12 : Option Value} {t : List (Option Value)} {x : Int32} (hd : zD g.2.1 pc (.istore 12) 2 pc2) (hc : zCat (a0 :: a1 :: a2 :: a3 :: a4 :: a5 :: a6 :: a7 :: a8 :: a9 :: a10 :: a11 :: a12 :: t) = true) (k : zV g Post u S I L R pc2 (a0 :: a1 :: a2 :: a3 :: a4 :: a5 :: a6 :: a7 :: a8 :: a9 :: a10 :: a11 :: some (.int x) :: t) st) : zV g Post u S I L R pc (a0 :: a1 :: a2 :: a3 :: a4 :: a5 :: a6 :: a7 :: a8 :: a9 :: a10 :: a11 :: a12 :: t) (.int x :: st) := z_istore hd (show 12 < _ by simp only [List.length_cons]; omega) hc k
theorem z_iinc12 {a0 a1 a2 a3 a4 a5 a6 a7 a8 a9 a10 a11 : Option Value} {t : List (Option Value)} {n : Int} {x : Int32} (v : Int32) (hd : zD g.2.1 pc (.iinc 12 n) 3 pc2) (hc : zCat (a0 :: a1 :: a2 :: a3 :: a4 :: a5 :: a6 :: a7 :: a8 :: a9 :: a10 :: a11 :: some (.int x) :: t) = true) (hv : x + Int32.ofInt n = v) (k : zV g Post u S I L R pc2 (a0 :: a1 :: a2 :: a3 :: a4 :: a5 :: a6 :: a7 :: a8 :: a9 :: a10 :: a11 :: some (.int v) :: t) st) : zV g Post u S I L R pc (a0 :: a1 :: a2 :: a3 :: a4 :: a5 :: a6 :: a7 :: a8 :: a9 :: a10 :: a11 :: some (.int x) :: t) st := z_iinc v hd rfl hc hv k
theorem z_iadd {x y : Int32} (hd : zD g.2.1 pc .iadd 1 pc2) (k : zV g Post u S I L R pc2 lv (.int (x + y) :: st)) : zV g Post u S I L R pc lv (.int y :: .int x :: st) := by
  intro p l e Rm s m args below meth c D G as A H locs ls Q hX hS hR hL hE
  obtain ⟨hd, rfl⟩ := hd
  exact lv_iadd hX.1 hX.2.1 hd (k p l e Rm s m args below meth c D G as A H locs ls Q hX hS hR hL hE)
theorem z_isub {x y : Int32} (hd : zD g.2.1 pc .isub 1 pc2) (k : zV g Post u S I L R pc2 lv (.int (x - y) :: st)) : zV g Post u S I L R pc lv (.int y :: .int x :: st) := by
  intro p l e Rm s m args below meth c D G as A H locs ls Q hX hS hR hL hE
  obtain ⟨hd, rfl⟩ := hd
  exact lv_isub hX.1 hX.2.1 hd (k p l e Rm s m args below meth c D G as A H locs ls Q hX hS hR hL hE)
theorem z_imul {x y : Int32} (hd : zD g.2.1 pc .imul 1 pc2) (k : zV g Post u S I L R pc2 lv (.int (x * y) :: st)) : zV g Post u S I L R pc lv (.int y :: .int x :: st) := by
  intro p l e Rm s m args below meth c D G as A H locs ls Q hX hS hR hL hE
  obtain ⟨hd, rfl⟩ := hd
  exact lv_imul hX.1 hX.2.1 hd (k p l e Rm s m args below meth c D G as A H locs ls Q hX hS hR hL hE)
theorem z_iand {x y : Int32} (hd : zD g.2.1 pc .iand 1 pc2) (k : zV g Post u S I L R pc2 lv (.int (x &&& y) :: st)) : zV g Post u S I L R pc lv (.int y :: .int x :: st) := by
  intro p l e Rm s m args below meth c D G as A H locs ls Q hX hS hR hL hE
  obtain ⟨hd, rfl⟩ := hd
  exact lv_iand hX.1 hX.2.1 hd (k p l e Rm s m args below meth c D G as A H locs ls Q hX hS hR hL hE)
theorem z_ior {x y : Int32} (hd : zD g.2.1 pc .ior 1 pc2) (k : zV g Post u S I L R pc2 lv (.int (x ||| y) :: st)) : zV g Post u S I L R pc lv (.int y :: .int x :: st) := by
  intro p l e Rm s m args below meth c D G as A H locs ls Q hX hS hR hL hE
  obtain ⟨hd, rfl⟩ := hd
  exact lv_ior hX.1 hX.2.1 hd (k p l e Rm s m args below meth c D G as A H locs ls Q hX hS hR hL hE)
theorem z_ixor {x y : Int32} (hd : zD g.2.1 pc .ixor 1 pc2) (k : zV g Post u S I L R pc2 lv (.int (x ^^^ y) :: st)) : zV g Post u S I L R pc lv (.int y :: .int x :: st) := by
  intro p l e Rm s m args below meth c D G as A H locs ls Q hX hS hR hL hE
  obtain ⟨hd, rfl⟩ := hd
  exact lv_ixor hX.1 hX.2.1 hd (k p l e Rm s m args below meth c D G as A H locs ls Q hX hS hR hL hE)
theorem z_ishl {x y : Int32} (hd : zD g.2.1 pc .ishl 1 pc2) (k : zV g Post u S I L R pc2 lv (.int (x <<< (y &&& 31)) :: st)) : zV g Post u S I L R pc lv (.int y :: .int x :: st) := by
  intro p l e Rm s m args below meth c D G as A H locs ls Q hX hS hR hL hE
  obtain ⟨hd, rfl⟩ := hd
  exact lv_ishl hX.1 hX.2.1 hd (k p l e Rm s m args below meth c D G as A H locs ls Q hX hS hR hL hE)
theorem z_ishr {x y : Int32} (hd : zD g.2.1 pc .ishr 1 pc2) (k : zV g Post u S I L R pc2 lv (.int (x >>> (y &&& 31)) :: st)) : zV g Post u S I L R pc lv (.int y :: .int x :: st) := by
  intro p l e Rm s m args below meth c D G as A H locs ls Q hX hS hR hL hE
  obtain ⟨hd, rfl⟩ := hd
  exact lv_ishr hX.1 hX.2.1 hd (k p l e Rm s m args below meth c D G as A H locs ls Q hX hS hR hL hE)
theorem z_idiv {x y : Int32} (hd : zD g.2.1 pc .idiv 1 pc2) (hne : ¬ y = 0) (k : zV g Post u S I L R pc2 lv (.int (x / y) :: st)) : zV g Post u S I L R pc lv (.int y :: .int x :: st) := by
  intro p l e Rm s m args below meth c D G as A H locs ls Q hX hS hR hL hE
  obtain ⟨hd, rfl⟩ := hd
  exact lv_idiv hX.1 hX.2.1 hd hne (k p l e Rm s m args below meth c D G as A H locs ls Q hX hS hR hL hE)
theorem z_irem {x y : Int32} (hd : zD g.2.1 pc .irem 1 pc2) (hne : ¬ y = 0) (k : zV g Post u S I L R pc2 lv (.int (x - x / y * y) :: st)) : zV g Post u S I L R pc lv (.int y :: .int x :: st) := by
  intro p l e Rm s m args below meth c D G as A H locs ls Q hX hS hR hL hE
  obtain ⟨hd, rfl⟩ := hd
  exact lv_irem hX.1 hX.2.1 hd hne (k p l e Rm s m args below meth c D G as A H locs ls Q hX hS hR hL hE)
theorem z_ineg {x : Int32} (hd : zD g.2.1 pc .ineg 1 pc2) (k : zV g Post u S I L R pc2 lv (.int (-x) :: st)) : zV g Post u S I L R pc lv (.int x :: st) := by
  intro p l e Rm s m args below meth c D G as A H locs ls Q hX hS hR hL hE
  obtain ⟨hd, rfl⟩ := hd
  exact lv_ineg hX.1 hX.2.1 hd (k p l e Rm s m args below meth c D G as A H locs ls Q hX hS hR hL hE)
theorem z_iushr {x y : Int32} (v : Int32) (hd : zD g.2.1 pc .iushr 1 pc2) (hv : (x.toUInt32 >>> (y.toUInt32 &&& Int32.toUInt32 31)).toInt32 = v) (k : zV g Post u S I L R pc2 lv (.int v :: st)) : zV g Post u S I L R pc lv (.int y :: .int x :: st) := by
  intro p l e Rm s m args below meth c D G as A H locs ls Q hX hS hR hL hE
  obtain ⟨hd, rfl⟩ := hd
  exact lv_iushr hX.1 hX.2.1 hd hv (k p l e Rm s m args below meth c D G as A H locs ls Q hX hS hR hL hE)
theorem z_lmul {x y : Int64} (hd : zD g.2.1 pc .lmul 1 pc2) (k : zV g Post u S I L R pc2 lv (.long (x * y) :: st)) : zV g Post u S I L R pc lv (.long y :: .long x :: st) := by
  intro p l e Rm s m args below meth c D G as A H locs ls Q hX hS hR hL hE
  obtain ⟨hd, rfl⟩ := hd
  exact lv_lmul hX.1 hX.2.1 hd (k p l e Rm s m args below meth c D G as A H locs ls Q hX hS hR hL hE)
theorem z_lrem {x y : Int64} (hd : zD g.2.1 pc .lrem 1 pc2) (hne : ¬ y = 0) (k : zV g Post u S I L R pc2 lv (.long (x - x / y * y) :: st)) : zV g Post u S I L R pc lv (.long y :: .long x :: st) := by
  intro p l e Rm s m args below meth c D G as A H locs ls Q hX hS hR hL hE
  obtain ⟨hd, rfl⟩ := hd
  exact lv_lrem hX.1 hX.2.1 hd hne (k p l e Rm s m args below meth c D G as A H locs ls Q hX hS hR hL hE)
theorem z_lcmp {x y : Int64} (hd : zD g.2.1 pc .lcmp 1 pc2) (k : zV g Post u S I L R pc2 lv (.int (lg_cmp x y) :: st)) : zV g Post u S I L R pc lv (.long y :: .long x :: st) := by
  intro p l e Rm s m args below meth c D G as A H locs ls Q hX hS hR hL hE
  obtain ⟨hd, rfl⟩ := hd
  exact W.lcmp hX.1 hX.2.1 hd (k p l e Rm s m args below meth c D G as A H locs ls Q hX hS hR hL hE)
theorem z_i2l {x : Int32} (hd : zD g.2.1 pc .i2l 1 pc2) (k : zV g Post u S I L R pc2 lv (.long x.toInt64 :: st)) : zV g Post u S I L R pc lv (.int x :: st) := by
  intro p l e Rm s m args below meth c D G as A H locs ls Q hX hS hR hL hE
  obtain ⟨hd, rfl⟩ := hd
  exact lv_i2l hX.1 hX.2.1 hd rfl (k p l e Rm s m args below meth c D G as A H locs ls Q hX hS hR hL hE)
theorem z_l2i {x : Int64} (hd : zD g.2.1 pc .l2i 1 pc2) (k : zV g Post u S I L R pc2 lv (.int x.toInt32 :: st)) : zV g Post u S I L R pc lv (.long x :: st) := by
  intro p l e Rm s m args below meth c D G as A H locs ls Q hX hS hR hL hE
  obtain ⟨hd, rfl⟩ := hd
  exact lv_l2i hX.1 hX.2.1 hd rfl (k p l e Rm s m args below meth c D G as A H locs ls Q hX hS hR hL hE)
theorem z_dup {v : Value} (hd : zD g.2.1 pc .dup 1 pc2) (hv : v.category = 1) (k : zV g Post u S I L R pc2 lv (v :: v :: st)) : zV g Post u S I L R pc lv (v :: st) := by
  intro p l e Rm s m args below meth c D G as A H locs ls Q hX hS hR hL hE
  obtain ⟨hd, rfl⟩ := hd
  exact lv_dup hX.1 hX.2.1 hd ((zc_cat as v).trans hv) (k p l e Rm s m args below meth c D G as A H locs ls Q hX hS hR hL hE)
theorem z_dup2 {v w : Value} (hd : zD g.2.1 pc .dup2 1 pc2) (hv : v.category = 1) (hw : w.category = 1) (k : zV g Post u S I L R pc2 lv (v :: w :: v :: w :: st)) : zV g Post u S I L R pc lv (v :: w :: st) := by
  intro p l e Rm s m args below meth c D G as A H locs ls Q hX hS hR hL hE
  obtain ⟨hd, rfl⟩ := hd
  exact lv_dup2_11 hX.1 hX.2.1 hd ((zc_cat as v).trans hv) ((zc_cat as w).trans hw) (k p l e Rm s m args below meth c D G as A H locs ls Q hX hS hR hL hE)
theorem z_icmp_eq {x y : Int32} {off : Int} {tgt : Nat} (hd : zD g.2.1 pc (.if_icmp .eq off) 3 pc2) (ht : (pc : Int) + off = (tgt : Int)) (kt : x = y → zV g Post u S I L R tgt lv st) (kf : ¬ x = y → zV g Post u S I L R pc2 lv st) : zV g Post u S I L R pc lv (.int y :: .int x :: st) := by
  intro p l e Rm s m args below meth c D G as A H locs ls Q hX hS hR hL hE
  obtain ⟨hd, rfl⟩ := hd
  exact lv_icmp_eq hX.1 hX.2.1 hd ht (fun h => kt h p l e Rm s m args below meth c D G as A H locs ls Q hX hS hR hL hE) (fun h => kf h p l e Rm s m args below meth c D G as A H locs ls Q hX hS hR hL hE)
theorem z_if_eq {x : Int32} {off : Int} {tgt : Nat} (hd : zD g.2.1 pc (.ifCond .eq off) 3 pc2) (ht : (pc : Int) + off = (tgt : Int)) (kt : x = 0 → zV g Post u S I L R tgt lv st) (kf : ¬ x = 0 → zV g Post u S I L R pc2 lv st) : zV g Post u S I L R pc lv (.int x :: st) := by
  intro p l e Rm s m args below meth c D G as A H locs ls Q hX hS hR hL hE
  obtain ⟨hd, rfl⟩ := hd
  exact lv_if_eq hX.1 hX.2.1 hd ht (fun h => kt h p l e Rm s m args below meth c D G as A H locs ls Q hX hS hR hL hE) (fun h => kf h p l e Rm s m args below meth c D G as A H locs ls Q hX hS hR hL hE)
theorem z_icmp_ne {x y : Int32} {off : Int} {tgt : Nat} (hd : zD g.2.1 pc (.if_icmp .ne off) 3 pc2) (ht : (pc : Int) + off = (tgt : Int)) (kt : ¬ x = y → zV g Post u S I L R tgt lv st) (kf : x = y → zV g Post u S I L R pc2 lv st) : zV g Post u S I L R pc lv (.int y :: .int x :: st) := by
  intro p l e Rm s m args below meth c D G as A H locs ls Q hX hS hR hL hE
  obtain ⟨hd, rfl⟩ := hd
  exact lv_icmp_ne hX.1 hX.2.1 hd ht (fun h => kt h p l e Rm s m args below meth c D G as A H locs ls Q hX hS hR hL hE) (fun h => kf h p l e Rm s m args below meth c D G as A H locs ls Q hX hS hR hL hE)
theorem z_if_ne {x : Int32} {off : Int} {tgt : Nat} (hd : zD g.2.1 pc (.ifCond .ne off) 3 pc2) (ht : (pc : Int) + off = (tgt : Int)) (kt : ¬ x = 0 → zV g Post u S I L R tgt lv st) (kf : x = 0 → zV g Post u S I L R pc2 lv st) : zV g Post u S I L R pc lv (.int x :: st) := by
  intro p l e Rm s m args below meth c D G as A H locs ls Q hX hS hR hL hE
  obtain ⟨hd, rfl⟩ := hd
  exact lv_if_ne hX.1 hX.2.1 hd ht (fun h => kt h p l e Rm s m args below meth c D G as A H locs ls Q hX hS hR hL hE) (fun h => kf h p l e Rm s m args below meth c D G as A H locs ls Q hX hS hR hL hE)
theorem z_icmp_lt {x y : Int32} {off : Int} {tgt : Nat} (hd : zD g.2.1 pc (.if_icmp .lt off) 3 pc2) (ht : (pc : Int) + off = (tgt : Int)) (kt : x.toInt < y.toInt → zV g Post u S I L R tgt lv st) (kf : y.toInt ≤ x.toInt → zV g Post u S I L R pc2 lv st) : zV g Post u S I L R pc lv (.int y :: .int x :: st) := by
  intro p l e Rm s m args below meth c D G as A H locs ls Q hX hS hR hL hE
  obtain ⟨hd, rfl⟩ := hd
  exact lv_icmp_lt hX.1 hX.2.1 hd ht (fun h => kt (by have h2 := h; simp only [Int32.lt_iff_toInt_lt, Int32.le_iff_toInt_le, Int.not_lt, Int.not_le] at h2; omega) p l e Rm s m args below meth c D G as A H locs ls Q hX hS hR hL hE) (fun h => kf (by have h2 := h; simp only [Int32.lt_iff_toInt_lt, Int32.le_iff_toInt_le, Int.not_lt, Int.not_le] at h2; omega) p l e Rm s m args below meth c D G as A H locs ls Q hX hS hR hL hE)
theorem z_if_lt {x : Int32} {off : Int} {tgt : Nat} (hd : zD g.2.1 pc (.ifCond .lt off) 3 pc2) (ht : (pc : Int) + off = (tgt : Int)) (kt : x.toInt < 0 → zV g Post u S I L R tgt lv st) (kf : 0 ≤ x.toInt → zV g Post u S I L R pc2 lv st) : zV g Post u S I L R pc lv (.int x :: st) := by
  intro p l e Rm s m args below meth c D G as A H locs ls Q hX hS hR hL hE
  obtain ⟨hd, rfl⟩ := hd
  exact lv_if_lt hX.1 hX.2.1 hd ht (fun h => kt (by have h2 := h; simp only [Int32.lt_iff_toInt_lt, Int32.le_iff_toInt_le, Int32.toInt_zero, Int.not_lt, Int.not_le] at h2; omega) p l e Rm s m args below meth c D G as A H locs ls Q hX hS hR hL hE) (fun h => kf (by have h2 := h; simp only [Int32.lt_iff_toInt_lt, Int32.le_iff_toInt_le, Int32.toInt_zero, Int.not_lt, Int.not_le] at h2; omega) p l e Rm s m args below meth c D G as A H locs ls Q hX hS hR hL hE)
theorem z_icmp_ge {x y : Int32} {off : Int} {tgt : Nat} (hd : zD g.2.1 pc (.if_icmp .ge off) 3 pc2) (ht : (pc : Int) + off = (tgt : Int)) (kt : y.toInt ≤ x.toInt → zV g Post u S I L R tgt lv st) (kf : x.toInt < y.toInt → zV g Post u S I L R pc2 lv st) : zV g Post u S I L R pc lv (.int y :: .int x :: st) := by
  intro p l e Rm s m args below meth c D G as A H locs ls Q hX hS hR hL hE
  obtain ⟨hd, rfl⟩ := hd
  exact lv_icmp_ge hX.1 hX.2.1 hd ht (fun h => kt (by have h2 := h; simp only [Int32.lt_iff_toInt_lt, Int32.le_iff_toInt_le, Int.not_lt, Int.not_le] at h2; omega) p l e Rm s m args below meth c D G as A H locs ls Q hX hS hR hL hE) (fun h => kf (by have h2 := h; simp only [Int32.lt_iff_toInt_lt, Int32.le_iff_toInt_le, Int.not_lt, Int.not_le] at h2; omega) p l e Rm s m args below meth c D G as A H locs ls Q hX hS hR hL hE)
theorem z_if_ge {x : Int32} {off : Int} {tgt : Nat} (hd : zD g.2.1 pc (.ifCond .ge off) 3 pc2) (ht : (pc : Int) + off = (tgt : Int)) (kt : 0 ≤ x.toInt → zV g Post u S I L R tgt lv st) (kf : x.toInt < 0 → zV g Post u S I L R pc2 lv st) : zV g Post u S I L R pc lv (.int x :: st) := by
  intro p l e Rm s m args below meth c D G as A H locs ls Q hX hS hR hL hE
  obtain ⟨hd, rfl⟩ := hd
  exact lv_if_ge hX.1 hX.2.1 hd ht (fun h => kt (by have h2 := h; simp only [Int32.lt_iff_toInt_lt, Int32.le_iff_toInt_le, Int32.toInt_zero, Int.not_lt, Int.not_le] at h2; omega) p l e Rm s m args below meth c D G as A H locs ls Q hX hS hR hL hE) (fun h => kf (by have h2 := h; simp only [Int32.lt_iff_toInt_lt, Int32.le_iff_toInt_le, Int32.toInt_zero, Int.not_lt, Int.not_le] at h2; omega) p l e Rm s m args below meth c D G as A H locs ls Q hX hS hR hL hE)
theorem z_icmp_gt {x y : Int32} {off : Int} {tgt : Nat} (hd : zD g.2.1 pc (.if_icmp .gt off) 3 pc2) (ht : (pc : Int) + off = (tgt : Int)) (kt : y.toInt < x.toInt → zV g Post u S I L R tgt lv st) (kf : x.toInt ≤ y.toInt → zV g Post u S I L R pc2 lv st) : zV g Post u S I L R pc lv (.int y :: .int x :: st) := by
  intro p l e Rm s m args below meth c D G as A H locs ls Q hX hS hR hL hE
  obtain ⟨hd, rfl⟩ := hd
  exact lv_icmp_gt hX.1 hX.2.1 hd ht (fun h => kt (by have h2 := h; simp only [Int32.lt_iff_toInt_lt, Int32.le_iff_toInt_le, Int.not_lt, Int.not_le] at h2; omega) p l e Rm s m args below meth c D G as A H locs ls Q hX hS hR hL hE) (fun h => kf (by have h2 := h; simp only [Int32.lt_iff_toInt_lt, Int32.le_iff_toInt_le, Int.not_lt, Int.not_le] at h2; omega) p l e Rm s m args below meth c D G as A H locs ls Q hX hS hR hL hE)
theorem z_if_gt {x : Int32} {off : Int} {tgt : Nat} (hd : zD g.2.1 pc (.ifCond .gt off) 3 pc2) (ht : (pc : Int) + off = (tgt : Int)) (kt : 0 < x.toInt → zV g Post u S I L R tgt lv st) (kf : x.toInt ≤ 0 → zV g Post u S I L R pc2 lv st) : zV g Post u S I L R pc lv (.int x :: st) := by
  intro p l e Rm s m args below meth c D G as A H locs ls Q hX hS hR hL hE
  obtain ⟨hd, rfl⟩ := hd
  exact lv_if_gt hX.1 hX.2.1 hd ht (fun h => kt (by have h2 := h; simp only [Int32.lt_iff_toInt_lt, Int32.le_iff_toInt_le, Int32.toInt_zero, Int.not_lt, Int.not_le] at h2; omega) p l e Rm s m args below meth c D G as A H locs ls Q hX hS hR hL hE) (fun h => kf (by have h2 := h; simp only [Int32.lt_iff_toInt_lt, Int32.le_iff_toInt_le, Int32.toInt_zero, Int.not_lt, Int.not_le] at h2; omega) p l e Rm s m args below meth c D G as A H locs ls Q hX hS hR hL hE)
theorem z_icmp_le {x y : Int32} {off : Int} {tgt : Nat} (hd : zD g.2.1 pc (.if_icmp .le off) 3 pc2) (ht : (pc : Int) + off = (tgt : Int)) (kt : x.toInt ≤ y.toInt → zV g Post u S I L R tgt lv st) (kf : y.toInt < x.toInt → zV g Post u S I L R pc2 lv st) : zV g Post u S I L R pc lv (.int y :: .int x :: st) := by
  intro p l e Rm s m args below meth c D G as A H locs ls Q hX hS hR hL hE
  obtain ⟨hd, rfl⟩ := hd
  exact lv_icmp_le hX.1 hX.2.1 hd ht (fun h => kt (by have h2 := h; simp only [Int32.lt_iff_toInt_lt, Int32.le_iff_toInt_le, Int.not_lt, Int.not_le] at h2; omega) p l e Rm s m args below meth c D G as A H locs ls Q hX hS hR hL hE) (fun h => kf (by have h2 := h; simp only [Int32.lt_iff_toInt_lt, Int32.le_iff_toInt_le, Int.not_lt, Int.not_le] at h2; omega) p l e Rm s m args below meth c D G as A H locs ls Q hX hS hR hL hE)
theorem z_if_le {x : Int32} {off : Int} {tgt : Nat} (hd : zD g.2.1 pc (.ifCond .le off) 3 pc2) (ht : (pc : Int) + off = (tgt : Int)) (kt : x.toInt ≤ 0 → zV g Post u S I L R tgt lv st) (kf : 0 < x.toInt → zV g Post u S I L R pc2 lv st) : zV g Post u S I L R pc lv (.int x :: st) := by
  intro p l e Rm s m args below meth c D G as A H locs ls Q hX hS hR hL hE
  obtain ⟨hd, rfl⟩ := hd
  exact lv_if_le hX.1 hX.2.1 hd ht (fun h => kt (by have h2 := h; simp only [Int32.lt_iff_toInt_lt, Int32.le_iff_toInt_le, Int32.toInt_zero, Int.not_lt, Int.not_le] at h2; omega) p l e Rm s m args below meth c D G as A H locs ls Q hX hS hR hL hE) (fun h => kf (by have h2 := h; simp only [Int32.lt_iff_toInt_lt, Int32.le_iff_toInt_le, Int32.toInt_zero, Int.not_lt, Int.not_le] at h2; omega) p l e Rm s m args below meth c D G as A H locs ls Q hX hS hR hL hE)
theorem z_goto {off : Int} {tgt : Nat} (hd : zD g.2.1 pc (.goto off) 3 pc2) (ht : (pc : Int) + off = (tgt : Int)) (k : zV g Post u S I L R tgt lv st) : zV g Post u S I L R pc lv st := by
  intro p l e Rm s m args below meth c D G as A H locs ls Q hX hS hR hL hE
  exact lv_goto hX.1 hX.2.1 hd.1 ht (k p l e Rm s m args below meth c D G as A H locs ls Q hX hS hR hL hE)
theorem z_tIn {dflt lo hi : Int} {offs : Array Int} {len : Nat} {x : Int32} {off : Int} {tgt : Nat} (hd : zD g.2.1 pc (.tableswitch dflt lo hi offs) len pc2) (h1 : ¬ x.toInt < lo) (h2 : ¬ hi < x.toInt) (ho : offs[(x.toInt - lo).toNat]? = some off) (ht : (pc : Int) + off = (tgt : Int)) (k : zV g Post u S I L R tgt lv st) : zV g Post u S I L R pc lv (.int x :: st) := by
  intro p l e Rm s m args below meth c D G as A H locs ls Q hX hS hR hL hE
  exact lv_tableIn hX.1 hX.2.1 hd.1 h1 h2 ho ht (k p l e Rm s m args below meth c D G as A H locs ls Q hX hS hR hL hE)
theorem z_tOut {dflt lo hi : Int} {offs : Array Int} {len : Nat} {x : Int32} {tgt : Nat} (hd : zD g.2.1 pc (.tableswitch dflt lo hi offs) len pc2) (h : x.toInt < lo ∨ hi < x.toInt) (ht : (pc : Int) + dflt = (tgt : Int)) (k : zV g Post u S I L R tgt lv st) : zV g Post u S I L R pc lv (.int x :: st) := by
  intro p l e Rm s m args below meth c D G as A H locs ls Q hX hS hR hL hE
  exact lv_tableOut hX.1 hX.2.1 hd.1 h ht (k p l e Rm s m args below meth c D G as A H locs ls Q hX hS hR hL hE)
theorem z_lsw {dflt : Int} {ps : Array (Int × Int)} {len : Nat} {x : Int32} {off : Int} {tgt : Nat} (hd : zD g.2.1 pc (.lookupswitch dflt ps) len pc2) (hp : (ps.toList.zip (ps.toList.drop 1)).all (fun (a, next) => a.1 < next.1) = true) (ho : Op.lookupswitch.offset ps.toList dflt x.toInt = off) (ht : (pc : Int) + off = (tgt : Int)) (k : zV g Post u S I L R tgt lv st) : zV g Post u S I L R pc lv (.int x :: st) := by
  intro p l e Rm s m args below meth c D G as A H locs ls Q hX hS hR hL hE
  exact lv_lookup hX.1 hX.2.1 hd.1 hp ho ht (k p l e Rm s m args below meth c D G as A H locs ls Q hX hS hR hL hE)
theorem zE_obj {G : zGt} {ρ : Nat → Nat} {S : zS} {I : zMI} {L : zML} {R : zMR} {a ci w : Nat} (h : S[a]? = some (ci + 3, w)) : zE G ρ S I L R a = .inr (ci, zfs ρ I L R ci a) := by
  unfold zE
  rw [h]
theorem zE_int {G : zGt} {ρ : Nat → Nat} {S : zS} {I : zMI} {L : zML} {R : zMR} {a n : Nat} (h : S[a]? = some (0, n)) : zE G ρ S I L R a = .inl (G.1, n, .inl (I a)) := by
  unfold zE
  rw [h]
theorem zE_bool {G : zGt} {ρ : Nat → Nat} {S : zS} {I : zMI} {L : zML} {R : zMR} {a n : Nat} (h : S[a]? = some (1, n)) : zE G ρ S I L R a = .inl (G.2.1, n, .inl (I a)) := by
  unfold zE
  rw [h]
theorem zE_refs {G : zGt} {ρ : Nat → Nat} {S : zS} {I : zMI} {L : zML} {R : zMR} {a n : Nat} (h : S[a]? = some (2, n)) : zE G ρ S I L R a = .inl (G.2.2, n, .inr (.inr (.inr (.inr (fun i => (R a i).map ρ))))) := by
  unfold zE
  rw [h]
theorem zlt {S : zS} {a : Nat} {x : Nat × Nat} (h : S[a]? = some x) : a < S.length := (List.getElem?_eq_some_iff.mp h).1
theorem zRep.at {D : va_G} {G : zGt} {as : List Nat} {A : Nat → Prop} {H : Heap} {s : State} (h : zRep D G as A S I L R H s) {a : Nat} {x : Nat × Nat} (hs : S[a]? = some x) : (zW G as S I L R)[a]? = some (zr as a, zE G (zr as) S I L R a) := zW_get (by rw [h.1]; exact zlt hs)
theorem zfs_get {ρ : Nat → Nat} {ci a k : Nat} (h : k < zN ci) : (zfs ρ I L R ci a)[k]? = some (zF ρ I L R ci a k) := by simp [zfs, h]
theorem zfs_len {ρ : Nat → Nat} {ci a : Nat} : (zfs ρ I L R ci a).length = zN ci := by simp [zfs]
theorem z_geti {idx ci k a w : Nat} {fin : Bool} (hd : zD g.2.1 pc (.getfield idx) 3 pc2) (hf : zFL g.1 idx ci k 0 fin) (hs : S[a]? = some (ci + 3, w)) (kk : zV g Post u S I L R pc2 lv (.int (I a k) :: st)) : zV g Post u S I L R pc lv (.ref a :: st) := by
  intro p l e Rm s m args below meth c D G as A H locs ls Q hX hS hR hL hE
  obtain ⟨hd, rfl⟩ := hd
  obtain ⟨C, T, N, ty, ⟨hc, hin, hty, hnm, hN, -, -⟩, hk, hlk, -, hkd, -⟩ := hf
  have he := hR.at hs
  rw [zE_obj hs] at he
  subst hN
  exact va_get hX.1 hX.2.1 hX.2.2.2.2.2.2.1 hin hX.2.2.2.2.2.1 hR.2.2.2 hR.2.1 a he hc k hk (hX.2.2.2.2.2.2.1 _ hlk) (fun _ h => h) ((zfs_get hk).trans (congrArg some (if_pos hkd))) hd (kk p l e Rm s m args below meth c D G as A H locs ls Q hX hS hR hL hE)
theorem z_getz {idx ci k a w : Nat} {fin : Bool} (hd : zD g.2.1 pc (.getfield idx) 3 pc2) (hf : zFL g.1 idx ci k 3 fin) (hs : S[a]? = some (ci + 3, w)) (kk : zV g Post u S I L R pc2 lv (.int (I a k) :: st)) : zV g Post u S I L R pc lv (.ref a :: st) := by
  intro p l e Rm s m args below meth c D G as A H locs ls Q hX hS hR hL hE
  obtain ⟨hd, rfl⟩ := hd
  obtain ⟨C, T, N, ty, ⟨hc, hin, hty, hnm, hN, -, -⟩, hk, hlk, -, hkd, -⟩ := hf
  have he := hR.at hs
  rw [zE_obj hs] at he
  subst hN
  exact va_get hX.1 hX.2.1 hX.2.2.2.2.2.2.1 hin hX.2.2.2.2.2.1 hR.2.2.2 hR.2.1 a he hc k hk (hX.2.2.2.2.2.2.1 _ hlk) (fun _ h => h) ((zfs_get hk).trans (congrArg some (if_pos hkd))) hd (kk p l e Rm s m args below meth c D G as A H locs ls Q hX hS hR hL hE)
theorem z_getl {idx ci k a w : Nat} {fin : Bool} (hd : zD g.2.1 pc (.getfield idx) 3 pc2) (hf : zFL g.1 idx ci k 1 fin) (hs : S[a]? = some (ci + 3, w)) (kk : zV g Post u S I L R pc2 lv (.long (L a k) :: st)) : zV g Post u S I L R pc lv (.ref a :: st) := by
  intro p l e Rm s m args below meth c D G as A H locs ls Q hX hS hR hL hE
  obtain ⟨hd, rfl⟩ := hd
  obtain ⟨C, T, N, ty, ⟨hc, hin, hty, hnm, hN, -, -⟩, hk, hlk, -, hkd, -⟩ := hf
  have he := hR.at hs
  rw [zE_obj hs] at he
  subst hN
  have hkd1 : zkd ci k = 1 := hkd
  exact va_get hX.1 hX.2.1 hX.2.2.2.2.2.2.1 hin hX.2.2.2.2.2.1 hR.2.2.2 hR.2.1 a he hc k hk (hX.2.2.2.2.2.2.1 _ hlk) (fun _ h => h) ((zfs_get hk).trans (congrArg some (by simp [zF, hkd1, zc]))) hd (kk p l e Rm s m args below meth c D G as A H locs ls Q hX hS hR hL hE)
theorem z_getr {idx ci k a w q : Nat} {fin : Bool} (hd : zD g.2.1 pc (.getfield idx) 3 pc2) (hf : zFL g.1 idx ci k 2 fin) (hs : S[a]? = some (ci + 3, w)) (hr : R a k = some q) (kk : zV g Post u S I L R pc2 lv (.ref q :: st)) : zV g Post u S I L R pc lv (.ref a :: st) := by
  intro p l e Rm s m args below meth c D G as A H locs ls Q hX hS hR hL hE
  obtain ⟨hd, rfl⟩ := hd
  obtain ⟨C, T, N, ty, ⟨hc, hin, hty, hnm, hN, -, -⟩, hk, hlk, -, hkd, -⟩ := hf
  have he := hR.at hs
  rw [zE_obj hs] at he
  subst hN
  have hkd1 : zkd ci k = 2 := hkd
  exact va_get hX.1 hX.2.1 hX.2.2.2.2.2.2.1 hin hX.2.2.2.2.2.1 hR.2.2.2 hR.2.1 a he hc k hk (hX.2.2.2.2.2.2.1 _ hlk) (fun _ h => h) ((zfs_get hk).trans (congrArg some (by simp [zF, hkd1, hr, va_rf, zc]))) hd (kk p l e Rm s m args below meth c D G as A H locs ls Q hX hS hR hL hE)
theorem zfs_set {ρ : Nat → Nat} {ci a k : Nat} {v : Value} {I2 : zMI} {L2 : zML} {R2 : zMR} (h1 : zF ρ I2 L2 R2 ci a k = v) (h2 : ∀ j, j ≠ k → zF ρ I2 L2 R2 ci a j = zF ρ I L R ci a j) : (zfs ρ I L R ci a).set k v = zfs ρ I2 L2 R2 ci a := by
  apply List.ext_getElem?
  intro j
  by_cases hj : j < zN ci
  · rw [zfs_get hj]
    by_cases e : j = k
    · subst e
      rw [List.getElem?_set_self (by rw [zfs_len]; exact hj), h1]
    · rw [List.getElem?_set_ne (Ne.symm e), zfs_get hj, h2 j e]
  · rw [List.getElem?_eq_none (by rw [List.length_set, zfs_len]; omega), List.getElem?_eq_none (by rw [zfs_len]; omega)]
theorem zRep.put {D : va_G} {G : zGt} {as : List Nat} {A : Nat → Prop} {H H1 : Heap} {s : State} {a : Nat} {e : va_E} {I2 : zMI} {L2 : zML} {R2 : zMR} (h : zRep D G as A S I L R H s) (he : zE G (zr as) S I2 L2 R2 a = e) (hne : ∀ q, q ≠ a → zE G (zr as) S I2 L2 R2 q = zE G (zr as) S I L R q)
    (hP : va_P D vwCl ((zW G as S I L R).set a (zr as a, e)) H1) (hD : va_D A ((zW G as S I L R).set a (zr as a, e))) : zRep D G as A S I2 L2 R2 H1 s := by
  subst he
  rw [zW_set hne] at hP hD
  exact ⟨h.1, hP, hD, h.2.2.2⟩
theorem z_puti {idx ci k a w : Nat} {v : Int32} (hd : zD g.2.1 pc (.putfield idx) 3 pc2) (hf : zFL g.1 idx ci k 0 false) (hs : S[a]? = some (ci + 3, w)) (kk : zV g Post u S (zu I a k v) L R pc2 lv st) : zV g Post u S I L R pc lv (.int v :: .ref a :: st) := by
  intro p l e Rm s m args below meth c D G as A H locs ls Q hX hS hR hL hE
  obtain ⟨hd, rfl⟩ := hd
  obtain ⟨C, T, N, ty, ⟨hc, hin, hty, hnm, hN, -, -⟩, hk, hlk, hfin, hkd, h0, h1, h2, h3⟩ := hf
  have he := hR.at hs
  rw [zE_obj hs] at he
  subst hN
  refine va_put (v := .int v) (ty := ty k) hX.1 hX.2.1 hX.2.2.2.2.2.2.1 hin ty hty hnm hX.2.2.2.2.2.1 hR.2.2.2 hR.2.1 hR.2.2.1 hS a he hc k hk (hX.2.2.2.2.2.2.1 _ hlk) (fun _ h => h) hfin (hty k hk) (by rw [h0 rfl]; rfl) (by rw [h0 rfl]; rfl) (by rw [zfs_len]; exact hk) hd (fun H1 locs1 hP1 hD1 hS1 => ?_)
  refine kk p l e Rm s m args below meth c D G as A H1 locs1 ls Q hX hS1 (hR.put ((zE_obj hs).trans ?_) (fun q hq => (zE_congr (zu_ne hq) rfl rfl)) hP1 hD1) hL hE
  exact congrArg (fun l => Sum.inr (ci, l)) (zfs_set (by simp [zF, hkd, zu_same]) (fun j hj => by simp [zF, zu_nk (Or.inr hj)])).symm
theorem z_putz {idx ci k a w : Nat} {v : Int32} (hd : zD g.2.1 pc (.putfield idx) 3 pc2) (hf : zFL g.1 idx ci k 3 false) (hs : S[a]? = some (ci + 3, w)) (hv : v = 0 ∨ v = 1) (kk : zV g Post u S (zu I a k v) L R pc2 lv st) : zV g Post u S I L R pc lv (.int v :: .ref a :: st) := by
  intro p l e Rm s m args below meth c D G as A H locs ls Q hX hS hR hL hE
  obtain ⟨hd, rfl⟩ := hd
  obtain ⟨C, T, N, ty, ⟨hc, hin, hty, hnm, hN, -, -⟩, hk, hlk, hfin, hkd, h0, h1, h2, h3⟩ := hf
  have he := hR.at hs
  rw [zE_obj hs] at he
  subst hN
  refine va_put (v := .int v) (ty := ty k) hX.1 hX.2.1 hX.2.2.2.2.2.2.1 hin ty hty hnm hX.2.2.2.2.2.1 hR.2.2.2 hR.2.1 hR.2.2.1 hS a he hc k hk (hX.2.2.2.2.2.2.1 _ hlk) (fun _ h => h) hfin (hty k hk) (by rw [h3 rfl]; rcases hv with rfl | rfl <;> rfl) (by rw [h3 rfl]; rcases hv with rfl | rfl <;> rfl) (by rw [zfs_len]; exact hk) hd (fun H1 locs1 hP1 hD1 hS1 => ?_)
  refine kk p l e Rm s m args below meth c D G as A H1 locs1 ls Q hX hS1 (hR.put ((zE_obj hs).trans ?_) (fun q hq => (zE_congr (zu_ne hq) rfl rfl)) hP1 hD1) hL hE
  exact congrArg (fun l => Sum.inr (ci, l)) (zfs_set (by simp [zF, hkd, zu_same]) (fun j hj => by simp [zF, zu_nk (Or.inr hj)])).symm
theorem z_putl {idx ci k a w : Nat} {v : Int64} (hd : zD g.2.1 pc (.putfield idx) 3 pc2) (hf : zFL g.1 idx ci k 1 false) (hs : S[a]? = some (ci + 3, w)) (kk : zV g Post u S I (zuL L a k v) R pc2 lv st) : zV g Post u S I L R pc lv (.long v :: .ref a :: st) := by
  intro p l e Rm s m args below meth c D G as A H locs ls Q hX hS hR hL hE
  obtain ⟨hd, rfl⟩ := hd
  obtain ⟨C, T, N, ty, ⟨hc, hin, hty, hnm, hN, -, -⟩, hk, hlk, hfin, hkd, h0, h1, h2, h3⟩ := hf
  have he := hR.at hs
  rw [zE_obj hs] at he
  subst hN
  refine va_put (v := .long v) (ty := ty k) hX.1 hX.2.1 hX.2.2.2.2.2.2.1 hin ty hty hnm hX.2.2.2.2.2.1 hR.2.2.2 hR.2.1 hR.2.2.1 hS a he hc k hk (hX.2.2.2.2.2.2.1 _ hlk) (fun _ h => h) hfin (hty k hk) (by rw [h1 rfl]; rfl) (by rw [h1 rfl]; rfl) (by rw [zfs_len]; exact hk) hd (fun H1 locs1 hP1 hD1 hS1 => ?_)
  refine kk p l e Rm s m args below meth c D G as A H1 locs1 ls Q hX hS1 (hR.put ((zE_obj hs).trans ?_) (fun q hq => (zE_congr rfl (zuL_ne hq) rfl)) hP1 hD1) hL hE
  exact congrArg (fun l => Sum.inr (ci, l)) (zfs_set (by have hkd1 : zkd ci k = 1 := hkd; simp [zF, hkd1, zuL]) (fun j hj => by simp [zF, zuL, hj])).symm
theorem z_iald {a n : Nat} {i : Int32} (j : Nat) (hd : zD g.2.1 pc .iaload 1 pc2) (hs : S[a]? = some (0, n)) (hi : i = nI j) (hj : j < n) (hn : n < 2 ^ 31) (kk : zV g Post u S I L R pc2 lv (.int (I a j) :: st)) : zV g Post u S I L R pc lv (.int i :: .ref a :: st) := by
  intro p l e Rm s m args below meth c D G as A H locs ls Q hX hS hR hL hE
  obtain ⟨hd, rfl⟩ := hd
  have he := hR.at hs
  rw [zE_int hs] at he
  have hcl : i.toNatClampNeg = j := by rw [hi]; exact nI_clamp (by omega)
  refine va_iald hX.1 hX.2.1 hR.2.2.2 hR.2.1 a 0 he rfl (by rw [hi]; exact vp_in_nI hj hn) hd ?_
  rw [hcl]
  exact kk p l e Rm s m args below meth c D G as A H locs ls Q hX hS hR hL hE
theorem z_iast {a n : Nat} {i v : Int32} (j : Nat) (hd : zD g.2.1 pc .iastore 1 pc2) (hs : S[a]? = some (0, n)) (hi : i = nI j) (hj : j < n) (hn : n < 2 ^ 31) (kk : zV g Post u S (zu I a j v) L R pc2 lv st) : zV g Post u S I L R pc lv (.int v :: .int i :: .ref a :: st) := by
  intro p l e Rm s m args below meth c D G as A H locs ls Q hX hS hR hL hE
  obtain ⟨hd, rfl⟩ := hd
  have he := hR.at hs
  rw [zE_int hs] at he
  have hcl : i.toNatClampNeg = j := by rw [hi]; exact nI_clamp (by omega)
  refine va_iast hX.1 hX.2.1 hR.2.2.2 hR.2.1 hR.2.2.1 hS a 0 he rfl (by rw [hi]; exact vp_in_nI hj hn) hd (fun H1 locs1 hP1 hD1 hS1 => ?_)
  rw [hcl] at hP1 hD1
  exact kk p l e Rm s m args below meth c D G as A H1 locs1 ls Q hX hS1 (hR.put ((zE_int hs).trans (by rw [zu_at])) (fun q hq => zE_congr (zu_ne hq) rfl rfl) hP1 hD1) hL hE
theorem z_zald {a n : Nat} {i : Int32} (j : Nat) (hd : zD g.2.1 pc .baload 1 pc2) (hs : S[a]? = some (1, n)) (hi : i = nI j) (hj : j < n) (hn : n < 2 ^ 31) (kk : zV g Post u S I L R pc2 lv (.int (I a j) :: st)) : zV g Post u S I L R pc lv (.int i :: .ref a :: st) := by
  intro p l e Rm s m args below meth c D G as A H locs ls Q hX hS hR hL hE
  obtain ⟨hd, rfl⟩ := hd
  have he := hR.at hs
  rw [zE_bool hs] at he
  have hcl : i.toNatClampNeg = j := by rw [hi]; exact nI_clamp (by omega)
  refine va_zald hX.1 hX.2.1 hR.2.2.2 hR.2.1 a 1 he rfl (by rw [hi]; exact vp_in_nI hj hn) hd ?_
  rw [hcl]
  exact kk p l e Rm s m args below meth c D G as A H locs ls Q hX hS hR hL hE
theorem z_zast {a n : Nat} {i v : Int32} (j : Nat) (hd : zD g.2.1 pc .bastore 1 pc2) (hs : S[a]? = some (1, n)) (hi : i = nI j) (hj : j < n) (hn : n < 2 ^ 31) (hv : v = 0 ∨ v = 1) (kk : zV g Post u S (zu I a j v) L R pc2 lv st) : zV g Post u S I L R pc lv (.int v :: .int i :: .ref a :: st) := by
  intro p l e Rm s m args below meth c D G as A H locs ls Q hX hS hR hL hE
  obtain ⟨hd, rfl⟩ := hd
  have he := hR.at hs
  rw [zE_bool hs] at he
  have hcl : i.toNatClampNeg = j := by rw [hi]; exact nI_clamp (by omega)
  have hnv : vp_nar .boolean v = v := by rcases hv with rfl | rfl <;> rfl
  refine va_zast hX.1 hX.2.1 hR.2.2.2 hR.2.1 hR.2.2.1 hS a 1 he rfl (by rw [hi]; exact vp_in_nI hj hn) hd (fun H1 locs1 hP1 hD1 hS1 => ?_)
  rw [hcl, hnv] at hP1 hD1
  exact kk p l e Rm s m args below meth c D G as A H1 locs1 ls Q hX hS1 (hR.put ((zE_bool hs).trans (by rw [zu_at])) (fun q hq => zE_congr (zu_ne hq) rfl rfl) hP1 hD1) hL hE
theorem z_aald {a n q : Nat} {i : Int32} (j : Nat) (hd : zD g.2.1 pc .aaload 1 pc2) (hs : S[a]? = some (2, n)) (hi : i = nI j) (hj : j < n) (hn : n < 2 ^ 31) (hr : R a j = some q) (kk : zV g Post u S I L R pc2 lv (.ref q :: st)) : zV g Post u S I L R pc lv (.int i :: .ref a :: st) := by
  intro p l e Rm s m args below meth c D G as A H locs ls Q hX hS hR hL hE
  obtain ⟨hd, rfl⟩ := hd
  have he := hR.at hs
  rw [zE_refs hs] at he
  have hcl : i.toNatClampNeg = j := by rw [hi]; exact nI_clamp (by omega)
  refine va_aldq (C := RX2) hX.1 hX.2.1 hR.2.2.2 hR.2.1 a 2 he rfl (by rw [hi]; exact vp_in_nI hj hn) hd ?_
  rw [hcl, hr]
  exact kk p l e Rm s m args below meth c D G as A H locs ls Q hX hS hR hL hE
theorem z_alen {a n kd : Nat} (hd : zD g.2.1 pc .arraylength 1 pc2) (hs : S[a]? = some (kd, n)) (hk : kd < 3) (kk : zV g Post u S I L R pc2 lv (.int (nI n) :: st)) : zV g Post u S I L R pc lv (.ref a :: st) := by
  intro p l e Rm s m args below meth c D G as A H locs ls Q hX hS hR hL hE
  obtain ⟨hd, rfl⟩ := hd
  have he := hR.at hs
  match kd, hk, hs with
  | 0, _, hs =>
    rw [zE_int hs] at he
    exact va_alen hX.1 hX.2.1 hR.2.2.2 hR.2.1 a 0 he rfl rfl hd (kk p l e Rm s m args below meth c D G as A H locs ls Q hX hS hR hL hE)
  | 1, _, hs =>
    rw [zE_bool hs] at he
    exact va_alen hX.1 hX.2.1 hR.2.2.2 hR.2.1 a 1 he rfl rfl hd (kk p l e Rm s m args below meth c D G as A H locs ls Q hX hS hR hL hE)
  | 2, _, hs =>
    rw [zE_refs hs] at he
    exact va_alen hX.1 hX.2.1 hR.2.2.2 hR.2.1 a 2 he rfl rfl hd (kk p l e Rm s m args below meth c D G as A H locs ls Q hX hS hR hL hE)
theorem z_sld {b n : Nat} {xs : Nat → Int32} {i : Int32} (hsc : g.2.2.2.2.2.2.2 = some (b, n, xs)) (hd : zD g.2.1 pc .iaload 1 pc2) (hi : vp_in i n) (kk : zV g Post u S I L R pc2 lv (.int (xs i.toNatClampNeg) :: st)) : zV g Post u S I L R pc lv (.int i :: .retAddr b :: st) := by
  intro p l e Rm s m args below meth c D G as A H locs ls Q hX hS hR hL hE
  obtain ⟨hd, rfl⟩ := hd
  have hsx := hX.2.2.2.2.2.2.2.2.2.2.2.2.2.2
  rw [hsc] at hsx
  exact va_sld hX.1 hX.2.1 hsx.1 hsx.2.1 hsx.2.2 hS hi hd (kk p l e Rm s m args below meth c D G as A H locs ls Q hX hS hR hL hE)
theorem z_slen {b n : Nat} {xs : Nat → Int32} (hsc : g.2.2.2.2.2.2.2 = some (b, n, xs)) (hd : zD g.2.1 pc .arraylength 1 pc2) (kk : zV g Post u S I L R pc2 lv (.int (nI n) :: st)) : zV g Post u S I L R pc lv (.retAddr b :: st) := by
  intro p l e Rm s m args below meth c D G as A H locs ls Q hX hS hR hL hE
  obtain ⟨hd, rfl⟩ := hd
  have hsx := hX.2.2.2.2.2.2.2.2.2.2.2.2.2.2
  rw [hsc] at hsx
  exact va_slen hX.1 hX.2.1 hsx.1 hsx.2.1 hsx.2.2 hS hd (kk p l e Rm s m args below meth c D G as A H locs ls Q hX hS hR hL hE)
theorem z_ret  (hd : zD g.2.1 pc .return_ 1 pc2) (hu : u.1 ≤ g.2.2.2.2.2.2.1.1 ∧ u.2 ≤ g.2.2.2.2.2.2.1.2) (hr : g.2.2.2.1 = none) (hp : Post S I L R none) : zV g Post u S I L R pc lv [] := by
  intro p l e Rm s m args below meth c D G as A H locs ls Q hX hS hR hL hE
  refine W.widen hu.1 hu.2 ?_
  exact hE S I L R none as H locs pc ls hd.1 hp (by rw [hr]; trivial) (List.prefix_refl _) hR hS
theorem z_iret {v : Int32} (hd : zD g.2.1 pc .ireturn 1 pc2) (hu : u.1 ≤ g.2.2.2.2.2.2.1.1 ∧ u.2 ≤ g.2.2.2.2.2.2.1.2) (hr : zVr g.2.2.2.1 (some (.int v))) (hp : Post S I L R (some (.int v))) : zV g Post u S I L R pc lv [.int v] := by
  intro p l e Rm s m args below meth c D G as A H locs ls Q hX hS hR hL hE
  refine W.widen hu.1 hu.2 ?_
  exact hE S I L R (some (.int v)) as H locs pc ls hd.1 hp hr (List.prefix_refl _) hR hS
theorem z_aret {v : Nat} (hd : zD g.2.1 pc .areturn 1 pc2) (hu : u.1 ≤ g.2.2.2.2.2.2.1.1 ∧ u.2 ≤ g.2.2.2.2.2.2.1.2) (hr : zVr g.2.2.2.1 (some (.ref v))) (hp : Post S I L R (some (.ref v))) : zV g Post u S I L R pc lv [.ref v] := by
  intro p l e Rm s m args below meth c D G as A H locs ls Q hX hS hR hL hE
  refine W.widen hu.1 hu.2 ?_
  exact hE S I L R (some (.ref v)) as H locs pc ls hd.1 hp hr (List.prefix_refl _) hR hS
theorem z_mmax {x y : Int32} {idx : Nat} (hd : zD g.2.1 pc (.invokestatic idx) 3 pc2) (h1 : Cond.methodLink g.1 idx Lib.Math.max.name ∈ zT) (h2 : Cond.static Lib.Math.max.name ∈ zT) (h3 : Cond.initialized "java/lang/Math" ∈ zT) (h4 : Cond.code Lib.Math.max.name Lib.Math.max.code 2 (some .int) ∈ zT) (hdp : 1 ≤ g.2.2.2.2.2.1) (hst : (st.map fun v => v.category).sum ≤ 8) (hu : u.1 ≤ g.2.2.2.2.2.2.1.1 ∧ u.2 ≤ g.2.2.2.2.2.2.1.2) (k : zV g Post u S I L R pc2 lv (.int (if x < y then y else x) :: st)) : zV g Post u S I L R pc lv (.int y :: .int x :: st) := by
  intro p l e Rm s m args below meth c D G as A H locs ls Q hX hS hR hL hE
  obtain ⟨hd, rfl⟩ := hd
  have hx := hX
  obtain ⟨x1, x2, x3, x4, x5, x6, x7, x8, x9, x10, x11, x12, x13, x14, x15⟩ := hx
  exact va_mmax x1 x2 (by rw [x5]; exact hL.1.symm) x6 (x7 _ h1) (x7 _ h2) (x7 _ h3) (x7 _ h4) (by omega) (by rw [zc_cats]; omega) (by rw [x11]; exact hu.1) (by rw [x12]; exact hu.2) hd (k p l e Rm s m args below meth c D G as A H locs ls Q hX hS hR hL hE)
theorem z_mmin {x y : Int32} {idx : Nat} (hd : zD g.2.1 pc (.invokestatic idx) 3 pc2) (h1 : Cond.methodLink g.1 idx Lib.Math.min.name ∈ zT) (h2 : Cond.static Lib.Math.min.name ∈ zT) (h3 : Cond.initialized "java/lang/Math" ∈ zT) (h4 : Cond.code Lib.Math.min.name Lib.Math.min.code 2 (some .int) ∈ zT) (hdp : 1 ≤ g.2.2.2.2.2.1) (hst : (st.map fun v => v.category).sum ≤ 8) (hu : u.1 ≤ g.2.2.2.2.2.2.1.1 ∧ u.2 ≤ g.2.2.2.2.2.2.1.2) (k : zV g Post u S I L R pc2 lv (.int (if y < x then y else x) :: st)) : zV g Post u S I L R pc lv (.int y :: .int x :: st) := by
  intro p l e Rm s m args below meth c D G as A H locs ls Q hX hS hR hL hE
  obtain ⟨hd, rfl⟩ := hd
  have hx := hX
  obtain ⟨x1, x2, x3, x4, x5, x6, x7, x8, x9, x10, x11, x12, x13, x14, x15⟩ := hx
  exact va_mmin x1 x2 (by rw [x5]; exact hL.1.symm) x6 (x7 _ h1) (x7 _ h2) (x7 _ h3) (x7 _ h4) (by omega) (by rw [zc_cats]; omega) (by rw [x11]; exact hu.1) (by rw [x12]; exact hu.2) hd (k p l e Rm s m args below meth c D G as A H locs ls Q hX hS hR hL hE)
theorem z_mabs {x : Int32} {idx : Nat} (hd : zD g.2.1 pc (.invokestatic idx) 3 pc2) (h1 : Cond.methodLink g.1 idx Lib.Math.abs.name ∈ zT) (h2 : Cond.static Lib.Math.abs.name ∈ zT) (h3 : Cond.initialized "java/lang/Math" ∈ zT) (h4 : Cond.code Lib.Math.abs.name Lib.Math.abs.code 1 (some .int) ∈ zT) (hdp : 1 ≤ g.2.2.2.2.2.1) (hst : (st.map fun v => v.category).sum ≤ 8) (hu : u.1 ≤ g.2.2.2.2.2.2.1.1 ∧ u.2 ≤ g.2.2.2.2.2.2.1.2) (k : zV g Post u S I L R pc2 lv (.int (if 0 ≤ x then x else 0 - x) :: st)) : zV g Post u S I L R pc lv (.int x :: st) := by
  intro p l e Rm s m args below meth c D G as A H locs ls Q hX hS hR hL hE
  obtain ⟨hd, rfl⟩ := hd
  have hx := hX
  obtain ⟨x1, x2, x3, x4, x5, x6, x7, x8, x9, x10, x11, x12, x13, x14, x15⟩ := hx
  exact va_mabs x1 x2 (by rw [x5]; exact hL.1.symm) x6 (x7 _ h1) (x7 _ h2) (x7 _ h3) (x7 _ h4) (by omega) (by rw [zc_cats]; omega) (by rw [x11]; exact hu.1) (by rw [x12]; exact hu.2) hd (k p l e Rm s m args below meth c D G as A H locs ls Q hX hS hR hL hE)
theorem z_copy {a b n0 n1 idx : Nat} {sp dp n : Int32} (hd : zD g.2.1 pc (.invokestatic idx) 3 pc2) (h1 : Cond.methodLink g.1 idx arraycopyName ∈ zT) (h2 : Cond.native arraycopyName ∈ zT) (h3 : Cond.static arraycopyName ∈ zT) (h4 : Cond.initialized "java/lang/System" ∈ zT) (ha : S[a]? = some (0, n0)) (hb : S[b]? = some (0, n1)) (g1 : ¬ sp < 0) (g2 : ¬ dp < 0) (g3 : ¬ n < 0) (g4 : sp.toNatClampNeg + n.toNatClampNeg ≤ n0) (g5 : dp.toNatClampNeg + n.toNatClampNeg ≤ n1) (hdp : 1 ≤ g.2.2.2.2.2.1) (hst : (st.map fun v => v.category).sum ≤ 8) (I2 : zMI) (hI : I2 b = va_cpy (I a) (I b) sp.toNatClampNeg dp.toNatClampNeg n.toNatClampNeg) (hI2 : ∀ q, q ≠ b → I2 q = I q) (kk : zV g Post u S I2 L R pc2 lv st) : zV g Post u S I L R pc lv (.int n :: .int dp :: .ref b :: .int sp :: .ref a :: st) := by
  intro p l e Rm s m args below meth c D G as A H locs ls Q hX hS hR hL hE
  obtain ⟨hd, rfl⟩ := hd
  have hx := hX
  obtain ⟨x1, x2, x3, x4, x5, x6, x7, x8, x9, x10, x11, x12, x13, x14, x15⟩ := hx
  have hea := hR.at ha
  rw [zE_int ha] at hea
  have heb := hR.at hb
  rw [zE_int hb] at heb
  have hnf : nativeFrameWords "java/lang/System" "arraycopy" 5 + 11 ≤ 32 := by decide +kernel
  refine va_copyi x1 x2 (by rw [x5]; exact hL.1.symm) x6 (x7 _ h1) (x7 _ h2) (x7 _ h3) (x7 _ h4) hR.2.2.2 hR.2.1 hR.2.2.1 hS a b 0 0 hea heb rfl rfl rfl g1 g2 g3 g4 g5 (fun _ _ => rfl) (by omega) (by rw [zc_cats]; omega) hd (fun H1 locs1 hP1 hD1 hS1 => ?_)
  exact kk p l e Rm s m args below meth c D G as A H1 locs1 ls Q hX hS1 (hR.put ((zE_int hb).trans (by rw [hI])) (fun q hq => zE_congr (hI2 q hq) rfl rfl) hP1 hD1) hL hE
end ZRules
end
section
/-! ===== contracts ===== -/
def zws (y : MethodName) (cc : ByteArray) (nL : Nat) (rt : Option FieldType) : List Cond := Cond.code y cc nL rt :: zT
def zRm (d : Nat) (T : Nat × Nat) : Room := { frames := d, cells := T.1, slots := T.2, locals := 40 * d }
def zPc (D : va_G) (G : zGt) (as : List Nat) (sz : Nat) (S : zS) (I : zMI) (L : zML) (R : zMR) (av : List Value) : Array Value → State → Prop := fun v U => v = (av.map (zc as)).toArray ∧ U.heap.size = sz ∧ as.length = S.length ∧ va_P D vwCl (zW G as S I L R) U.heap ∧ va_D (fun _ => True) (zW G as S I L R) ∧ va_K D vwCl (zTy G) U ∧ zNw U
def zQc (D : va_G) (G : zGt) (as : List Nat) (sz : Nat) (S : zS) (I : zMI) (L : zML) (R : zMR) (Post : zPost) : Array Value → State → Outcome → State → Prop := fun _ st o t => ∃ (S2 : zS) (I2 : zMI) (L2 : zML) (R2 : zMR) (r : Option Value) (as2 : List Nat), o = .returned (r.map (zc as2)) ∧ Post S2 I2 L2 R2 r ∧ as <+: as2 ∧ as2.length = S2.length ∧ va_P D vwCl (zW G as2 S2 I2 L2 R2) t.heap ∧ va_D (va_A (zW G as S I L R) sz) (zW G as2 S2 I2 L2 R2) ∧ va_F (va_A (zW G as S I L R) sz) st t
def zMet (y : MethodName) (cc : ByteArray) (nL : Nat) (rt : Option FieldType) (d : Nat) (T : Nat × Nat) (av : List Value) (S : zS) (I : zMI) (L : zML) (R : zMR) (Post : zPost) : Prop :=
  ∀ (l : Launch) (D : va_G) (G : zGt) (as : List Nat) (sz : Nat), Met l y (zws y cc nL rt) (zRm d T) (zPc D G as sz S I L R av) (zQc D G as sz S I L R Post) T.1 T.2 (va_A (zW G as S I L R) sz)
def zM0 (y : MethodName) (cc : ByteArray) (nL : Nat) (rt : Option FieldType) (d : Nat) (av : List Value) (S : zS) (I : zMI) (L : zML) (R : zMR) (PostM : zMI → zML → Option Value → Prop) : Prop := zMet y cc nL rt d (0, 0) av S I L R (fun S2 I2 L2 R2 r => S2 = S ∧ R2 = R ∧ PostM I2 L2 r)
/-- nothing written; the answer is v -/
abbrev zPure (I : zMI) (L : zML) (v : Int32) : zMI → zML → Option Value → Prop := fun I2 L2 r => I2 = I ∧ L2 = L ∧ r = some (.int v)
theorem zNest_form : ∀ w ∈ zNest, ∃ a i x h, w = Cond.methodLinkNest a i x h := by
  intro w hw
  simp only [zNest, List.mem_cons, List.not_mem_nil, or_false] at hw
  rcases hw with rfl | rfl | rfl | rfl | rfl | rfl <;> exact ⟨_, _, _, _, rfl⟩
theorem zNw_warm {s U : State} (hW : s.WarmedH U.vm) (h : zNw s) : zNw U := by
  refine ⟨fun w hw => ?_, va_AO.moved hW.alike h.2⟩
  obtain ⟨a, i, x, hh, rfl⟩ := zNest_form w hw
  exact va_Nw.warmM hW (h.1 _ hw)
def zArg1 (av : List Value) : List (Option Value) := av.flatMap (fun v => if v.category = 2 then [some v, none] else [some v])
def zArg (nL : Nat) (av : List Value) : List (Option Value) := zArg1 av ++ List.replicate (nL - (zArg1 av).length) none
theorem lvargs_get : ∀ (vs : List Value) (n i : Nat) (v : Value), (zArg1 vs)[i]? = some (some v) → (n + i, v) ∈ lv_args n vs
  | [], n, i, v, h => by simp [zArg1] at h
  | w :: vs, n, i, v, h => by
    unfold zArg1 at h
    rw [List.flatMap_cons] at h
    unfold lv_args
    by_cases hc : w.category = 2
    · rw [if_pos hc] at h
      match i, h with
      | 0, h =>
        simp at h
        subst h
        simp
      | 1, h => simp at h
      | i + 2, h =>
        have h2 : (zArg1 vs)[i]? = some (some v) := by simpa [zArg1] using h
        have h3 := lvargs_get vs (n + 2) i v h2
        rw [show n + (i + 2) = n + 2 + i by omega]
        simp only [hc]
        exact List.mem_cons_of_mem _ (by simpa using h3)
    · rw [if_neg hc] at h
      have hc1 : w.category = 1 := by
        rcases lv_cat w with h | h
        · exact h
        · exact absurd h hc
      match i, h with
      | 0, h =>
        simp at h
        subst h
        simp
      | i + 1, h =>
        have h2 : (zArg1 vs)[i]? = some (some v) := by simpa [zArg1] using h
        have h3 := lvargs_get vs (n + 1) i v h2
        rw [show n + (i + 1) = n + 1 + i by omega]
        simp only [hc1]
        exact List.mem_cons_of_mem _ (by simpa using h3)
theorem zArg_conc (as : List Nat) (av : List Value) : zArg1 (av.map (zc as)) = (zArg1 av).map (Option.map (zc as)) := by
  unfold zArg1
  induction av with
  | nil => rfl
  | cons v t ih =>
    rw [List.map_cons, List.flatMap_cons, List.flatMap_cons, List.map_append, ih, zc_cat]
    by_cases hc : v.category = 2 <;> simp [hc]
theorem lg_sl_len (vs : List Value) : (lg_sl vs).length = (zArg1 vs).length := by
  induction vs with
  | nil => rfl
  | cons v t ih =>
    unfold lg_sl zArg1 at ih ⊢
    rw [List.flatMap_cons, List.flatMap_cons, List.length_append, List.length_append, ih]
    by_cases hc : v.category = 2 <;> simp [hc]
theorem zH_entry (as : List Nat) (av : List Value) {nL : Nat} {lv : List (Option Value)} (h : zArg nL av = lv) (hn : lv.length = nL) : (lg_sl (av.map (zc as))).length ≤ nL ∧ zH ((lg_sl (av.map (zc as)) ++ List.replicate (nL - (lg_sl (av.map (zc as))).length) Slot.unset).toArray) nL as lv := by
  have hlen : (lg_sl (av.map (zc as))).length ≤ nL := by
    rw [lg_sl_len, zArg_conc, List.length_map]
    rw [← h] at hn
    unfold zArg at hn
    rw [List.length_append, List.length_replicate] at hn
    omega
  have he := lv_entry (av.map (zc as)) (n := nL) hlen
  refine ⟨hlen, he.1, he.2.1, by omega, fun i v hi => ?_⟩
  rw [← h] at hi
  unfold zArg at hi
  by_cases hl : i < (zArg1 av).length
  · rw [List.getElem?_append_left hl] at hi
    have h2 : (zArg1 (av.map (zc as)))[i]? = some (some (zc as v)) := by
      rw [zArg_conc, List.getElem?_map, hi]; rfl
    have h3 := lvargs_get _ 0 i _ h2
    rw [Nat.zero_add] at h3
    exact he.2.2 _ h3
  · rw [List.getElem?_append_right (by omega)] at hi
    have := List.mem_of_getElem? hi
    simp at this
theorem zMet_of {y : MethodName} {cc : ByteArray} {nL : Nat} {rt : Option FieldType} {d : Nat} {T : Nat × Nat} {av : List Value} {S : zS} {I : zMI} {L : zML} {R : zMR} {Post : zPost} {ini : Bool} {lv : List (Option Value)} (hy : plainName y.cls = true) (hini : ini = true → y.name = "<init>") (ha : zArg nL av = lv) (hn : lv.length = nL)
    (h : zV (y.cls, cc, nL, rt, ini, d, T, none) Post (0, 0) S I L R 0 lv []) : zMet y cc nL rt d T av S I L R Post := by
  intro l D G as sz
  refine Met.ofW (cc := cc) (maxL := nL) (ret := rt) hy rfl ?_
  intro p e s m args below meth c s₁ B hml hv
  obtain ⟨rfl, hsz, hlen, hP, hD0, hK, hNw⟩ := hv
  have hts := atoms_spec (ws := zws y cc nL rt) B.pre
  subst hsz
  have hD := hD0.self (sz := s.heap.size)
  obtain ⟨hl0, hL⟩ := zH_entry as av ha hn
  rw [lg_entry_eq]
  refine h p l e _ s m _ below meth c D G as (va_A (zW G as S I L R) s.heap.size) s.heap [] _ _ ?_ va_S.rf ⟨hlen, hP, hD, hK⟩ hL ?_
  · exact ⟨B.exec, B.bytes, B.returns, B.notSynchronized, hml, findClass_of_methodNamed B.named, fun w hw => hts w (List.mem_cons_of_mem _ hw), fun hi => (name_of_methodNamed B.named B.method).1.trans (hini hi), Nat.le_refl _, Nat.le_refl _, rfl, rfl, hNw, fun q hq => Or.inr hq, trivial⟩
  · intro S2 I2 L2 R2 r as2 H2 locs2 pc2 ls2 hdec hpost hvr hpre hR2 hS2
    have hq : ∀ t : State, t.heap = H2 → s.WarmedH t.vm → zQc D G as s.heap.size S I L R Post (av.map (zc as)).toArray s (.returned (r.map (zc as2))) t := by
      intro t ht hW
      exact ⟨S2, I2, L2, R2, r, as2, rfl, hpost, hpre, hR2.1, by rw [ht]; exact hR2.2.1, hR2.2.2.1, hS2.F ht⟩
    have hlocks := B.notSynchronized
    have hf : ∀ q ∈ locs2, va_A (zW G as S I L R) s.heap.size q.base := hS2.2.2
    have hret : meth.sig.returnType = rt := B.returns
    have hexec := B.exec
    have hbytes := B.bytes
    clear B h hts
    match rt, r, hvr, hdec, hq, hret with
    | none, none, _, hdec, hq, hret => exact W.vret hexec hbytes hret hq hf hdec hlocks
    | some ty, some (.int v), hvr, hdec, hq, hret => exact W.zret hexec hbytes hret hvr hq hf hdec hlocks
    | some (.object nm), some (.ref v), _, hdec, hq, hret => exact W.aret hexec hbytes hret (Or.inl ⟨_, rfl⟩) (Or.inr ⟨_, rfl⟩) hq hf hdec hlocks
/-- a method by its pool entry: name, code, locals, answer, parameters -/
def zML0 (own : String) (idx : Nat) (y : MethodName) (cc : ByteArray) (nL : Nat) (rt : Option FieldType) (n : Nat) : Prop :=
  Cond.methodLink own idx y ∈ zT ∧ Cond.initialized y.cls ∈ zT ∧ Cond.code y cc nL rt ∈ zT ∧ (y.cls ≠ "java/lang/invoke/MethodHandle" ∧ y.cls ≠ "java/lang/invoke/VarHandle" ∧ (parseMethodDescriptor y.desc).map (fun d => d.parameters.length) = some n) ∧ nL ≤ 20
def zMLV (own : String) (idx ci : Nat) (y : MethodName) (cc : ByteArray) (nL : Nat) (rt : Option FieldType) (n : Nat) : Prop :=
  zML0 own idx y cc nL rt n ∧ Cond.instanceMethod y ∈ zT ∧ Cond.selects y.cls y y ∈ zT ∧ ∃ T N, vwCl[ci]? = some (y.cls, T, N)
def zMLS (own : String) (idx : Nat) (y : MethodName) (cc : ByteArray) (nL : Nat) (rt : Option FieldType) (n : Nat) : Prop :=
  zML0 own idx y cc nL rt n ∧ Cond.static y ∈ zT
def zMLI (own : String) (idx : Nat) (y : MethodName) (cc : ByteArray) (nL : Nat) (n : Nat) : Prop :=
  zML0 own idx y cc nL none n ∧ Cond.instanceMethod y ∈ zT ∧ y.name = "<init>"
def zMLN (own : String) (idx : Nat) (y : MethodName) (cc : ByteArray) (nL : Nat) (rt : Option FieldType) (n : Nat) (host : String) : Prop :=
  Cond.methodLinkNest own idx y host ∈ zNest ∧ Cond.initialized y.cls ∈ zT ∧ Cond.code y cc nL rt ∈ zT ∧ (y.cls ≠ "java/lang/invoke/MethodHandle" ∧ y.cls ≠ "java/lang/invoke/VarHandle" ∧ (parseMethodDescriptor y.desc).map (fun d => d.parameters.length) = some n) ∧ nL ≤ 20
def zOk (n : Nat) (st : List Value) : Prop := ∀ v ∈ st, ∀ q, v = .ref q → q < n
theorem zc_ok {as as2 : List Nat} (hp : as <+: as2) {v : Value} (h : ∀ q, v = .ref q → q < as.length) : zc as2 v = zc as v := by
  cases v with
  | ref q =>
    have hq := h q rfl
    obtain ⟨t, rfl⟩ := hp
    simp [zc, zr, List.getD_eq_getElem?_getD, List.getElem?_append_left hq]
  | _ => rfl
theorem zOk_map {as as2 : List Nat} (hp : as <+: as2) {st : List Value} (h : zOk as.length st) : st.map (zc as2) = st.map (zc as) := List.map_congr_left (fun v hv => zc_ok hp (h v hv))
theorem zH_ok {as as2 : List Nat} (hp : as <+: as2) {ls : Array Slot} {nL : Nat} {lv : List (Option Value)} (hL : zH ls nL as lv) (h : zOk as.length (lv.filterMap id)) : zH ls nL as2 lv :=
  ⟨hL.1, hL.2.1, hL.2.2.1, fun i v hi => by rw [zc_ok hp (h v (List.mem_filterMap.mpr ⟨some v, List.mem_of_getElem? hi, rfl⟩))]; exact hL.2.2.2 i v hi⟩
theorem zEnd.mono {g : zG} {Post : zPost} {p : Program} {l : Launch} {e : Env} {Rm : Room} {s : State} {m : MethodId} {args : Array Value} {below : List Frame} {meth : Method} {c : Code} {D : va_G} {G : zGt} {as as2 : List Nat} {A : Nat → Prop} {Q : State → Prop} (h : zEnd g Post p l e Rm s m args below meth c D G as A Q) (hp : as <+: as2) : zEnd g Post p l e Rm s m args below meth c D G as2 A Q :=
  fun S I L R r as3 H locs pc ls h1 h2 h3 h4 => h S I L R r as3 H locs pc ls h1 h2 h3 (List.IsPrefix.trans hp h4)
theorem zFB {D : va_G} {G : zGt} {as : List Nat} {sz : Nat} {S : zS} {I : zMI} {L : zML} {R : zMR} {av : List Value} : FrameBlind (zPc D G as sz S I L R av) := by
  intro a U g mk q
  obtain ⟨q0, q1, q2, qP, qD, qK, qN⟩ := q
  refine ⟨q0, q1, q2, qP, qD, va_K.moved (u := U) (U := U.calling g mk a) (Vm.Alike.refl U.vm) qK, fun w hw => ?_, va_AO.moved (u := U) (U := U.calling g mk a) (Vm.Alike.refl U.vm) qN.2⟩
  obtain ⟨a1, i1, x1, h1, rfl⟩ := zNest_form w hw
  exact va_Nw.same (U := U.calling g mk a) rfl rfl (qN.1 _ hw)
section ZCalls
variable {g : zG} {Post Post2 : zPost} {u T2 : Nat × Nat} {S : zS} {I : zMI} {L : zML} {R : zMR} {pc pc2 : Nat} {lv : List (Option Value)} {st : List Value} {y : MethodName} {cc2 : ByteArray} {nL2 d2 n idx : Nat} {rt2 : Option FieldType}
theorem zAfter {p : Program} {l : Launch} {e : Env} {Rm : Room} {s : State} {m : MethodId} {args a : Array Value} {below : List Frame} {meth : Method} {c : Code} {D : va_G} {G : zGt} {as : List Nat} {A : Nat → Prop} {H : Heap} {locs : List Loc} {ls : Array Slot} {Q : State → Prop} {rest : List Value} {st0 : List Value}
    (hX : zX g p l e Rm s m args meth c A) (hS : va_S A s.heap H locs) (hR : zRep D G as A S I L R H s) (hL : zH ls g.2.2.1 as lv) (hE : zEnd g Post p l e Rm s m args below meth c D G as A Q)
    (hrun : va_Run p l e Rm s m args below meth c H locs u.1 u.2 T2.1 T2.2 (F0 m pc ls st0) (rest.map (zc as)) (zQc D G as H.size S I L R Post2 a) (va_A (zW G as S I L R) H.size))
    (hok : ∀ S2 I2 L2 R2 r, Post2 S2 I2 L2 R2 r → S2.length = S.length ∨ (zOk S.length rest ∧ zOk S.length (lv.filterMap id)))
    (kk : ∀ S2 I2 L2 R2 r, Post2 S2 I2 L2 R2 r → zV g Post (u.1 + T2.1, u.2 + T2.2) S2 I2 L2 R2 (pc + 3) lv (r.toList ++ rest)) : W p l e Rm s m args below meth c H locs u.1 u.2 Q (F0 m pc ls st0) := by
  intro T hT X
  obtain ⟨v, st₀, t, T', Lc, h0, X', hLc, e1, e2, hq, stp⟩ := hrun T hT X
  obtain ⟨S2, I2, L2, R2, r, as2, ho, hp2, hpre, hlen2, hP2, hD2, hF2⟩ := hq
  have hv : v = r.map (zc as2) := Outcome.returned.inj ho
  subst hv
  have hA : ∀ q, va_A (zW G as S I L R) H.size q → A q := by
    intro q hq
    rcases hq with ⟨k, e, h⟩ | h
    · exact hR.2.2.1.2 k (q, e) h
    · exact hX.2.2.2.2.2.2.2.2.2.2.2.2.2.1 q (Nat.le_trans hS.1 h)
  obtain ⟨hz, hk⟩ := hF2
  rw [h0] at hz hk
  have hS2 : va_S A s.heap T'.heap (locs ++ Lc) := ⟨Nat.le_trans hS.1 (by rw [e1]; exact hz), fun q h1 h2 => by rw [e1, hk q (Nat.lt_of_lt_of_le h1 hS.1) (fun z => h2 (hA q z))]; exact hS.2.1 q h1 h2, fun q hq => by
      rcases List.mem_append.mp hq with h | h
      · exact hS.2.2 q h
      · exact hA _ (hLc q h)⟩
  have hR2 : zRep D G as2 A S2 I2 L2 R2 T'.heap s := ⟨hlen2, by rw [e1]; exact hP2, hD2.weaken (fun k q _ h => hA _ h), hR.2.2.2⟩
  have hrest : rest.map (zc as2) = rest.map (zc as) ∧ zH ls g.2.2.1 as2 lv := by
    rcases hok S2 I2 L2 R2 r hp2 with h | ⟨h1, h2⟩
    · have : as2 = as := by
        obtain ⟨t, rfl⟩ := hpre
        have hl := hR.1
        rw [List.length_append] at hlen2
        have : t.length = 0 := by omega
        rw [List.length_eq_zero_iff.mp this, List.append_nil]
      subst this
      exact ⟨rfl, hL⟩
    · rw [← hR.1] at h1 h2
      exact ⟨zOk_map hpre h1, zH_ok hpre hL h2⟩
  obtain ⟨t2, a1, b1⟩ := kk S2 I2 L2 R2 r hp2 p l e Rm s m args below meth c D G as2 A T'.heap (locs ++ Lc) ls Q hX hS2 hR2 hrest.2 (hE.mono hpre) T' rfl X'
  refine ⟨t2, stp t2 ?_, b1⟩
  have : (r.toList ++ rest).map (zc as2) = (r.map (zc as2)).toList ++ rest.map (zc as) := by
    rw [List.map_append, hrest.1]
    cases r <;> rfl
  rw [this] at a1
  exact a1
theorem zPre {av : List Value} {p : Program} {l : Launch} {e : Env} {Rm : Room} {s : State} {m : MethodId} {args : Array Value} {meth : Method} {c : Code} {D : va_G} {G : zGt} {as : List Nat} {A : Nat → Prop} {H : Heap} (hX : zX g p l e Rm s m args meth c A) (hR : zRep D G as A S I L R H s) : PreS s H (zPc D G as H.size S I L R av) (av.map (zc as)) :=
  ⟨zFB, fun U hU hW => ⟨rfl, by rw [hU], hR.1, by rw [hU]; exact hR.2.1, hR.2.2.1.weaken (fun _ _ _ _ => trivial), va_K.moved hW.alike hR.2.2.2, zNw_warm hW hX.2.2.2.2.2.2.2.2.2.2.2.2.1⟩⟩
theorem zCB {own : String} {p : Program} {l : Launch} {e : Env} {Rm : Room} {s : State} {m : MethodId} {args : Array Value} {meth : Method} {c : Code} {A : Nat → Prop} (hX : zX g p l e Rm s m args meth c A) (hm : zML0 own idx y cc2 nL2 rt2 n) (hd : d2 + 1 ≤ g.2.2.2.2.2.1) : CallB Rm s args own idx y cc2 nL2 rt2 (zws y cc2 nL2 rt2) (zRm d2 T2) T2.1 T2.2 n := by
  obtain ⟨x1, x2, x3, x4, x5, x6, x7, x8, x9, x10, x11, x12, x13, x14, x15⟩ := hX
  refine callB_of n x7 (zT_good (fun w hw => ?_)) rfl rfl rfl (x7 _ hm.2.1) (x7 _ hm.1) hm.2.2.2.1 ⟨by show d2 + 1 ≤ _; omega, by have h20 := hm.2.2.2.2; show 8 + (nL2 + 11) + 40 * d2 ≤ _; omega⟩
  rcases List.mem_cons.mp hw with rfl | h
  · exact hm.2.2.1
  · exact h
theorem z_callV0g {b ci w : Nat} (hd : zD g.2.1 pc (.invokevirtual idx) 3 pc2) (hm : zMLV g.1 idx ci y cc2 nL2 rt2 0) (hs : S[b]? = some (ci + 3, w)) (hM : zMet y cc2 nL2 rt2 d2 T2 (.ref b :: []) S I L R Post2) (hdp : d2 + 1 ≤ g.2.2.2.2.2.1) (hst : (st.map fun v => v.category).sum ≤ 8) (hu : u.1 + T2.1 ≤ g.2.2.2.2.2.2.1.1 ∧ u.2 + T2.2 ≤ g.2.2.2.2.2.2.1.2) (hok : ∀ S2 I2 L2 R2 r, Post2 S2 I2 L2 R2 r → S2.length = S.length ∨ (zOk S.length st ∧ zOk S.length (lv.filterMap id))) (kk : ∀ S2 I2 L2 R2 r, Post2 S2 I2 L2 R2 r → zV g Post (u.1 + T2.1, u.2 + T2.2) S2 I2 L2 R2 pc2 lv (r.toList ++ st)) : zV g Post u S I L R pc lv (.ref b :: st) := by
  intro p l e Rm s m args below meth c D G as A H locs ls Q hX hS hR hL hE
  obtain ⟨hd, rfl⟩ := hd
  refine zAfter (rest := st) (a := ((.ref b :: []).map (zc as)).toArray) hX hS hR hL hE ?_ hok kk
  have hx := hX
  obtain ⟨x1, x2, x3, x4, x5, x6, x7, x8, x9, x10, x11, x12, x13, x14, x15⟩ := hx
  obtain ⟨hm0, hm1, hm2, T, N, hc⟩ := hm
  have he := hR.at hs
  rw [zE_obj hs] at he
  exact va_runV (As := []) ⟨x1, x2, x5, x6, x7⟩ (hM l D G as H.size) ⟨zCB hX hm0 hdp, x7 _ hm1, x7 _ hm2⟩ ⟨(zPre hX hR).1, va_recv hR.2.2.2 hR.2.1 hc he, (zPre (av := (.ref b :: [])) hX hR).2⟩ rfl rfl hL.1 rfl (lv_room (by rw [zc_cats]; exact hst)) hd ⟨by rw [x11]; exact hu.1, by rw [x12]; exact hu.2⟩
theorem z_callV0 {b ci w : Nat} {PostM : zMI → zML → Option Value → Prop} (hd : zD g.2.1 pc (.invokevirtual idx) 3 pc2) (hm : zMLV g.1 idx ci y cc2 nL2 rt2 0) (hs : S[b]? = some (ci + 3, w)) (hM : zM0 y cc2 nL2 rt2 d2 (.ref b :: []) S I L R PostM) (hdp : d2 + 1 ≤ g.2.2.2.2.2.1) (hst : (st.map fun v => v.category).sum ≤ 8) (hu : u.1 ≤ g.2.2.2.2.2.2.1.1 ∧ u.2 ≤ g.2.2.2.2.2.2.1.2) (kk : ∀ I2 L2 r, PostM I2 L2 r → zV g Post u S I2 L2 R pc2 lv (r.toList ++ st)) : zV g Post u S I L R pc lv (.ref b :: st) :=
  z_callV0g (T2 := (0, 0)) hd hm hs hM hdp hst hu (fun S2 I2 L2 R2 r h => Or.inl (by rw [h.1])) (fun S2 I2 L2 R2 r h => by obtain ⟨rfl, rfl, h⟩ := h; exact kk I2 L2 r h)
theorem z_callV1g {v1 : Value} {b ci w : Nat} (hd : zD g.2.1 pc (.invokevirtual idx) 3 pc2) (hm : zMLV g.1 idx ci y cc2 nL2 rt2 1) (hs : S[b]? = some (ci + 3, w)) (hM : zMet y cc2 nL2 rt2 d2 T2 (.ref b :: [v1]) S I L R Post2) (hdp : d2 + 1 ≤ g.2.2.2.2.2.1) (hst : (st.map fun v => v.category).sum ≤ 8) (hu : u.1 + T2.1 ≤ g.2.2.2.2.2.2.1.1 ∧ u.2 + T2.2 ≤ g.2.2.2.2.2.2.1.2) (hok : ∀ S2 I2 L2 R2 r, Post2 S2 I2 L2 R2 r → S2.length = S.length ∨ (zOk S.length st ∧ zOk S.length (lv.filterMap id))) (kk : ∀ S2 I2 L2 R2 r, Post2 S2 I2 L2 R2 r → zV g Post (u.1 + T2.1, u.2 + T2.2) S2 I2 L2 R2 pc2 lv (r.toList ++ st)) : zV g Post u S I L R pc lv (v1 :: .ref b :: st) := by
  intro p l e Rm s m args below meth c D G as A H locs ls Q hX hS hR hL hE
  obtain ⟨hd, rfl⟩ := hd
  refine zAfter (rest := st) (a := ((.ref b :: [v1]).map (zc as)).toArray) hX hS hR hL hE ?_ hok kk
  have hx := hX
  obtain ⟨x1, x2, x3, x4, x5, x6, x7, x8, x9, x10, x11, x12, x13, x14, x15⟩ := hx
  obtain ⟨hm0, hm1, hm2, T, N, hc⟩ := hm
  have he := hR.at hs
  rw [zE_obj hs] at he
  exact va_runV (As := [v1].map (zc as)) ⟨x1, x2, x5, x6, x7⟩ (hM l D G as H.size) ⟨zCB hX hm0 hdp, x7 _ hm1, x7 _ hm2⟩ ⟨(zPre hX hR).1, va_recv hR.2.2.2 hR.2.1 hc he, (zPre (av := (.ref b :: [v1])) hX hR).2⟩ rfl rfl hL.1 rfl (lv_room (by rw [zc_cats]; exact hst)) hd ⟨by rw [x11]; exact hu.1, by rw [x12]; exact hu.2⟩
theorem z_callV1 {v1 : Value} {b ci w : Nat} {PostM : zMI → zML → Option Value → Prop} (hd : zD g.2.1 pc (.invokevirtual idx) 3 pc2) (hm : zMLV g.1 idx ci y cc2 nL2 rt2 1) (hs : S[b]? = some (ci + 3, w)) (hM : zM0 y cc2 nL2 rt2 d2 (.ref b :: [v1]) S I L R PostM) (hdp : d2 + 1 ≤ g.2.2.2.2.2.1) (hst : (st.map fun v => v.category).sum ≤ 8) (hu : u.1 ≤ g.2.2.2.2.2.2.1.1 ∧ u.2 ≤ g.2.2.2.2.2.2.1.2) (kk : ∀ I2 L2 r, PostM I2 L2 r → zV g Post u S I2 L2 R pc2 lv (r.toList ++ st)) : zV g Post u S I L R pc lv (v1 :: .ref b :: st) :=
  z_callV1g (T2 := (0, 0)) hd hm hs hM hdp hst hu (fun S2 I2 L2 R2 r h => Or.inl (by rw [h.1])) (fun S2 I2 L2 R2 r h => by obtain ⟨rfl, rfl, h⟩ := h; exact kk I2 L2 r h)
theorem z_callV2g {v1 v2 : Value} {b ci w : Nat} (hd : zD g.2.1 pc (.invokevirtual idx) 3 pc2) (hm : zMLV g.1 idx ci y cc2 nL2 rt2 2) (hs : S[b]? = some (ci + 3, w)) (hM : zMet y cc2 nL2 rt2 d2 T2 (.ref b :: [v1, v2]) S I L R Post2) (hdp : d2 + 1 ≤ g.2.2.2.2.2.1) (hst : (st.map fun v => v.category).sum ≤ 8) (hu : u.1 + T2.1 ≤ g.2.2.2.2.2.2.1.1 ∧ u.2 + T2.2 ≤ g.2.2.2.2.2.2.1.2) (hok : ∀ S2 I2 L2 R2 r, Post2 S2 I2 L2 R2 r → S2.length = S.length ∨ (zOk S.length st ∧ zOk S.length (lv.filterMap id))) (kk : ∀ S2 I2 L2 R2 r, Post2 S2 I2 L2 R2 r → zV g Post (u.1 + T2.1, u.2 + T2.2) S2 I2 L2 R2 pc2 lv (r.toList ++ st)) : zV g Post u S I L R pc lv (v2 :: v1 :: .ref b :: st) := by
  intro p l e Rm s m args below meth c D G as A H locs ls Q hX hS hR hL hE
  obtain ⟨hd, rfl⟩ := hd
  refine zAfter (rest := st) (a := ((.ref b :: [v1, v2]).map (zc as)).toArray) hX hS hR hL hE ?_ hok kk
  have hx := hX
  obtain ⟨x1, x2, x3, x4, x5, x6, x7, x8, x9, x10, x11, x12, x13, x14, x15⟩ := hx
  obtain ⟨hm0, hm1, hm2, T, N, hc⟩ := hm
  have he := hR.at hs
  rw [zE_obj hs] at he
  exact va_runV (As := [v1, v2].map (zc as)) ⟨x1, x2, x5, x6, x7⟩ (hM l D G as H.size) ⟨zCB hX hm0 hdp, x7 _ hm1, x7 _ hm2⟩ ⟨(zPre hX hR).1, va_recv hR.2.2.2 hR.2.1 hc he, (zPre (av := (.ref b :: [v1, v2])) hX hR).2⟩ rfl rfl hL.1 rfl (lv_room (by rw [zc_cats]; exact hst)) hd ⟨by rw [x11]; exact hu.1, by rw [x12]; exact hu.2⟩
theorem z_callV2 {v1 v2 : Value} {b ci w : Nat} {PostM : zMI → zML → Option Value → Prop} (hd : zD g.2.1 pc (.invokevirtual idx) 3 pc2) (hm : zMLV g.1 idx ci y cc2 nL2 rt2 2) (hs : S[b]? = some (ci + 3, w)) (hM : zM0 y cc2 nL2 rt2 d2 (.ref b :: [v1, v2]) S I L R PostM) (hdp : d2 + 1 ≤ g.2.2.2.2.2.1) (hst : (st.map fun v => v.category).sum ≤ 8) (hu : u.1 ≤ g.2.2.2.2.2.2.1.1 ∧ u.2 ≤ g.2.2.2.2.2.2.1.2) (kk : ∀ I2 L2 r, PostM I2 L2 r → zV g Post u S I2 L2 R pc2 lv (r.toList ++ st)) : zV g Post u S I L R pc lv (v2 :: v1 :: .ref b :: st) :=
  z_callV2g (T2 := (0, 0)) hd hm hs hM hdp hst hu (fun S2 I2 L2 R2 r h => Or.inl (by rw [h.1])) (fun S2 I2 L2 R2 r h => by obtain ⟨rfl, rfl, h⟩ := h; exact kk I2 L2 r h)
theorem z_callV3g {v1 v2 v3 : Value} {b ci w : Nat} (hd : zD g.2.1 pc (.invokevirtual idx) 3 pc2) (hm : zMLV g.1 idx ci y cc2 nL2 rt2 3) (hs : S[b]? = some (ci + 3, w)) (hM : zMet y cc2 nL2 rt2 d2 T2 (.ref b :: [v1, v2, v3]) S I L R Post2) (hdp : d2 + 1 ≤ g.2.2.2.2.2.1) (hst : (st.map fun v => v.category).sum ≤ 8) (hu : u.1 + T2.1 ≤ g.2.2.2.2.2.2.1.1 ∧ u.2 + T2.2 ≤ g.2.2.2.2.2.2.1.2) (hok : ∀ S2 I2 L2 R2 r, Post2 S2 I2 L2 R2 r → S2.length = S.length ∨ (zOk S.length st ∧ zOk S.length (lv.filterMap id))) (kk : ∀ S2 I2 L2 R2 r, Post2 S2 I2 L2 R2 r → zV g Post (u.1 + T2.1, u.2 + T2.2) S2 I2 L2 R2 pc2 lv (r.toList ++ st)) : zV g Post u S I L R pc lv (v3 :: v2 :: v1 :: .ref b :: st) := by
  intro p l e Rm s m args below meth c D G as A H locs ls Q hX hS hR hL hE
  obtain ⟨hd, rfl⟩ := hd
  refine zAfter (rest := st) (a := ((.ref b :: [v1, v2, v3]).map (zc as)).toArray) hX hS hR hL hE ?_ hok kk
  have hx := hX
  obtain ⟨x1, x2, x3, x4, x5, x6, x7, x8, x9, x10, x11, x12, x13, x14, x15⟩ := hx
  obtain ⟨hm0, hm1, hm2, T, N, hc⟩ := hm
  have he := hR.at hs
  rw [zE_obj hs] at he
  exact va_runV (As := [v1, v2, v3].map (zc as)) ⟨x1, x2, x5, x6, x7⟩ (hM l D G as H.size) ⟨zCB hX hm0 hdp, x7 _ hm1, x7 _ hm2⟩ ⟨(zPre hX hR).1, va_recv hR.2.2.2 hR.2.1 hc he, (zPre (av := (.ref b :: [v1, v2, v3])) hX hR).2⟩ rfl rfl hL.1 rfl (lv_room (by rw [zc_cats]; exact hst)) hd ⟨by rw [x11]; exact hu.1, by rw [x12]; exact hu.2⟩
theorem z_callV3 {v1 v2 v3 : Value} {b ci w : Nat} {PostM : zMI → zML → Option Value → Prop} (hd : zD g.2.1 pc (.invokevirtual idx) 3 pc2) (hm : zMLV g.1 idx ci y cc2 nL2 rt2 3) (hs : S[b]? = some (ci + 3, w)) (hM : zM0 y cc2 nL2 rt2 d2 (.ref b :: [v1, v2, v3]) S I L R PostM) (hdp : d2 + 1 ≤ g.2.2.2.2.2.1) (hst : (st.map fun v => v.category).sum ≤ 8) (hu : u.1 ≤ g.2.2.2.2.2.2.1.1 ∧ u.2 ≤ g.2.2.2.2.2.2.1.2) (kk : ∀ I2 L2 r, PostM I2 L2 r → zV g Post u S I2 L2 R pc2 lv (r.toList ++ st)) : zV g Post u S I L R pc lv (v3 :: v2 :: v1 :: .ref b :: st) :=
  z_callV3g (T2 := (0, 0)) hd hm hs hM hdp hst hu (fun S2 I2 L2 R2 r h => Or.inl (by rw [h.1])) (fun S2 I2 L2 R2 r h => by obtain ⟨rfl, rfl, h⟩ := h; exact kk I2 L2 r h)
theorem z_callV4g {v1 v2 v3 v4 : Value} {b ci w : Nat} (hd : zD g.2.1 pc (.invokevirtual idx) 3 pc2) (hm : zMLV g.1 idx ci y cc2 nL2 rt2 4) (hs : S[b]? = some (ci + 3, w)) (hM : zMet y cc2 nL2 rt2 d2 T2 (.ref b :: [v1, v2, v3, v4]) S I L R Post2) (hdp : d2 + 1 ≤ g.2.2.2.2.2.1) (hst : (st.map fun v => v.category).sum ≤ 8) (hu : u.1 + T2.1 ≤ g.2.2.2.2.2.2.1.1 ∧ u.2 + T2.2 ≤ g.2.2.2.2.2.2.1.2) (hok : ∀ S2 I2 L2 R2 r, Post2 S2 I2 L2 R2 r → S2.length = S.length ∨ (zOk S.length st ∧ zOk S.length (lv.filterMap id))) (kk : ∀ S2 I2 L2 R2 r, Post2 S2 I2 L2 R2 r → zV g Post (u.1 + T2.1, u.2 + T2.2) S2 I2 L2 R2 pc2 lv (r.toList ++ st)) : zV g Post u S I L R pc lv (v4 :: v3 :: v2 :: v1 :: .ref b :: st) := by
  intro p l e Rm s m args below meth c D G as A H locs ls Q hX hS hR hL hE
  obtain ⟨hd, rfl⟩ := hd
  refine zAfter (rest := st) (a := ((.ref b :: [v1, v2, v3, v4]).map (zc as)).toArray) hX hS hR hL hE ?_ hok kk
  have hx := hX
  obtain ⟨x1, x2, x3, x4, x5, x6, x7, x8, x9, x10, x11, x12, x13, x14, x15⟩ := hx
  obtain ⟨hm0, hm1, hm2, T, N, hc⟩ := hm
  have he := hR.at hs
  rw [zE_obj hs] at he
  exact va_runV (As := [v1, v2, v3, v4].map (zc as)) ⟨x1, x2, x5, x6, x7⟩ (hM l D G as H.size) ⟨zCB hX hm0 hdp, x7 _ hm1, x7 _ hm2⟩ ⟨(zPre hX hR).1, va_recv hR.2.2.2 hR.2.1 hc he, (zPre (av := (.ref b :: [v1, v2, v3, v4])) hX hR).2⟩ rfl rfl hL.1 rfl (lv_room (by rw [zc_cats]; exact hst)) hd ⟨by rw [x11]; exact hu.1, by rw [x12]; exact hu.2⟩
theorem z_callV4 {v1 v2 v3 v4 : Value} {b ci w : Nat} {PostM : zMI → zML → Option Value → Prop} (hd : zD g.2.1 pc (.invokevirtual idx) 3 pc2) (hm : zMLV g.1 idx ci y cc2 nL2 rt2 4) (hs : S[b]? = some (ci + 3, w)) (hM : zM0 y cc2 nL2 rt2 d2 (.ref b :: [v1, v2, v3, v4]) S I L R PostM) (hdp : d2 + 1 ≤ g.2.2.2.2.2.1) (hst : (st.map fun v => v.category).sum ≤ 8) (hu : u.1 ≤ g.2.2.2.2.2.2.1.1 ∧ u.2 ≤ g.2.2.2.2.2.2.1.2) (kk : ∀ I2 L2 r, PostM I2 L2 r → zV g Post u S I2 L2 R pc2 lv (r.toList ++ st)) : zV g Post u S I L R pc lv (v4 :: v3 :: v2 :: v1 :: .ref b :: st) :=
  z_callV4g (T2 := (0, 0)) hd hm hs hM hdp hst hu (fun S2 I2 L2 R2 r h => Or.inl (by rw [h.1])) (fun S2 I2 L2 R2 r h => by obtain ⟨rfl, rfl, h⟩ := h; exact kk I2 L2 r h)
theorem z_callV5g {v1 v2 v3 v4 v5 : Value} {b ci w : Nat} (hd : zD g.2.1 pc (.invokevirtual idx) 3 pc2) (hm : zMLV g.1 idx ci y cc2 nL2 rt2 5) (hs : S[b]? = some (ci + 3, w)) (hM : zMet y cc2 nL2 rt2 d2 T2 (.ref b :: [v1, v2, v3, v4, v5]) S I L R Post2) (hdp : d2 + 1 ≤ g.2.2.2.2.2.1) (hst : (st.map fun v => v.category).sum ≤ 8) (hu : u.1 + T2.1 ≤ g.2.2.2.2.2.2.1.1 ∧ u.2 + T2.2 ≤ g.2.2.2.2.2.2.1.2) (hok : ∀ S2 I2 L2 R2 r, Post2 S2 I2 L2 R2 r → S2.length = S.length ∨ (zOk S.length st ∧ zOk S.length (lv.filterMap id))) (kk : ∀ S2 I2 L2 R2 r, Post2 S2 I2 L2 R2 r → zV g Post (u.1 + T2.1, u.2 + T2.2) S2 I2 L2 R2 pc2 lv (r.toList ++ st)) : zV g Post u S I L R pc lv (v5 :: v4 :: v3 :: v2 :: v1 :: .ref b :: st) := by
  intro p l e Rm s m args below meth c D G as A H locs ls Q hX hS hR hL hE
  obtain ⟨hd, rfl⟩ := hd
  refine zAfter (rest := st) (a := ((.ref b :: [v1, v2, v3, v4, v5]).map (zc as)).toArray) hX hS hR hL hE ?_ hok kk
  have hx := hX
  obtain ⟨x1, x2, x3, x4, x5, x6, x7, x8, x9, x10, x11, x12, x13, x14, x15⟩ := hx
  obtain ⟨hm0, hm1, hm2, T, N, hc⟩ := hm
  have he := hR.at hs
  rw [zE_obj hs] at he
  exact va_runV (As := [v1, v2, v3, v4, v5].map (zc as)) ⟨x1, x2, x5, x6, x7⟩ (hM l D G as H.size) ⟨zCB hX hm0 hdp, x7 _ hm1, x7 _ hm2⟩ ⟨(zPre hX hR).1, va_recv hR.2.2.2 hR.2.1 hc he, (zPre (av := (.ref b :: [v1, v2, v3, v4, v5])) hX hR).2⟩ rfl rfl hL.1 rfl (lv_room (by rw [zc_cats]; exact hst)) hd ⟨by rw [x11]; exact hu.1, by rw [x12]; exact hu.2⟩
theorem z_callV5 {v1 v2 v3 v4 v5 : Value} {b ci w : Nat} {PostM : zMI → zML → Option Value → Prop} (hd : zD g.2.1 pc (.invokevirtual idx) 3 pc2) (hm : zMLV g.1 idx ci y cc2 nL2 rt2 5) (hs : S[b]? = some (ci + 3, w)) (hM : zM0 y cc2 nL2 rt2 d2 (.ref b :: [v1, v2, v3, v4, v5]) S I L R PostM) (hdp : d2 + 1 ≤ g.2.2.2.2.2.1) (hst : (st.map fun v => v.category).sum ≤ 8) (hu : u.1 ≤ g.2.2.2.2.2.2.1.1 ∧ u.2 ≤ g.2.2.2.2.2.2.1.2) (kk : ∀ I2 L2 r, PostM I2 L2 r → zV g Post u S I2 L2 R pc2 lv (r.toList ++ st)) : zV g Post u S I L R pc lv (v5 :: v4 :: v3 :: v2 :: v1 :: .ref b :: st) :=
  z_callV5g (T2 := (0, 0)) hd hm hs hM hdp hst hu (fun S2 I2 L2 R2 r h => Or.inl (by rw [h.1])) (fun S2 I2 L2 R2 r h => by obtain ⟨rfl, rfl, h⟩ := h; exact kk I2 L2 r h)
theorem z_callS1g {v1 : Value} (hd : zD g.2.1 pc (.invokestatic idx) 3 pc2) (hm : zMLS g.1 idx y cc2 nL2 rt2 1) (hM : zMet y cc2 nL2 rt2 d2 T2 [v1] S I L R Post2) (hdp : d2 + 1 ≤ g.2.2.2.2.2.1) (hst : (st.map fun v => v.category).sum ≤ 8) (hu : u.1 + T2.1 ≤ g.2.2.2.2.2.2.1.1 ∧ u.2 + T2.2 ≤ g.2.2.2.2.2.2.1.2) (hok : ∀ S2 I2 L2 R2 r, Post2 S2 I2 L2 R2 r → S2.length = S.length ∨ (zOk S.length st ∧ zOk S.length (lv.filterMap id))) (kk : ∀ S2 I2 L2 R2 r, Post2 S2 I2 L2 R2 r → zV g Post (u.1 + T2.1, u.2 + T2.2) S2 I2 L2 R2 pc2 lv (r.toList ++ st)) : zV g Post u S I L R pc lv (v1 :: st) := by
  intro p l e Rm s m args below meth c D G as A H locs ls Q hX hS hR hL hE
  obtain ⟨hd, rfl⟩ := hd
  refine zAfter (rest := st) (a := ([v1].map (zc as)).toArray) hX hS hR hL hE ?_ hok kk
  have hx := hX
  obtain ⟨x1, x2, x3, x4, x5, x6, x7, x8, x9, x10, x11, x12, x13, x14, x15⟩ := hx
  exact va_runS (As := [v1].map (zc as)) ⟨x1, x2, x5, x6, x7⟩ (hM l D G as H.size) ⟨zCB hX hm.1 hdp, x7 _ hm.2⟩ (zPre hX hR) rfl rfl hL.1 rfl (lv_room (by rw [zc_cats]; exact hst)) hd ⟨by rw [x11]; exact hu.1, by rw [x12]; exact hu.2⟩
theorem z_callS1 {v1 : Value} {PostM : zMI → zML → Option Value → Prop} (hd : zD g.2.1 pc (.invokestatic idx) 3 pc2) (hm : zMLS g.1 idx y cc2 nL2 rt2 1) (hM : zM0 y cc2 nL2 rt2 d2 [v1] S I L R PostM) (hdp : d2 + 1 ≤ g.2.2.2.2.2.1) (hst : (st.map fun v => v.category).sum ≤ 8) (hu : u.1 ≤ g.2.2.2.2.2.2.1.1 ∧ u.2 ≤ g.2.2.2.2.2.2.1.2) (kk : ∀ I2 L2 r, PostM I2 L2 r → zV g Post u S I2 L2 R pc2 lv (r.toList ++ st)) : zV g Post u S I L R pc lv (v1 :: st) :=
  z_callS1g (T2 := (0, 0)) hd hm hM hdp hst hu (fun S2 I2 L2 R2 r h => Or.inl (by rw [h.1])) (fun S2 I2 L2 R2 r h => by obtain ⟨rfl, rfl, h⟩ := h; exact kk I2 L2 r h)
theorem z_callS2g {v1 v2 : Value} (hd : zD g.2.1 pc (.invokestatic idx) 3 pc2) (hm : zMLS g.1 idx y cc2 nL2 rt2 2) (hM : zMet y cc2 nL2 rt2 d2 T2 [v1, v2] S I L R Post2) (hdp : d2 + 1 ≤ g.2.2.2.2.2.1) (hst : (st.map fun v => v.category).sum ≤ 8) (hu : u.1 + T2.1 ≤ g.2.2.2.2.2.2.1.1 ∧ u.2 + T2.2 ≤ g.2.2.2.2.2.2.1.2) (hok : ∀ S2 I2 L2 R2 r, Post2 S2 I2 L2 R2 r → S2.length = S.length ∨ (zOk S.length st ∧ zOk S.length (lv.filterMap id))) (kk : ∀ S2 I2 L2 R2 r, Post2 S2 I2 L2 R2 r → zV g Post (u.1 + T2.1, u.2 + T2.2) S2 I2 L2 R2 pc2 lv (r.toList ++ st)) : zV g Post u S I L R pc lv (v2 :: v1 :: st) := by
  intro p l e Rm s m args below meth c D G as A H locs ls Q hX hS hR hL hE
  obtain ⟨hd, rfl⟩ := hd
  refine zAfter (rest := st) (a := ([v1, v2].map (zc as)).toArray) hX hS hR hL hE ?_ hok kk
  have hx := hX
  obtain ⟨x1, x2, x3, x4, x5, x6, x7, x8, x9, x10, x11, x12, x13, x14, x15⟩ := hx
  exact va_runS (As := [v1, v2].map (zc as)) ⟨x1, x2, x5, x6, x7⟩ (hM l D G as H.size) ⟨zCB hX hm.1 hdp, x7 _ hm.2⟩ (zPre hX hR) rfl rfl hL.1 rfl (lv_room (by rw [zc_cats]; exact hst)) hd ⟨by rw [x11]; exact hu.1, by rw [x12]; exact hu.2⟩
theorem z_callS2 {v1 v2 : Value} {PostM : zMI → zML → Option Value → Prop} (hd : zD g.2.1 pc (.invokestatic idx) 3 pc2) (hm : zMLS g.1 idx y cc2 nL2 rt2 2) (hM : zM0 y cc2 nL2 rt2 d2 [v1, v2] S I L R PostM) (hdp : d2 + 1 ≤ g.2.2.2.2.2.1) (hst : (st.map fun v => v.category).sum ≤ 8) (hu : u.1 ≤ g.2.2.2.2.2.2.1.1 ∧ u.2 ≤ g.2.2.2.2.2.2.1.2) (kk : ∀ I2 L2 r, PostM I2 L2 r → zV g Post u S I2 L2 R pc2 lv (r.toList ++ st)) : zV g Post u S I L R pc lv (v2 :: v1 :: st) :=
  z_callS2g (T2 := (0, 0)) hd hm hM hdp hst hu (fun S2 I2 L2 R2 r h => Or.inl (by rw [h.1])) (fun S2 I2 L2 R2 r h => by obtain ⟨rfl, rfl, h⟩ := h; exact kk I2 L2 r h)
theorem z_callS3g {v1 v2 v3 : Value} (hd : zD g.2.1 pc (.invokestatic idx) 3 pc2) (hm : zMLS g.1 idx y cc2 nL2 rt2 3) (hM : zMet y cc2 nL2 rt2 d2 T2 [v1, v2, v3] S I L R Post2) (hdp : d2 + 1 ≤ g.2.2.2.2.2.1) (hst : (st.map fun v => v.category).sum ≤ 8) (hu : u.1 + T2.1 ≤ g.2.2.2.2.2.2.1.1 ∧ u.2 + T2.2 ≤ g.2.2.2.2.2.2.1.2) (hok : ∀ S2 I2 L2 R2 r, Post2 S2 I2 L2 R2 r → S2.length = S.length ∨ (zOk S.length st ∧ zOk S.length (lv.filterMap id))) (kk : ∀ S2 I2 L2 R2 r, Post2 S2 I2 L2 R2 r → zV g Post (u.1 + T2.1, u.2 + T2.2) S2 I2 L2 R2 pc2 lv (r.toList ++ st)) : zV g Post u S I L R pc lv (v3 :: v2 :: v1 :: st) := by
  intro p l e Rm s m args below meth c D G as A H locs ls Q hX hS hR hL hE
  obtain ⟨hd, rfl⟩ := hd
  refine zAfter (rest := st) (a := ([v1, v2, v3].map (zc as)).toArray) hX hS hR hL hE ?_ hok kk
  have hx := hX
  obtain ⟨x1, x2, x3, x4, x5, x6, x7, x8, x9, x10, x11, x12, x13, x14, x15⟩ := hx
  exact va_runS (As := [v1, v2, v3].map (zc as)) ⟨x1, x2, x5, x6, x7⟩ (hM l D G as H.size) ⟨zCB hX hm.1 hdp, x7 _ hm.2⟩ (zPre hX hR) rfl rfl hL.1 rfl (lv_room (by rw [zc_cats]; exact hst)) hd ⟨by rw [x11]; exact hu.1, by rw [x12]; exact hu.2⟩
theorem z_callS3 {v1 v2 v3 : Value} {PostM : zMI → zML → Option Value → Prop} (hd : zD g.2.1 pc (.invokestatic idx) 3 pc2) (hm : zMLS g.1 idx y cc2 nL2 rt2 3) (hM : zM0 y cc2 nL2 rt2 d2 [v1, v2, v3] S I L R PostM) (hdp : d2 + 1 ≤ g.2.2.2.2.2.1) (hst : (st.map fun v => v.category).sum ≤ 8) (hu : u.1 ≤ g.2.2.2.2.2.2.1.1 ∧ u.2 ≤ g.2.2.2.2.2.2.1.2) (kk : ∀ I2 L2 r, PostM I2 L2 r → zV g Post u S I2 L2 R pc2 lv (r.toList ++ st)) : zV g Post u S I L R pc lv (v3 :: v2 :: v1 :: st) :=
  z_callS3g (T2 := (0, 0)) hd hm hM hdp hst hu (fun S2 I2 L2 R2 r h => Or.inl (by rw [h.1])) (fun S2 I2 L2 R2 r h => by obtain ⟨rfl, rfl, h⟩ := h; exact kk I2 L2 r h)
theorem z_callS4g {v1 v2 v3 v4 : Value} (hd : zD g.2.1 pc (.invokestatic idx) 3 pc2) (hm : zMLS g.1 idx y cc2 nL2 rt2 4) (hM : zMet y cc2 nL2 rt2 d2 T2 [v1, v2, v3, v4] S I L R Post2) (hdp : d2 + 1 ≤ g.2.2.2.2.2.1) (hst : (st.map fun v => v.category).sum ≤ 8) (hu : u.1 + T2.1 ≤ g.2.2.2.2.2.2.1.1 ∧ u.2 + T2.2 ≤ g.2.2.2.2.2.2.1.2) (hok : ∀ S2 I2 L2 R2 r, Post2 S2 I2 L2 R2 r → S2.length = S.length ∨ (zOk S.length st ∧ zOk S.length (lv.filterMap id))) (kk : ∀ S2 I2 L2 R2 r, Post2 S2 I2 L2 R2 r → zV g Post (u.1 + T2.1, u.2 + T2.2) S2 I2 L2 R2 pc2 lv (r.toList ++ st)) : zV g Post u S I L R pc lv (v4 :: v3 :: v2 :: v1 :: st) := by
  intro p l e Rm s m args below meth c D G as A H locs ls Q hX hS hR hL hE
  obtain ⟨hd, rfl⟩ := hd
  refine zAfter (rest := st) (a := ([v1, v2, v3, v4].map (zc as)).toArray) hX hS hR hL hE ?_ hok kk
  have hx := hX
  obtain ⟨x1, x2, x3, x4, x5, x6, x7, x8, x9, x10, x11, x12, x13, x14, x15⟩ := hx
  exact va_runS (As := [v1, v2, v3, v4].map (zc as)) ⟨x1, x2, x5, x6, x7⟩ (hM l D G as H.size) ⟨zCB hX hm.1 hdp, x7 _ hm.2⟩ (zPre hX hR) rfl rfl hL.1 rfl (lv_room (by rw [zc_cats]; exact hst)) hd ⟨by rw [x11]; exact hu.1, by rw [x12]; exact hu.2⟩
theorem z_callS4 {v1 v2 v3 v4 : Value} {PostM : zMI → zML → Option Value → Prop} (hd : zD g.2.1 pc (.invokestatic idx) 3 pc2) (hm : zMLS g.1 idx y cc2 nL2 rt2 4) (hM : zM0 y cc2 nL2 rt2 d2 [v1, v2, v3, v4] S I L R PostM) (hdp : d2 + 1 ≤ g.2.2.2.2.2.1) (hst : (st.map fun v => v.category).sum ≤ 8) (hu : u.1 ≤ g.2.2.2.2.2.2.1.1 ∧ u.2 ≤ g.2.2.2.2.2.2.1.2) (kk : ∀ I2 L2 r, PostM I2 L2 r → zV g Post u S I2 L2 R pc2 lv (r.toList ++ st)) : zV g Post u S I L R pc lv (v4 :: v3 :: v2 :: v1 :: st) :=
  z_callS4g (T2 := (0, 0)) hd hm hM hdp hst hu (fun S2 I2 L2 R2 r h => Or.inl (by rw [h.1])) (fun S2 I2 L2 R2 r h => by obtain ⟨rfl, rfl, h⟩ := h; exact kk I2 L2 r h)
theorem z_callS5g {v1 v2 v3 v4 v5 : Value} (hd : zD g.2.1 pc (.invokestatic idx) 3 pc2) (hm : zMLS g.1 idx y cc2 nL2 rt2 5) (hM : zMet y cc2 nL2 rt2 d2 T2 [v1, v2, v3, v4, v5] S I L R Post2) (hdp : d2 + 1 ≤ g.2.2.2.2.2.1) (hst : (st.map fun v => v.category).sum ≤ 8) (hu : u.1 + T2.1 ≤ g.2.2.2.2.2.2.1.1 ∧ u.2 + T2.2 ≤ g.2.2.2.2.2.2.1.2) (hok : ∀ S2 I2 L2 R2 r, Post2 S2 I2 L2 R2 r → S2.length = S.length ∨ (zOk S.length st ∧ zOk S.length (lv.filterMap id))) (kk : ∀ S2 I2 L2 R2 r, Post2 S2 I2 L2 R2 r → zV g Post (u.1 + T2.1, u.2 + T2.2) S2 I2 L2 R2 pc2 lv (r.toList ++ st)) : zV g Post u S I L R pc lv (v5 :: v4 :: v3 :: v2 :: v1 :: st) := by
  intro p l e Rm s m args below meth c D G as A H locs ls Q hX hS hR hL hE
  obtain ⟨hd, rfl⟩ := hd
  refine zAfter (rest := st) (a := ([v1, v2, v3, v4, v5].map (zc as)).toArray) hX hS hR hL hE ?_ hok kk
  have hx := hX
  obtain ⟨x1, x2, x3, x4, x5, x6, x7, x8, x9, x10, x11, x12, x13, x14, x15⟩ := hx
  exact va_runS (As := [v1, v2, v3, v4, v5].map (zc as)) ⟨x1, x2, x5, x6, x7⟩ (hM l D G as H.size) ⟨zCB hX hm.1 hdp, x7 _ hm.2⟩ (zPre hX hR) rfl rfl hL.1 rfl (lv_room (by rw [zc_cats]; exact hst)) hd ⟨by rw [x11]; exact hu.1, by rw [x12]; exact hu.2⟩
theorem z_callS5 {v1 v2 v3 v4 v5 : Value} {PostM : zMI → zML → Option Value → Prop} (hd : zD g.2.1 pc (.invokestatic idx) 3 pc2) (hm : zMLS g.1 idx y cc2 nL2 rt2 5) (hM : zM0 y cc2 nL2 rt2 d2 [v1, v2, v3, v4, v5] S I L R PostM) (hdp : d2 + 1 ≤ g.2.2.2.2.2.1) (hst : (st.map fun v => v.category).sum ≤ 8) (hu : u.1 ≤ g.2.2.2.2.2.2.1.1 ∧ u.2 ≤ g.2.2.2.2.2.2.1.2) (kk : ∀ I2 L2 r, PostM I2 L2 r → zV g Post u S I2 L2 R pc2 lv (r.toList ++ st)) : zV g Post u S I L R pc lv (v5 :: v4 :: v3 :: v2 :: v1 :: st) :=
  z_callS5g (T2 := (0, 0)) hd hm hM hdp hst hu (fun S2 I2 L2 R2 r h => Or.inl (by rw [h.1])) (fun S2 I2 L2 R2 r h => by obtain ⟨rfl, rfl, h⟩ := h; exact kk I2 L2 r h)
theorem z_callSN1g {v1 : Value} {host : String} (hd : zD g.2.1 pc (.invokestatic idx) 3 pc2) (hm : zMLN g.1 idx y cc2 nL2 rt2 1 host) (hms : Cond.static y ∈ zT) (hM : zMet y cc2 nL2 rt2 d2 T2 [v1] S I L R Post2) (hdp : d2 + 1 ≤ g.2.2.2.2.2.1) (hst : (st.map fun v => v.category).sum ≤ 8) (hu : u.1 + T2.1 ≤ g.2.2.2.2.2.2.1.1 ∧ u.2 + T2.2 ≤ g.2.2.2.2.2.2.1.2) (hok : ∀ S2 I2 L2 R2 r, Post2 S2 I2 L2 R2 r → S2.length = S.length ∨ (zOk S.length st ∧ zOk S.length (lv.filterMap id))) (kk : ∀ S2 I2 L2 R2 r, Post2 S2 I2 L2 R2 r → zV g Post (u.1 + T2.1, u.2 + T2.2) S2 I2 L2 R2 pc2 lv (r.toList ++ st)) : zV g Post u S I L R pc lv (v1 :: st) := by
  intro p l e Rm s m args below meth c D G as A H locs ls Q hX hS hR hL hE
  obtain ⟨hd, rfl⟩ := hd
  refine zAfter (rest := st) (a := ([v1].map (zc as)).toArray) hX hS hR hL hE ?_ hok kk
  have hx := hX
  obtain ⟨x1, x2, x3, x4, x5, x6, x7, x8, x9, x10, x11, x12, x13, x14, x15⟩ := hx
  obtain ⟨hm0, hm1, hm2, hm3, hm4⟩ := hm
  exact va_runSN (As := [v1].map (zc as)) ⟨x1, x2, x5, x6, x7⟩ (hM l D G as H.size) ⟨va_cnB 1 x7 (zT_good (fun w hw => by rcases List.mem_cons.mp hw with rfl | h; exact hm2; exact h)) rfl rfl rfl (x13.1 _ hm0) (x7 _ hm1) hm3 ⟨by show d2 + 1 ≤ _; omega, by show 8 + (nL2 + 11) + 40 * d2 ≤ _; omega⟩, x7 _ hms, trivial⟩ (zPre hX hR) rfl rfl hL.1 rfl (lv_room (by rw [zc_cats]; exact hst)) hd ⟨by rw [x11]; exact hu.1, by rw [x12]; exact hu.2⟩
theorem z_callSN1 {v1 : Value} {host : String} {PostM : zMI → zML → Option Value → Prop} (hd : zD g.2.1 pc (.invokestatic idx) 3 pc2) (hm : zMLN g.1 idx y cc2 nL2 rt2 1 host) (hms : Cond.static y ∈ zT) (hM : zM0 y cc2 nL2 rt2 d2 [v1] S I L R PostM) (hdp : d2 + 1 ≤ g.2.2.2.2.2.1) (hst : (st.map fun v => v.category).sum ≤ 8) (hu : u.1 ≤ g.2.2.2.2.2.2.1.1 ∧ u.2 ≤ g.2.2.2.2.2.2.1.2) (kk : ∀ I2 L2 r, PostM I2 L2 r → zV g Post u S I2 L2 R pc2 lv (r.toList ++ st)) : zV g Post u S I L R pc lv (v1 :: st) :=
  z_callSN1g (T2 := (0, 0)) hd hm hms hM hdp hst hu (fun S2 I2 L2 R2 r h => Or.inl (by rw [h.1])) (fun S2 I2 L2 R2 r h => by obtain ⟨rfl, rfl, h⟩ := h; exact kk I2 L2 r h)
theorem z_callSN2g {v1 v2 : Value} {host : String} (hd : zD g.2.1 pc (.invokestatic idx) 3 pc2) (hm : zMLN g.1 idx y cc2 nL2 rt2 2 host) (hms : Cond.static y ∈ zT) (hM : zMet y cc2 nL2 rt2 d2 T2 [v1, v2] S I L R Post2) (hdp : d2 + 1 ≤ g.2.2.2.2.2.1) (hst : (st.map fun v => v.category).sum ≤ 8) (hu : u.1 + T2.1 ≤ g.2.2.2.2.2.2.1.1 ∧ u.2 + T2.2 ≤ g.2.2.2.2.2.2.1.2) (hok : ∀ S2 I2 L2 R2 r, Post2 S2 I2 L2 R2 r → S2.length = S.length ∨ (zOk S.length st ∧ zOk S.length (lv.filterMap id))) (kk : ∀ S2 I2 L2 R2 r, Post2 S2 I2 L2 R2 r → zV g Post (u.1 + T2.1, u.2 + T2.2) S2 I2 L2 R2 pc2 lv (r.toList ++ st)) : zV g Post u S I L R pc lv (v2 :: v1 :: st) := by
  intro p l e Rm s m args below meth c D G as A H locs ls Q hX hS hR hL hE
  obtain ⟨hd, rfl⟩ := hd
  refine zAfter (rest := st) (a := ([v1, v2].map (zc as)).toArray) hX hS hR hL hE ?_ hok kk
  have hx := hX
  obtain ⟨x1, x2, x3, x4, x5, x6, x7, x8, x9, x10, x11, x12, x13, x14, x15⟩ := hx
  obtain ⟨hm0, hm1, hm2, hm3, hm4⟩ := hm
  exact va_runSN (As := [v1, v2].map (zc as)) ⟨x1, x2, x5, x6, x7⟩ (hM l D G as H.size) ⟨va_cnB 2 x7 (zT_good (fun w hw => by rcases List.mem_cons.mp hw with rfl | h; exact hm2; exact h)) rfl rfl rfl (x13.1 _ hm0) (x7 _ hm1) hm3 ⟨by show d2 + 1 ≤ _; omega, by show 8 + (nL2 + 11) + 40 * d2 ≤ _; omega⟩, x7 _ hms, trivial⟩ (zPre hX hR) rfl rfl hL.1 rfl (lv_room (by rw [zc_cats]; exact hst)) hd ⟨by rw [x11]; exact hu.1, by rw [x12]; exact hu.2⟩
theorem z_callSN2 {v1 v2 : Value} {host : String} {PostM : zMI → zML → Option Value → Prop} (hd : zD g.2.1 pc (.invokestatic idx) 3 pc2) (hm : zMLN g.1 idx y cc2 nL2 rt2 2 host) (hms : Cond.static y ∈ zT) (hM : zM0 y cc2 nL2 rt2 d2 [v1, v2] S I L R PostM) (hdp : d2 + 1 ≤ g.2.2.2.2.2.1) (hst : (st.map fun v => v.category).sum ≤ 8) (hu : u.1 ≤ g.2.2.2.2.2.2.1.1 ∧ u.2 ≤ g.2.2.2.2.2.2.1.2) (kk : ∀ I2 L2 r, PostM I2 L2 r → zV g Post u S I2 L2 R pc2 lv (r.toList ++ st)) : zV g Post u S I L R pc lv (v2 :: v1 :: st) :=
  z_callSN2g (T2 := (0, 0)) hd hm hms hM hdp hst hu (fun S2 I2 L2 R2 r h => Or.inl (by rw [h.1])) (fun S2 I2 L2 R2 r h => by obtain ⟨rfl, rfl, h⟩ := h; exact kk I2 L2 r h)
theorem z_callI0g {b : Nat} (hd : zD g.2.1 pc (.invokespecial idx) 3 pc2) (hm : zMLI g.1 idx y cc2 nL2 0) (hM : zMet y cc2 nL2 none d2 T2 (.ref b :: []) S I L R Post2) (hdp : d2 + 1 ≤ g.2.2.2.2.2.1) (hst : (st.map fun v => v.category).sum ≤ 8) (hu : u.1 + T2.1 ≤ g.2.2.2.2.2.2.1.1 ∧ u.2 + T2.2 ≤ g.2.2.2.2.2.2.1.2) (hok : ∀ S2 I2 L2 R2 r, Post2 S2 I2 L2 R2 r → S2.length = S.length ∨ (zOk S.length st ∧ zOk S.length (lv.filterMap id))) (kk : ∀ S2 I2 L2 R2 r, Post2 S2 I2 L2 R2 r → zV g Post (u.1 + T2.1, u.2 + T2.2) S2 I2 L2 R2 pc2 lv (r.toList ++ st)) : zV g Post u S I L R pc lv (.ref b :: st) := by
  intro p l e Rm s m args below meth c D G as A H locs ls Q hX hS hR hL hE
  obtain ⟨hd, rfl⟩ := hd
  refine zAfter (rest := st) (a := ((.ref b :: []).map (zc as)).toArray) hX hS hR hL hE ?_ hok kk
  have hx := hX
  obtain ⟨x1, x2, x3, x4, x5, x6, x7, x8, x9, x10, x11, x12, x13, x14, x15⟩ := hx
  exact va_runI (As := []) ⟨x1, x2, x5, x6, x7⟩ (hM l D G as H.size) ⟨zCB hX hm.1 hdp, hm.2.2, x7 _ hm.2.1⟩ (zPre (av := (.ref b :: [])) hX hR) rfl rfl hL.1 rfl (lv_room (by rw [zc_cats]; exact hst)) hd ⟨by rw [x11]; exact hu.1, by rw [x12]; exact hu.2⟩
theorem z_callI1g {v1 : Value} {b : Nat} (hd : zD g.2.1 pc (.invokespecial idx) 3 pc2) (hm : zMLI g.1 idx y cc2 nL2 1) (hM : zMet y cc2 nL2 none d2 T2 (.ref b :: [v1]) S I L R Post2) (hdp : d2 + 1 ≤ g.2.2.2.2.2.1) (hst : (st.map fun v => v.category).sum ≤ 8) (hu : u.1 + T2.1 ≤ g.2.2.2.2.2.2.1.1 ∧ u.2 + T2.2 ≤ g.2.2.2.2.2.2.1.2) (hok : ∀ S2 I2 L2 R2 r, Post2 S2 I2 L2 R2 r → S2.length = S.length ∨ (zOk S.length st ∧ zOk S.length (lv.filterMap id))) (kk : ∀ S2 I2 L2 R2 r, Post2 S2 I2 L2 R2 r → zV g Post (u.1 + T2.1, u.2 + T2.2) S2 I2 L2 R2 pc2 lv (r.toList ++ st)) : zV g Post u S I L R pc lv (v1 :: .ref b :: st) := by
  intro p l e Rm s m args below meth c D G as A H locs ls Q hX hS hR hL hE
  obtain ⟨hd, rfl⟩ := hd
  refine zAfter (rest := st) (a := ((.ref b :: [v1]).map (zc as)).toArray) hX hS hR hL hE ?_ hok kk
  have hx := hX
  obtain ⟨x1, x2, x3, x4, x5, x6, x7, x8, x9, x10, x11, x12, x13, x14, x15⟩ := hx
  exact va_runI (As := [v1].map (zc as)) ⟨x1, x2, x5, x6, x7⟩ (hM l D G as H.size) ⟨zCB hX hm.1 hdp, hm.2.2, x7 _ hm.2.1⟩ (zPre (av := (.ref b :: [v1])) hX hR) rfl rfl hL.1 rfl (lv_room (by rw [zc_cats]; exact hst)) hd ⟨by rw [x11]; exact hu.1, by rw [x12]; exact hu.2⟩
theorem z_callIN0g {b : Nat} {host : String} (hd : zD g.2.1 pc (.invokespecial idx) 3 pc2) (hm : zMLN g.1 idx y cc2 nL2 none 0 host) (hmi : Cond.instanceMethod y ∈ zT) (hy : y.name = "<init>") (hM : zMet y cc2 nL2 none d2 T2 (.ref b :: []) S I L R Post2) (hdp : d2 + 1 ≤ g.2.2.2.2.2.1) (hst : (st.map fun v => v.category).sum ≤ 8) (hu : u.1 + T2.1 ≤ g.2.2.2.2.2.2.1.1 ∧ u.2 + T2.2 ≤ g.2.2.2.2.2.2.1.2) (hok : ∀ S2 I2 L2 R2 r, Post2 S2 I2 L2 R2 r → S2.length = S.length ∨ (zOk S.length st ∧ zOk S.length (lv.filterMap id))) (kk : ∀ S2 I2 L2 R2 r, Post2 S2 I2 L2 R2 r → zV g Post (u.1 + T2.1, u.2 + T2.2) S2 I2 L2 R2 pc2 lv (r.toList ++ st)) : zV g Post u S I L R pc lv (.ref b :: st) := by
  intro p l e Rm s m args below meth c D G as A H locs ls Q hX hS hR hL hE
  obtain ⟨hd, rfl⟩ := hd
  refine zAfter (rest := st) (a := ((.ref b :: []).map (zc as)).toArray) hX hS hR hL hE ?_ hok kk
  have hx := hX
  obtain ⟨x1, x2, x3, x4, x5, x6, x7, x8, x9, x10, x11, x12, x13, x14, x15⟩ := hx
  obtain ⟨hm0, hm1, hm2, hm3, hm4⟩ := hm
  exact va_runIN (As := []) ⟨x1, x2, x5, x6, x7⟩ (hM l D G as H.size) ⟨va_cnB 0 x7 (zT_good (fun w hw => by rcases List.mem_cons.mp hw with rfl | h; exact hm2; exact h)) rfl rfl rfl (x13.1 _ hm0) (x7 _ hm1) hm3 ⟨by show d2 + 1 ≤ _; omega, by show 8 + (nL2 + 11) + 40 * d2 ≤ _; omega⟩, hy, x7 _ hmi⟩ (zPre (av := (.ref b :: [])) hX hR) rfl rfl hL.1 rfl (lv_room (by rw [zc_cats]; exact hst)) hd ⟨by rw [x11]; exact hu.1, by rw [x12]; exact hu.2⟩
theorem z_callIN1g {v1 : Value} {b : Nat} {host : String} (hd : zD g.2.1 pc (.invokespecial idx) 3 pc2) (hm : zMLN g.1 idx y cc2 nL2 none 1 host) (hmi : Cond.instanceMethod y ∈ zT) (hy : y.name = "<init>") (hM : zMet y cc2 nL2 none d2 T2 (.ref b :: [v1]) S I L R Post2) (hdp : d2 + 1 ≤ g.2.2.2.2.2.1) (hst : (st.map fun v => v.category).sum ≤ 8) (hu : u.1 + T2.1 ≤ g.2.2.2.2.2.2.1.1 ∧ u.2 + T2.2 ≤ g.2.2.2.2.2.2.1.2) (hok : ∀ S2 I2 L2 R2 r, Post2 S2 I2 L2 R2 r → S2.length = S.length ∨ (zOk S.length st ∧ zOk S.length (lv.filterMap id))) (kk : ∀ S2 I2 L2 R2 r, Post2 S2 I2 L2 R2 r → zV g Post (u.1 + T2.1, u.2 + T2.2) S2 I2 L2 R2 pc2 lv (r.toList ++ st)) : zV g Post u S I L R pc lv (v1 :: .ref b :: st) := by
  intro p l e Rm s m args below meth c D G as A H locs ls Q hX hS hR hL hE
  obtain ⟨hd, rfl⟩ := hd
  refine zAfter (rest := st) (a := ((.ref b :: [v1]).map (zc as)).toArray) hX hS hR hL hE ?_ hok kk
  have hx := hX
  obtain ⟨x1, x2, x3, x4, x5, x6, x7, x8, x9, x10, x11, x12, x13, x14, x15⟩ := hx
  obtain ⟨hm0, hm1, hm2, hm3, hm4⟩ := hm
  exact va_runIN (As := [v1].map (zc as)) ⟨x1, x2, x5, x6, x7⟩ (hM l D G as H.size) ⟨va_cnB 1 x7 (zT_good (fun w hw => by rcases List.mem_cons.mp hw with rfl | h; exact hm2; exact h)) rfl rfl rfl (x13.1 _ hm0) (x7 _ hm1) hm3 ⟨by show d2 + 1 ≤ _; omega, by show 8 + (nL2 + 11) + 40 * d2 ≤ _; omega⟩, hy, x7 _ hmi⟩ (zPre (av := (.ref b :: [v1])) hX hR) rfl rfl hL.1 rfl (lv_room (by rw [zc_cats]; exact hst)) hd ⟨by rw [x11]; exact hu.1, by rw [x12]; exact hu.2⟩
end ZCalls
end
section
theorem zI_X0 : ∀ w ∈ u_ws RX0 TX0 8, w ∈ zT := by
  intro w hw
  obtain ⟨k, hk, rfl⟩ := List.mem_map.mp hw
  have h := List.mem_range.mp hk
  match k, h with
  | 0, _ => exact zT_in 221 (by decide +kernel) (by decide +kernel)
  | 1, _ => exact zT_in 223 (by decide +kernel) (by decide +kernel)
  | 2, _ => exact zT_in 225 (by decide +kernel) (by decide +kernel)
  | 3, _ => exact zT_in 227 (by decide +kernel) (by decide +kernel)
  | 4, _ => exact zT_in 229 (by decide +kernel) (by decide +kernel)
  | 5, _ => exact zT_in 231 (by decide +kernel) (by decide +kernel)
  | 6, _ => exact zT_in 233 (by decide +kernel) (by decide +kernel)
  | 7, _ => exact zT_in 235 (by decide +kernel) (by decide +kernel)
  | k + 8, h => exact absurd h (by omega)
theorem zC_X0 : zCl 0 RX0 TX0 8 tyX0 := ⟨rfl, zI_X0, tyX0_ok, nmX0, by decide +kernel, zT_in 205 (by decide +kernel) (by decide +kernel), zT_in 68 (by decide +kernel) (by decide +kernel)⟩
theorem zI_X1 : ∀ w ∈ u_ws RX1 TX1 3, w ∈ zT := by
  intro w hw
  obtain ⟨k, hk, rfl⟩ := List.mem_map.mp hw
  have h := List.mem_range.mp hk
  match k, h with
  | 0, _ => exact zT_in 251 (by decide +kernel) (by decide +kernel)
  | 1, _ => exact zT_in 253 (by decide +kernel) (by decide +kernel)
  | 2, _ => exact zT_in 255 (by decide +kernel) (by decide +kernel)
  | k + 3, h => exact absurd h (by omega)
theorem zC_X1 : zCl 1 RX1 TX1 3 tyX1 := ⟨rfl, zI_X1, tyX1_ok, nmX1, by decide +kernel, zT_in 239 (by decide +kernel) (by decide +kernel), zT_in 69 (by decide +kernel) (by decide +kernel)⟩
theorem zI_X2 : ∀ w ∈ u_ws RX2 TX2 11, w ∈ zT := by
  intro w hw
  obtain ⟨k, hk, rfl⟩ := List.mem_map.mp hw
  have h := List.mem_range.mp hk
  match k, h with
  | 0, _ => exact zT_in 119 (by decide +kernel) (by decide +kernel)
  | 1, _ => exact zT_in 121 (by decide +kernel) (by decide +kernel)
  | 2, _ => exact zT_in 123 (by decide +kernel) (by decide +kernel)
  | 3, _ => exact zT_in 125 (by decide +kernel) (by decide +kernel)
  | 4, _ => exact zT_in 127 (by decide +kernel) (by decide +kernel)
  | 5, _ => exact zT_in 129 (by decide +kernel) (by decide +kernel)
  | 6, _ => exact zT_in 131 (by decide +kernel) (by decide +kernel)
  | 7, _ => exact zT_in 133 (by decide +kernel) (by decide +kernel)
  | 8, _ => exact zT_in 135 (by decide +kernel) (by decide +kernel)
  | 9, _ => exact zT_in 137 (by decide +kernel) (by decide +kernel)
  | 10, _ => exact zT_in 139 (by decide +kernel) (by decide +kernel)
  | k + 11, h => exact absurd h (by omega)
theorem zC_X2 : zCl 2 RX2 TX2 11 tyX2 := ⟨rfl, zI_X2, tyX2_ok, nmX2, by decide +kernel, zT_in 83 (by decide +kernel) (by decide +kernel), zT_in 65 (by decide +kernel) (by decide +kernel)⟩
theorem zI_X3 : ∀ w ∈ u_ws RX3 TX3 1, w ∈ zT := by
  intro w hw
  obtain ⟨k, hk, rfl⟩ := List.mem_map.mp hw
  have h := List.mem_range.mp hk
  match k, h with
  | 0, _ => exact zT_in 201 (by decide +kernel) (by decide +kernel)
  | k + 1, h => exact absurd h (by omega)
theorem zC_X3 : zCl 3 RX3 TX3 1 tyX3 := ⟨rfl, zI_X3, tyX3_ok, nmX3, by decide +kernel, zT_in 195 (by decide +kernel) (by decide +kernel), zT_in 67 (by decide +kernel) (by decide +kernel)⟩
theorem zI_X4 : ∀ w ∈ u_ws RX4 TX4 11, w ∈ zT := by
  intro w hw
  obtain ⟨k, hk, rfl⟩ := List.mem_map.mp hw
  have h := List.mem_range.mp hk
  match k, h with
  | 0, _ => exact zT_in 171 (by decide +kernel) (by decide +kernel)
  | 1, _ => exact zT_in 173 (by decide +kernel) (by decide +kernel)
  | 2, _ => exact zT_in 175 (by decide +kernel) (by decide +kernel)
  | 3, _ => exact zT_in 177 (by decide +kernel) (by decide +kernel)
  | 4, _ => exact zT_in 179 (by decide +kernel) (by decide +kernel)
  | 5, _ => exact zT_in 181 (by decide +kernel) (by decide +kernel)
  | 6, _ => exact zT_in 183 (by decide +kernel) (by decide +kernel)
  | 7, _ => exact zT_in 185 (by decide +kernel) (by decide +kernel)
  | 8, _ => exact zT_in 187 (by decide +kernel) (by decide +kernel)
  | 9, _ => exact zT_in 189 (by decide +kernel) (by decide +kernel)
  | 10, _ => exact zT_in 191 (by decide +kernel) (by decide +kernel)
  | k + 11, h => exact absurd h (by omega)
theorem zC_X4 : zCl 4 RX4 TX4 11 tyX4 := ⟨rfl, zI_X4, tyX4_ok, nmX4, by decide +kernel, zT_in 144 (by decide +kernel) (by decide +kernel), zT_in 66 (by decide +kernel) (by decide +kernel)⟩
theorem zI_X5 : ∀ w ∈ u_ws RX5 TX5 13, w ∈ zT := by
  intro w hw
  obtain ⟨k, hk, rfl⟩ := List.mem_map.mp hw
  have h := List.mem_range.mp hk
  match k, h with
  | 0, _ => exact zT_in 271 (by decide +kernel) (by decide +kernel)
  | 1, _ => exact zT_in 273 (by decide +kernel) (by decide +kernel)
  | 2, _ => exact zT_in 275 (by decide +kernel) (by decide +kernel)
  | 3, _ => exact zT_in 277 (by decide +kernel) (by decide +kernel)
  | 4, _ => exact zT_in 279 (by decide +kernel) (by decide +kernel)
  | 5, _ => exact zT_in 281 (by decide +kernel) (by decide +kernel)
  | 6, _ => exact zT_in 283 (by decide +kernel) (by decide +kernel)
  | 7, _ => exact zT_in 285 (by decide +kernel) (by decide +kernel)
  | 8, _ => exact zT_in 287 (by decide +kernel) (by decide +kernel)
  | 9, _ => exact zT_in 289 (by decide +kernel) (by decide +kernel)
  | 10, _ => exact zT_in 291 (by decide +kernel) (by decide +kernel)
  | 11, _ => exact zT_in 293 (by decide +kernel) (by decide +kernel)
  | 12, _ => exact zT_in 295 (by decide +kernel) (by decide +kernel)
  | k + 13, h => exact absurd h (by omega)
theorem zC_X5 : zCl 5 RX5 TX5 13 tyX5 := ⟨rfl, zI_X5, tyX5_ok, nmX5, by decide +kernel, zT_in 75 (by decide +kernel) (by decide +kernel), zT_in 64 (by decide +kernel) (by decide +kernel)⟩
theorem zI_X6 : ∀ w ∈ u_ws RX6 TX6 16, w ∈ zT := by
  intro w hw
  obtain ⟨k, hk, rfl⟩ := List.mem_map.mp hw
  have h := List.mem_range.mp hk
  match k, h with
  | 0, _ => exact zT_in 732 (by decide +kernel) (by decide +kernel)
  | 1, _ => exact zT_in 734 (by decide +kernel) (by decide +kernel)
  | 2, _ => exact zT_in 736 (by decide +kernel) (by decide +kernel)
  | 3, _ => exact zT_in 738 (by decide +kernel) (by decide +kernel)
  | 4, _ => exact zT_in 740 (by decide +kernel) (by decide +kernel)
  | 5, _ => exact zT_in 742 (by decide +kernel) (by decide +kernel)
  | 6, _ => exact zT_in 744 (by decide +kernel) (by decide +kernel)
  | 7, _ => exact zT_in 746 (by decide +kernel) (by decide +kernel)
  | 8, _ => exact zT_in 748 (by decide +kernel) (by decide +kernel)
  | 9, _ => exact zT_in 750 (by decide +kernel) (by decide +kernel)
  | 10, _ => exact zT_in 752 (by decide +kernel) (by decide +kernel)
  | 11, _ => exact zT_in 754 (by decide +kernel) (by decide +kernel)
  | 12, _ => exact zT_in 756 (by decide +kernel) (by decide +kernel)
  | 13, _ => exact zT_in 758 (by decide +kernel) (by decide +kernel)
  | 14, _ => exact zT_in 760 (by decide +kernel) (by decide +kernel)
  | 15, _ => exact zT_in 762 (by decide +kernel) (by decide +kernel)
  | k + 16, h => exact absurd h (by omega)
theorem zC_X6 : zCl 6 RX6 TX6 16 tyX6 := ⟨rfl, zI_X6, tyX6_ok, nmX6, by decide +kernel, zT_in 711 (by decide +kernel) (by decide +kernel), zT_in 70 (by decide +kernel) (by decide +kernel)⟩
theorem fX2_9 : zFL RX2 9 2 0 2 true := ⟨RX2, TX2, 11, tyX2, zC_X2, by decide, zT_in 88 (by decide +kernel) (by decide +kernel), rfl, by decide +kernel, fun h => absurd h (by decide), fun h => absurd h (by decide), fun _ => Or.inr ⟨_, rfl⟩, fun h => absurd h (by decide)⟩
theorem fX4_53 : zFL RX4 53 2 0 2 true := ⟨RX2, TX2, 11, tyX2, zC_X2, by decide, zT_in 89 (by decide +kernel) (by decide +kernel), rfl, by decide +kernel, fun h => absurd h (by decide), fun h => absurd h (by decide), fun _ => Or.inr ⟨_, rfl⟩, fun h => absurd h (by decide)⟩
theorem fX5_214 : zFL RX5 214 2 0 2 true := ⟨RX2, TX2, 11, tyX2, zC_X2, by decide, zT_in 90 (by decide +kernel) (by decide +kernel), rfl, by decide +kernel, fun h => absurd h (by decide), fun h => absurd h (by decide), fun _ => Or.inr ⟨_, rfl⟩, fun h => absurd h (by decide)⟩
theorem fX2_15 : zFL RX2 15 2 1 2 true := ⟨RX2, TX2, 11, tyX2, zC_X2, by decide, zT_in 91 (by decide +kernel) (by decide +kernel), rfl, by decide +kernel, fun h => absurd h (by decide), fun h => absurd h (by decide), fun _ => Or.inr ⟨_, rfl⟩, fun h => absurd h (by decide)⟩
theorem fX5_217 : zFL RX5 217 2 1 2 true := ⟨RX2, TX2, 11, tyX2, zC_X2, by decide, zT_in 92 (by decide +kernel) (by decide +kernel), rfl, by decide +kernel, fun h => absurd h (by decide), fun h => absurd h (by decide), fun _ => Or.inr ⟨_, rfl⟩, fun h => absurd h (by decide)⟩
theorem fX4_105 : zFL RX4 105 2 1 2 true := ⟨RX2, TX2, 11, tyX2, zC_X2, by decide, zT_in 93 (by decide +kernel) (by decide +kernel), rfl, by decide +kernel, fun h => absurd h (by decide), fun h => absurd h (by decide), fun _ => Or.inr ⟨_, rfl⟩, fun h => absurd h (by decide)⟩
theorem fX2_18 : zFL RX2 18 2 2 2 true := ⟨RX2, TX2, 11, tyX2, zC_X2, by decide, zT_in 94 (by decide +kernel) (by decide +kernel), rfl, by decide +kernel, fun h => absurd h (by decide), fun h => absurd h (by decide), fun _ => Or.inr ⟨_, rfl⟩, fun h => absurd h (by decide)⟩
theorem fX4_68 : zFL RX4 68 2 2 2 true := ⟨RX2, TX2, 11, tyX2, zC_X2, by decide, zT_in 95 (by decide +kernel) (by decide +kernel), rfl, by decide +kernel, fun h => absurd h (by decide), fun h => absurd h (by decide), fun _ => Or.inr ⟨_, rfl⟩, fun h => absurd h (by decide)⟩
theorem fX5_220 : zFL RX5 220 2 2 2 true := ⟨RX2, TX2, 11, tyX2, zC_X2, by decide, zT_in 96 (by decide +kernel) (by decide +kernel), rfl, by decide +kernel, fun h => absurd h (by decide), fun h => absurd h (by decide), fun _ => Or.inr ⟨_, rfl⟩, fun h => absurd h (by decide)⟩
theorem fX2_21 : zFL RX2 21 2 3 2 true := ⟨RX2, TX2, 11, tyX2, zC_X2, by decide, zT_in 97 (by decide +kernel) (by decide +kernel), rfl, by decide +kernel, fun h => absurd h (by decide), fun h => absurd h (by decide), fun _ => Or.inr ⟨_, rfl⟩, fun h => absurd h (by decide)⟩
theorem fX5_223 : zFL RX5 223 2 3 2 true := ⟨RX2, TX2, 11, tyX2, zC_X2, by decide, zT_in 98 (by decide +kernel) (by decide +kernel), rfl, by decide +kernel, fun h => absurd h (by decide), fun h => absurd h (by decide), fun _ => Or.inr ⟨_, rfl⟩, fun h => absurd h (by decide)⟩
theorem fX4_106 : zFL RX4 106 2 3 2 true := ⟨RX2, TX2, 11, tyX2, zC_X2, by decide, zT_in 99 (by decide +kernel) (by decide +kernel), rfl, by decide +kernel, fun h => absurd h (by decide), fun h => absurd h (by decide), fun _ => Or.inr ⟨_, rfl⟩, fun h => absurd h (by decide)⟩
theorem fX2_24 : zFL RX2 24 2 4 2 true := ⟨RX2, TX2, 11, tyX2, zC_X2, by decide, zT_in 100 (by decide +kernel) (by decide +kernel), rfl, by decide +kernel, fun h => absurd h (by decide), fun h => absurd h (by decide), fun _ => Or.inr ⟨_, rfl⟩, fun h => absurd h (by decide)⟩
theorem fX4_54 : zFL RX4 54 2 4 2 true := ⟨RX2, TX2, 11, tyX2, zC_X2, by decide, zT_in 101 (by decide +kernel) (by decide +kernel), rfl, by decide +kernel, fun h => absurd h (by decide), fun h => absurd h (by decide), fun _ => Or.inr ⟨_, rfl⟩, fun h => absurd h (by decide)⟩
theorem fX5_115 : zFL RX5 115 2 4 2 true := ⟨RX2, TX2, 11, tyX2, zC_X2, by decide, zT_in 102 (by decide +kernel) (by decide +kernel), rfl, by decide +kernel, fun h => absurd h (by decide), fun h => absurd h (by decide), fun _ => Or.inr ⟨_, rfl⟩, fun h => absurd h (by decide)⟩
theorem fX2_27 : zFL RX2 27 2 5 0 false := ⟨RX2, TX2, 11, tyX2, zC_X2, by decide, zT_in 103 (by decide +kernel) (by decide +kernel), rfl, by decide +kernel, fun _ => rfl, fun h => absurd h (by decide), fun h => absurd h (by decide), fun h => absurd h (by decide)⟩
theorem fX4_50 : zFL RX4 50 2 5 0 false := ⟨RX2, TX2, 11, tyX2, zC_X2, by decide, zT_in 104 (by decide +kernel) (by decide +kernel), rfl, by decide +kernel, fun _ => rfl, fun h => absurd h (by decide), fun h => absurd h (by decide), fun h => absurd h (by decide)⟩
theorem fX5_86 : zFL RX5 86 2 5 0 false := ⟨RX2, TX2, 11, tyX2, zC_X2, by decide, zT_in 105 (by decide +kernel) (by decide +kernel), rfl, by decide +kernel, fun _ => rfl, fun h => absurd h (by decide), fun h => absurd h (by decide), fun h => absurd h (by decide)⟩
theorem fX2_31 : zFL RX2 31 2 6 0 false := ⟨RX2, TX2, 11, tyX2, zC_X2, by decide, zT_in 106 (by decide +kernel) (by decide +kernel), rfl, by decide +kernel, fun _ => rfl, fun h => absurd h (by decide), fun h => absurd h (by decide), fun h => absurd h (by decide)⟩
theorem fX4_69 : zFL RX4 69 2 6 0 false := ⟨RX2, TX2, 11, tyX2, zC_X2, by decide, zT_in 107 (by decide +kernel) (by decide +kernel), rfl, by decide +kernel, fun _ => rfl, fun h => absurd h (by decide), fun h => absurd h (by decide), fun h => absurd h (by decide)⟩
theorem fX5_177 : zFL RX5 177 2 6 0 false := ⟨RX2, TX2, 11, tyX2, zC_X2, by decide, zT_in 108 (by decide +kernel) (by decide +kernel), rfl, by decide +kernel, fun _ => rfl, fun h => absurd h (by decide), fun h => absurd h (by decide), fun h => absurd h (by decide)⟩
theorem fX2_34 : zFL RX2 34 2 7 0 false := ⟨RX2, TX2, 11, tyX2, zC_X2, by decide, zT_in 109 (by decide +kernel) (by decide +kernel), rfl, by decide +kernel, fun _ => rfl, fun h => absurd h (by decide), fun h => absurd h (by decide), fun h => absurd h (by decide)⟩
theorem fX4_46 : zFL RX4 46 2 7 0 false := ⟨RX2, TX2, 11, tyX2, zC_X2, by decide, zT_in 110 (by decide +kernel) (by decide +kernel), rfl, by decide +kernel, fun _ => rfl, fun h => absurd h (by decide), fun h => absurd h (by decide), fun h => absurd h (by decide)⟩
theorem fX5_180 : zFL RX5 180 2 7 0 false := ⟨RX2, TX2, 11, tyX2, zC_X2, by decide, zT_in 111 (by decide +kernel) (by decide +kernel), rfl, by decide +kernel, fun _ => rfl, fun h => absurd h (by decide), fun h => absurd h (by decide), fun h => absurd h (by decide)⟩
theorem fX2_37 : zFL RX2 37 2 8 0 false := ⟨RX2, TX2, 11, tyX2, zC_X2, by decide, zT_in 112 (by decide +kernel) (by decide +kernel), rfl, by decide +kernel, fun _ => rfl, fun h => absurd h (by decide), fun h => absurd h (by decide), fun h => absurd h (by decide)⟩
theorem fX4_49 : zFL RX4 49 2 8 0 false := ⟨RX2, TX2, 11, tyX2, zC_X2, by decide, zT_in 113 (by decide +kernel) (by decide +kernel), rfl, by decide +kernel, fun _ => rfl, fun h => absurd h (by decide), fun h => absurd h (by decide), fun h => absurd h (by decide)⟩
theorem fX5_183 : zFL RX5 183 2 8 0 false := ⟨RX2, TX2, 11, tyX2, zC_X2, by decide, zT_in 114 (by decide +kernel) (by decide +kernel), rfl, by decide +kernel, fun _ => rfl, fun h => absurd h (by decide), fun h => absurd h (by decide), fun h => absurd h (by decide)⟩
theorem fX2_40 : zFL RX2 40 2 9 0 false := ⟨RX2, TX2, 11, tyX2, zC_X2, by decide, zT_in 115 (by decide +kernel) (by decide +kernel), rfl, by decide +kernel, fun _ => rfl, fun h => absurd h (by decide), fun h => absurd h (by decide), fun h => absurd h (by decide)⟩
theorem fX5_208 : zFL RX5 208 2 9 0 false := ⟨RX2, TX2, 11, tyX2, zC_X2, by decide, zT_in 116 (by decide +kernel) (by decide +kernel), rfl, by decide +kernel, fun _ => rfl, fun h => absurd h (by decide), fun h => absurd h (by decide), fun h => absurd h (by decide)⟩
theorem fX2_43 : zFL RX2 43 2 10 0 false := ⟨RX2, TX2, 11, tyX2, zC_X2, by decide, zT_in 117 (by decide +kernel) (by decide +kernel), rfl, by decide +kernel, fun _ => rfl, fun h => absurd h (by decide), fun h => absurd h (by decide), fun h => absurd h (by decide)⟩
theorem fX5_294 : zFL RX5 294 2 10 0 false := ⟨RX2, TX2, 11, tyX2, zC_X2, by decide, zT_in 118 (by decide +kernel) (by decide +kernel), rfl, by decide +kernel, fun _ => rfl, fun h => absurd h (by decide), fun h => absurd h (by decide), fun h => absurd h (by decide)⟩
theorem fX4_9 : zFL RX4 9 4 0 2 true := ⟨RX4, TX4, 11, tyX4, zC_X4, by decide, zT_in 149 (by decide +kernel) (by decide +kernel), rfl, by decide +kernel, fun h => absurd h (by decide), fun h => absurd h (by decide), fun _ => Or.inr ⟨_, rfl⟩, fun h => absurd h (by decide)⟩
theorem fX5_240 : zFL RX5 240 4 0 2 true := ⟨RX4, TX4, 11, tyX4, zC_X4, by decide, zT_in 150 (by decide +kernel) (by decide +kernel), rfl, by decide +kernel, fun h => absurd h (by decide), fun h => absurd h (by decide), fun _ => Or.inr ⟨_, rfl⟩, fun h => absurd h (by decide)⟩
theorem fX4_15 : zFL RX4 15 4 1 2 true := ⟨RX4, TX4, 11, tyX4, zC_X4, by decide, zT_in 151 (by decide +kernel) (by decide +kernel), rfl, by decide +kernel, fun h => absurd h (by decide), fun h => absurd h (by decide), fun _ => Or.inr ⟨_, rfl⟩, fun h => absurd h (by decide)⟩
theorem fX5_243 : zFL RX5 243 4 1 2 true := ⟨RX4, TX4, 11, tyX4, zC_X4, by decide, zT_in 152 (by decide +kernel) (by decide +kernel), rfl, by decide +kernel, fun h => absurd h (by decide), fun h => absurd h (by decide), fun _ => Or.inr ⟨_, rfl⟩, fun h => absurd h (by decide)⟩
theorem fX4_18 : zFL RX4 18 4 2 2 true := ⟨RX4, TX4, 11, tyX4, zC_X4, by decide, zT_in 153 (by decide +kernel) (by decide +kernel), rfl, by decide +kernel, fun h => absurd h (by decide), fun h => absurd h (by decide), fun _ => Or.inr ⟨_, rfl⟩, fun h => absurd h (by decide)⟩
theorem fX5_244 : zFL RX5 244 4 2 2 true := ⟨RX4, TX4, 11, tyX4, zC_X4, by decide, zT_in 154 (by decide +kernel) (by decide +kernel), rfl, by decide +kernel, fun h => absurd h (by decide), fun h => absurd h (by decide), fun _ => Or.inr ⟨_, rfl⟩, fun h => absurd h (by decide)⟩
theorem fX4_21 : zFL RX4 21 4 3 2 true := ⟨RX4, TX4, 11, tyX4, zC_X4, by decide, zT_in 155 (by decide +kernel) (by decide +kernel), rfl, by decide +kernel, fun h => absurd h (by decide), fun h => absurd h (by decide), fun _ => Or.inr ⟨_, rfl⟩, fun h => absurd h (by decide)⟩
theorem fX0_67 : zFL RX0 67 4 3 2 true := ⟨RX4, TX4, 11, tyX4, zC_X4, by decide, zT_in 156 (by decide +kernel) (by decide +kernel), rfl, by decide +kernel, fun h => absurd h (by decide), fun h => absurd h (by decide), fun _ => Or.inr ⟨_, rfl⟩, fun h => absurd h (by decide)⟩
theorem fX5_245 : zFL RX5 245 4 3 2 true := ⟨RX4, TX4, 11, tyX4, zC_X4, by decide, zT_in 157 (by decide +kernel) (by decide +kernel), rfl, by decide +kernel, fun h => absurd h (by decide), fun h => absurd h (by decide), fun _ => Or.inr ⟨_, rfl⟩, fun h => absurd h (by decide)⟩
theorem fX4_24 : zFL RX4 24 4 4 2 true := ⟨RX4, TX4, 11, tyX4, zC_X4, by decide, zT_in 158 (by decide +kernel) (by decide +kernel), rfl, by decide +kernel, fun h => absurd h (by decide), fun h => absurd h (by decide), fun _ => Or.inr ⟨_, rfl⟩, fun h => absurd h (by decide)⟩
theorem fX3_51 : zFL RX3 51 4 4 2 true := ⟨RX4, TX4, 11, tyX4, zC_X4, by decide, zT_in 159 (by decide +kernel) (by decide +kernel), rfl, by decide +kernel, fun h => absurd h (by decide), fun h => absurd h (by decide), fun _ => Or.inr ⟨_, rfl⟩, fun h => absurd h (by decide)⟩
theorem fX5_251 : zFL RX5 251 4 4 2 true := ⟨RX4, TX4, 11, tyX4, zC_X4, by decide, zT_in 160 (by decide +kernel) (by decide +kernel), rfl, by decide +kernel, fun h => absurd h (by decide), fun h => absurd h (by decide), fun _ => Or.inr ⟨_, rfl⟩, fun h => absurd h (by decide)⟩
theorem fX4_27 : zFL RX4 27 4 5 2 true := ⟨RX4, TX4, 11, tyX4, zC_X4, by decide, zT_in 161 (by decide +kernel) (by decide +kernel), rfl, by decide +kernel, fun h => absurd h (by decide), fun h => absurd h (by decide), fun _ => Or.inr ⟨_, rfl⟩, fun h => absurd h (by decide)⟩
theorem fX3_34 : zFL RX3 34 4 5 2 true := ⟨RX4, TX4, 11, tyX4, zC_X4, by decide, zT_in 162 (by decide +kernel) (by decide +kernel), rfl, by decide +kernel, fun h => absurd h (by decide), fun h => absurd h (by decide), fun _ => Or.inr ⟨_, rfl⟩, fun h => absurd h (by decide)⟩
theorem fX4_30 : zFL RX4 30 4 6 2 true := ⟨RX4, TX4, 11, tyX4, zC_X4, by decide, zT_in 163 (by decide +kernel) (by decide +kernel), rfl, by decide +kernel, fun h => absurd h (by decide), fun h => absurd h (by decide), fun _ => Or.inr ⟨_, rfl⟩, fun h => absurd h (by decide)⟩
theorem fX4_33 : zFL RX4 33 4 7 2 true := ⟨RX4, TX4, 11, tyX4, zC_X4, by decide, zT_in 164 (by decide +kernel) (by decide +kernel), rfl, by decide +kernel, fun h => absurd h (by decide), fun h => absurd h (by decide), fun _ => Or.inr ⟨_, rfl⟩, fun h => absurd h (by decide)⟩
theorem fX4_36 : zFL RX4 36 4 8 0 false := ⟨RX4, TX4, 11, tyX4, zC_X4, by decide, zT_in 165 (by decide +kernel) (by decide +kernel), rfl, by decide +kernel, fun _ => rfl, fun h => absurd h (by decide), fun h => absurd h (by decide), fun h => absurd h (by decide)⟩
theorem fX3_23 : zFL RX3 23 4 8 0 false := ⟨RX4, TX4, 11, tyX4, zC_X4, by decide, zT_in 166 (by decide +kernel) (by decide +kernel), rfl, by decide +kernel, fun _ => rfl, fun h => absurd h (by decide), fun h => absurd h (by decide), fun h => absurd h (by decide)⟩
theorem fX0_52 : zFL RX0 52 4 8 0 false := ⟨RX4, TX4, 11, tyX4, zC_X4, by decide, zT_in 167 (by decide +kernel) (by decide +kernel), rfl, by decide +kernel, fun _ => rfl, fun h => absurd h (by decide), fun h => absurd h (by decide), fun h => absurd h (by decide)⟩
theorem fX5_119 : zFL RX5 119 4 8 0 false := ⟨RX4, TX4, 11, tyX4, zC_X4, by decide, zT_in 168 (by decide +kernel) (by decide +kernel), rfl, by decide +kernel, fun _ => rfl, fun h => absurd h (by decide), fun h => absurd h (by decide), fun h => absurd h (by decide)⟩
theorem fX4_40 : zFL RX4 40 4 9 0 false := ⟨RX4, TX4, 11, tyX4, zC_X4, by decide, zT_in 169 (by decide +kernel) (by decide +kernel), rfl, by decide +kernel, fun _ => rfl, fun h => absurd h (by decide), fun h => absurd h (by decide), fun h => absurd h (by decide)⟩
theorem fX4_43 : zFL RX4 43 4 10 0 false := ⟨RX4, TX4, 11, tyX4, zC_X4, by decide, zT_in 170 (by decide +kernel) (by decide +kernel), rfl, by decide +kernel, fun _ => rfl, fun h => absurd h (by decide), fun h => absurd h (by decide), fun h => absurd h (by decide)⟩
theorem fX3_7 : zFL RX3 7 3 0 2 true := ⟨RX3, TX3, 1, tyX3, zC_X3, by decide, zT_in 200 (by decide +kernel) (by decide +kernel), rfl, by decide +kernel, fun h => absurd h (by decide), fun h => absurd h (by decide), fun _ => Or.inl ⟨_, rfl⟩, fun h => absurd h (by decide)⟩
theorem fX0_33 : zFL RX0 33 0 0 2 true := ⟨RX0, TX0, 8, tyX0, zC_X0, by decide, zT_in 210 (by decide +kernel) (by decide +kernel), rfl, by decide +kernel, fun h => absurd h (by decide), fun h => absurd h (by decide), fun _ => Or.inl ⟨_, rfl⟩, fun h => absurd h (by decide)⟩
theorem fX0_9 : zFL RX0 9 0 1 0 false := ⟨RX0, TX0, 8, tyX0, zC_X0, by decide, zT_in 211 (by decide +kernel) (by decide +kernel), rfl, by decide +kernel, fun _ => rfl, fun h => absurd h (by decide), fun h => absurd h (by decide), fun h => absurd h (by decide)⟩
theorem fX0_15 : zFL RX0 15 0 2 0 false := ⟨RX0, TX0, 8, tyX0, zC_X0, by decide, zT_in 212 (by decide +kernel) (by decide +kernel), rfl, by decide +kernel, fun _ => rfl, fun h => absurd h (by decide), fun h => absurd h (by decide), fun h => absurd h (by decide)⟩
theorem fX0_18 : zFL RX0 18 0 3 0 false := ⟨RX0, TX0, 8, tyX0, zC_X0, by decide, zT_in 213 (by decide +kernel) (by decide +kernel), rfl, by decide +kernel, fun _ => rfl, fun h => absurd h (by decide), fun h => absurd h (by decide), fun h => absurd h (by decide)⟩
theorem fX0_21 : zFL RX0 21 0 4 0 false := ⟨RX0, TX0, 8, tyX0, zC_X0, by decide, zT_in 214 (by decide +kernel) (by decide +kernel), rfl, by decide +kernel, fun _ => rfl, fun h => absurd h (by decide), fun h => absurd h (by decide), fun h => absurd h (by decide)⟩
theorem fX0_24 : zFL RX0 24 0 5 0 false := ⟨RX0, TX0, 8, tyX0, zC_X0, by decide, zT_in 215 (by decide +kernel) (by decide +kernel), rfl, by decide +kernel, fun _ => rfl, fun h => absurd h (by decide), fun h => absurd h (by decide), fun h => absurd h (by decide)⟩
theorem fX5_154 : zFL RX5 154 0 5 0 false := ⟨RX0, TX0, 8, tyX0, zC_X0, by decide, zT_in 216 (by decide +kernel) (by decide +kernel), rfl, by decide +kernel, fun _ => rfl, fun h => absurd h (by decide), fun h => absurd h (by decide), fun h => absurd h (by decide)⟩
theorem fX0_27 : zFL RX0 27 0 6 0 false := ⟨RX0, TX0, 8, tyX0, zC_X0, by decide, zT_in 217 (by decide +kernel) (by decide +kernel), rfl, by decide +kernel, fun _ => rfl, fun h => absurd h (by decide), fun h => absurd h (by decide), fun h => absurd h (by decide)⟩
theorem fX5_307 : zFL RX5 307 0 6 0 false := ⟨RX0, TX0, 8, tyX0, zC_X0, by decide, zT_in 218 (by decide +kernel) (by decide +kernel), rfl, by decide +kernel, fun _ => rfl, fun h => absurd h (by decide), fun h => absurd h (by decide), fun h => absurd h (by decide)⟩
theorem fX0_30 : zFL RX0 30 0 7 0 false := ⟨RX0, TX0, 8, tyX0, zC_X0, by decide, zT_in 219 (by decide +kernel) (by decide +kernel), rfl, by decide +kernel, fun _ => rfl, fun h => absurd h (by decide), fun h => absurd h (by decide), fun h => absurd h (by decide)⟩
theorem fX5_248 : zFL RX5 248 0 7 0 false := ⟨RX0, TX0, 8, tyX0, zC_X0, by decide, zT_in 220 (by decide +kernel) (by decide +kernel), rfl, by decide +kernel, fun _ => rfl, fun h => absurd h (by decide), fun h => absurd h (by decide), fun h => absurd h (by decide)⟩
theorem fX1_11 : zFL RX1 11 1 0 2 true := ⟨RX1, TX1, 3, tyX1, zC_X1, by decide, zT_in 247 (by decide +kernel) (by decide +kernel), rfl, by decide +kernel, fun h => absurd h (by decide), fun h => absurd h (by decide), fun _ => Or.inr ⟨_, rfl⟩, fun h => absurd h (by decide)⟩
theorem fX1_17 : zFL RX1 17 1 1 0 false := ⟨RX1, TX1, 3, tyX1, zC_X1, by decide, zT_in 248 (by decide +kernel) (by decide +kernel), rfl, by decide +kernel, fun _ => rfl, fun h => absurd h (by decide), fun h => absurd h (by decide), fun h => absurd h (by decide)⟩
theorem fX1_21 : zFL RX1 21 1 2 0 false := ⟨RX1, TX1, 3, tyX1, zC_X1, by decide, zT_in 249 (by decide +kernel) (by decide +kernel), rfl, by decide +kernel, fun _ => rfl, fun h => absurd h (by decide), fun h => absurd h (by decide), fun h => absurd h (by decide)⟩
theorem fX5_173 : zFL RX5 173 1 2 0 false := ⟨RX1, TX1, 3, tyX1, zC_X1, by decide, zT_in 250 (by decide +kernel) (by decide +kernel), rfl, by decide +kernel, fun _ => rfl, fun h => absurd h (by decide), fun h => absurd h (by decide), fun h => absurd h (by decide)⟩
theorem fX5_10 : zFL RX5 10 5 0 2 true := ⟨RX5, TX5, 13, tyX5, zC_X5, by decide, zT_in 258 (by decide +kernel) (by decide +kernel), rfl, by decide +kernel, fun h => absurd h (by decide), fun h => absurd h (by decide), fun _ => Or.inl ⟨_, rfl⟩, fun h => absurd h (by decide)⟩
theorem fX5_19 : zFL RX5 19 5 1 2 true := ⟨RX5, TX5, 13, tyX5, zC_X5, by decide, zT_in 259 (by decide +kernel) (by decide +kernel), rfl, by decide +kernel, fun h => absurd h (by decide), fun h => absurd h (by decide), fun _ => Or.inl ⟨_, rfl⟩, fun h => absurd h (by decide)⟩
theorem fX5_28 : zFL RX5 28 5 2 2 true := ⟨RX5, TX5, 13, tyX5, zC_X5, by decide, zT_in 260 (by decide +kernel) (by decide +kernel), rfl, by decide +kernel, fun h => absurd h (by decide), fun h => absurd h (by decide), fun _ => Or.inl ⟨_, rfl⟩, fun h => absurd h (by decide)⟩
theorem fX5_35 : zFL RX5 35 5 3 2 true := ⟨RX5, TX5, 13, tyX5, zC_X5, by decide, zT_in 261 (by decide +kernel) (by decide +kernel), rfl, by decide +kernel, fun h => absurd h (by decide), fun h => absurd h (by decide), fun _ => Or.inl ⟨_, rfl⟩, fun h => absurd h (by decide)⟩
theorem fX5_39 : zFL RX5 39 5 4 3 false := ⟨RX5, TX5, 13, tyX5, zC_X5, by decide, zT_in 262 (by decide +kernel) (by decide +kernel), rfl, by decide +kernel, fun h => absurd h (by decide), fun h => absurd h (by decide), fun h => absurd h (by decide), fun _ => rfl⟩
theorem fX5_43 : zFL RX5 43 5 5 2 true := ⟨RX5, TX5, 13, tyX5, zC_X5, by decide, zT_in 263 (by decide +kernel) (by decide +kernel), rfl, by decide +kernel, fun h => absurd h (by decide), fun h => absurd h (by decide), fun _ => Or.inl ⟨_, rfl⟩, fun h => absurd h (by decide)⟩
theorem fX5_46 : zFL RX5 46 5 6 2 true := ⟨RX5, TX5, 13, tyX5, zC_X5, by decide, zT_in 264 (by decide +kernel) (by decide +kernel), rfl, by decide +kernel, fun h => absurd h (by decide), fun h => absurd h (by decide), fun _ => Or.inl ⟨_, rfl⟩, fun h => absurd h (by decide)⟩
theorem fX5_49 : zFL RX5 49 5 7 2 true := ⟨RX5, TX5, 13, tyX5, zC_X5, by decide, zT_in 265 (by decide +kernel) (by decide +kernel), rfl, by decide +kernel, fun h => absurd h (by decide), fun h => absurd h (by decide), fun _ => Or.inl ⟨_, rfl⟩, fun h => absurd h (by decide)⟩
theorem fX5_55 : zFL RX5 55 5 8 2 true := ⟨RX5, TX5, 13, tyX5, zC_X5, by decide, zT_in 266 (by decide +kernel) (by decide +kernel), rfl, by decide +kernel, fun h => absurd h (by decide), fun h => absurd h (by decide), fun _ => Or.inl ⟨_, rfl⟩, fun h => absurd h (by decide)⟩
theorem fX5_59 : zFL RX5 59 5 9 2 true := ⟨RX5, TX5, 13, tyX5, zC_X5, by decide, zT_in 267 (by decide +kernel) (by decide +kernel), rfl, by decide +kernel, fun h => absurd h (by decide), fun h => absurd h (by decide), fun _ => Or.inl ⟨_, rfl⟩, fun h => absurd h (by decide)⟩
theorem fX5_62 : zFL RX5 62 5 10 2 true := ⟨RX5, TX5, 13, tyX5, zC_X5, by decide, zT_in 268 (by decide +kernel) (by decide +kernel), rfl, by decide +kernel, fun h => absurd h (by decide), fun h => absurd h (by decide), fun _ => Or.inl ⟨_, rfl⟩, fun h => absurd h (by decide)⟩
theorem fX5_65 : zFL RX5 65 5 11 3 false := ⟨RX5, TX5, 13, tyX5, zC_X5, by decide, zT_in 269 (by decide +kernel) (by decide +kernel), rfl, by decide +kernel, fun h => absurd h (by decide), fun h => absurd h (by decide), fun h => absurd h (by decide), fun _ => rfl⟩
theorem fX5_68 : zFL RX5 68 5 12 3 false := ⟨RX5, TX5, 13, tyX5, zC_X5, by decide, zT_in 270 (by decide +kernel) (by decide +kernel), rfl, by decide +kernel, fun h => absurd h (by decide), fun h => absurd h (by decide), fun h => absurd h (by decide), fun _ => rfl⟩
theorem fX6_7 : zFL RX6 7 6 0 2 true := ⟨RX6, TX6, 16, tyX6, zC_X6, by decide, zT_in 716 (by decide +kernel) (by decide +kernel), rfl, by decide +kernel, fun h => absurd h (by decide), fun h => absurd h (by decide), fun _ => Or.inr ⟨_, rfl⟩, fun h => absurd h (by decide)⟩
theorem fX6_13 : zFL RX6 13 6 1 2 true := ⟨RX6, TX6, 16, tyX6, zC_X6, by decide, zT_in 717 (by decide +kernel) (by decide +kernel), rfl, by decide +kernel, fun h => absurd h (by decide), fun h => absurd h (by decide), fun _ => Or.inr ⟨_, rfl⟩, fun h => absurd h (by decide)⟩
theorem fX6_116 : zFL RX6 116 6 2 0 false := ⟨RX6, TX6, 16, tyX6, zC_X6, by decide, zT_in 718 (by decide +kernel) (by decide +kernel), rfl, by decide +kernel, fun _ => rfl, fun h => absurd h (by decide), fun h => absurd h (by decide), fun h => absurd h (by decide)⟩
theorem fX6_16 : zFL RX6 16 6 3 2 true := ⟨RX6, TX6, 16, tyX6, zC_X6, by decide, zT_in 719 (by decide +kernel) (by decide +kernel), rfl, by decide +kernel, fun h => absurd h (by decide), fun h => absurd h (by decide), fun _ => Or.inr ⟨_, rfl⟩, fun h => absurd h (by decide)⟩
theorem fX6_19 : zFL RX6 19 6 4 2 true := ⟨RX6, TX6, 16, tyX6, zC_X6, by decide, zT_in 720 (by decide +kernel) (by decide +kernel), rfl, by decide +kernel, fun h => absurd h (by decide), fun h => absurd h (by decide), fun _ => Or.inr ⟨_, rfl⟩, fun h => absurd h (by decide)⟩
theorem fX6_49 : zFL RX6 49 6 5 0 false := ⟨RX6, TX6, 16, tyX6, zC_X6, by decide, zT_in 721 (by decide +kernel) (by decide +kernel), rfl, by decide +kernel, fun _ => rfl, fun h => absurd h (by decide), fun h => absurd h (by decide), fun h => absurd h (by decide)⟩
theorem fX6_23 : zFL RX6 23 6 6 2 true := ⟨RX6, TX6, 16, tyX6, zC_X6, by decide, zT_in 722 (by decide +kernel) (by decide +kernel), rfl, by decide +kernel, fun h => absurd h (by decide), fun h => absurd h (by decide), fun _ => Or.inr ⟨_, rfl⟩, fun h => absurd h (by decide)⟩
theorem fX6_26 : zFL RX6 26 6 7 2 true := ⟨RX6, TX6, 16, tyX6, zC_X6, by decide, zT_in 723 (by decide +kernel) (by decide +kernel), rfl, by decide +kernel, fun h => absurd h (by decide), fun h => absurd h (by decide), fun _ => Or.inr ⟨_, rfl⟩, fun h => absurd h (by decide)⟩
theorem fX6_29 : zFL RX6 29 6 8 2 true := ⟨RX6, TX6, 16, tyX6, zC_X6, by decide, zT_in 724 (by decide +kernel) (by decide +kernel), rfl, by decide +kernel, fun h => absurd h (by decide), fun h => absurd h (by decide), fun _ => Or.inr ⟨_, rfl⟩, fun h => absurd h (by decide)⟩
theorem fX6_32 : zFL RX6 32 6 9 2 true := ⟨RX6, TX6, 16, tyX6, zC_X6, by decide, zT_in 725 (by decide +kernel) (by decide +kernel), rfl, by decide +kernel, fun h => absurd h (by decide), fun h => absurd h (by decide), fun _ => Or.inr ⟨_, rfl⟩, fun h => absurd h (by decide)⟩
theorem fX6_35 : zFL RX6 35 6 10 2 true := ⟨RX6, TX6, 16, tyX6, zC_X6, by decide, zT_in 726 (by decide +kernel) (by decide +kernel), rfl, by decide +kernel, fun h => absurd h (by decide), fun h => absurd h (by decide), fun _ => Or.inr ⟨_, rfl⟩, fun h => absurd h (by decide)⟩
theorem fX6_91 : zFL RX6 91 6 11 0 false := ⟨RX6, TX6, 16, tyX6, zC_X6, by decide, zT_in 727 (by decide +kernel) (by decide +kernel), rfl, by decide +kernel, fun _ => rfl, fun h => absurd h (by decide), fun h => absurd h (by decide), fun h => absurd h (by decide)⟩
theorem fX6_94 : zFL RX6 94 6 12 0 false := ⟨RX6, TX6, 16, tyX6, zC_X6, by decide, zT_in 728 (by decide +kernel) (by decide +kernel), rfl, by decide +kernel, fun _ => rfl, fun h => absurd h (by decide), fun h => absurd h (by decide), fun h => absurd h (by decide)⟩
theorem fX6_97 : zFL RX6 97 6 13 0 false := ⟨RX6, TX6, 16, tyX6, zC_X6, by decide, zT_in 729 (by decide +kernel) (by decide +kernel), rfl, by decide +kernel, fun _ => rfl, fun h => absurd h (by decide), fun h => absurd h (by decide), fun h => absurd h (by decide)⟩
theorem fX6_194 : zFL RX6 194 6 14 1 false := ⟨RX6, TX6, 16, tyX6, zC_X6, by decide, zT_in 730 (by decide +kernel) (by decide +kernel), rfl, by decide +kernel, fun h => absurd h (by decide), fun _ => rfl, fun h => absurd h (by decide), fun h => absurd h (by decide)⟩
theorem fX6_38 : zFL RX6 38 6 15 2 true := ⟨RX6, TX6, 16, tyX6, zC_X6, by decide, zT_in 731 (by decide +kernel) (by decide +kernel), rfl, by decide +kernel, fun h => absurd h (by decide), fun h => absurd h (by decide), fun _ => Or.inr ⟨_, rfl⟩, fun h => absurd h (by decide)⟩
theorem mL_9 : zMLI RL 9 yX5_init cX5_init 1 0 := ⟨⟨zT_in 76 (by decide +kernel) (by decide +kernel), zT_in 64 (by decide +kernel) (by decide +kernel), zT_in 78 (by decide +kernel) (by decide +kernel), ⟨by decide +kernel, by decide +kernel, by decide +kernel⟩, by decide⟩, zT_in 77 (by decide +kernel) (by decide +kernel), rfl⟩
theorem mX5_1_l : Cond.methodLink RX5 1 Lib.objectInit ∈ zT := zT_in 79 (by decide +kernel) (by decide +kernel)
theorem mX5_9 : zMLN RX5 9 yX2_init cX2_init 1 none 0 "TwoMasks" := ⟨by decide +kernel, zT_in 65 (by decide +kernel) (by decide +kernel), zT_in 86 (by decide +kernel) (by decide +kernel), ⟨by decide +kernel, by decide +kernel, by decide +kernel⟩, by decide⟩
theorem mX5_9_i : Cond.instanceMethod yX2_init ∈ zT := zT_in 85 (by decide +kernel) (by decide +kernel)
theorem mX2_3_l : Cond.methodLink RX2 3 Lib.objectInit ∈ zT := zT_in 87 (by decide +kernel) (by decide +kernel)
theorem mX5_18 : zMLN RX5 18 yX4_init cX4_init 1 none 0 "TwoMasks" := ⟨by decide +kernel, zT_in 66 (by decide +kernel) (by decide +kernel), zT_in 147 (by decide +kernel) (by decide +kernel), ⟨by decide +kernel, by decide +kernel, by decide +kernel⟩, by decide⟩
theorem mX5_18_i : Cond.instanceMethod yX4_init ∈ zT := zT_in 146 (by decide +kernel) (by decide +kernel)
theorem mX4_3_l : Cond.methodLink RX4 3 Lib.objectInit ∈ zT := zT_in 148 (by decide +kernel) (by decide +kernel)
theorem mX5_25 : zMLI RX5 25 yX3_init cX3_init 2 1 := ⟨⟨zT_in 196 (by decide +kernel) (by decide +kernel), zT_in 67 (by decide +kernel) (by decide +kernel), zT_in 198 (by decide +kernel) (by decide +kernel), ⟨by decide +kernel, by decide +kernel, by decide +kernel⟩, by decide⟩, zT_in 197 (by decide +kernel) (by decide +kernel), rfl⟩
theorem mX3_1_l : Cond.methodLink RX3 1 Lib.objectInit ∈ zT := zT_in 199 (by decide +kernel) (by decide +kernel)
theorem mX5_34 : zMLI RX5 34 yX0_init cX0_init 2 1 := ⟨⟨zT_in 206 (by decide +kernel) (by decide +kernel), zT_in 68 (by decide +kernel) (by decide +kernel), zT_in 208 (by decide +kernel) (by decide +kernel), ⟨by decide +kernel, by decide +kernel, by decide +kernel⟩, by decide⟩, zT_in 207 (by decide +kernel) (by decide +kernel), rfl⟩
theorem mX0_3_l : Cond.methodLink RX0 3 Lib.objectInit ∈ zT := zT_in 209 (by decide +kernel) (by decide +kernel)
theorem mX5_54 : zMLI RX5 54 yX1_init cX1_init 2 0 := ⟨⟨zT_in 240 (by decide +kernel) (by decide +kernel), zT_in 69 (by decide +kernel) (by decide +kernel), zT_in 242 (by decide +kernel) (by decide +kernel), ⟨by decide +kernel, by decide +kernel, by decide +kernel⟩, by decide⟩, zT_in 241 (by decide +kernel) (by decide +kernel), rfl⟩
theorem mX1_3_l : Cond.methodLink RX1 3 Lib.objectInit ∈ zT := zT_in 243 (by decide +kernel) (by decide +kernel)
theorem mX1_24 : zMLN RX1 24 yX2_init cX2_init 1 none 0 "TwoMasks" := ⟨by decide +kernel, zT_in 65 (by decide +kernel) (by decide +kernel), zT_in 86 (by decide +kernel) (by decide +kernel), ⟨by decide +kernel, by decide +kernel, by decide +kernel⟩, by decide⟩
theorem mX1_24_i : Cond.instanceMethod yX2_init ∈ zT := zT_in 85 (by decide +kernel) (by decide +kernel)
theorem mL_13 : zMLV RL 13 5 yX5_shape cX5_shape 6 (some .int) 4 := ⟨⟨zT_in 298 (by decide +kernel) (by decide +kernel), zT_in 64 (by decide +kernel) (by decide +kernel), zT_in 301 (by decide +kernel) (by decide +kernel), ⟨by decide +kernel, by decide +kernel, by decide +kernel⟩, by decide⟩, zT_in 299 (by decide +kernel) (by decide +kernel), zT_in 300 (by decide +kernel) (by decide +kernel), _, _, rfl⟩
theorem mX5_71 : zMLV RX5 71 2 yX2_refusalOfNew cX2_refusalOfNew 5 (some .int) 4 := ⟨⟨zT_in 302 (by decide +kernel) (by decide +kernel), zT_in 65 (by decide +kernel) (by decide +kernel), zT_in 305 (by decide +kernel) (by decide +kernel), ⟨by decide +kernel, by decide +kernel, by decide +kernel⟩, by decide⟩, zT_in 303 (by decide +kernel) (by decide +kernel), zT_in 304 (by decide +kernel) (by decide +kernel), _, _, rfl⟩
theorem mX2_65 : zMLS RX2 65 yX2_isOnField cX2_isOnField 4 (some .boolean) 4 := ⟨⟨zT_in 306 (by decide +kernel) (by decide +kernel), zT_in 65 (by decide +kernel) (by decide +kernel), zT_in 308 (by decide +kernel) (by decide +kernel), ⟨by decide +kernel, by decide +kernel, by decide +kernel⟩, by decide⟩, zT_in 307 (by decide +kernel) (by decide +kernel)⟩
theorem mX2_97 : zMLN RX2 97 yX5_isPlace cX5_isPlace 1 (some .boolean) 1 "TwoMasks" := ⟨by decide +kernel, zT_in 64 (by decide +kernel) (by decide +kernel), zT_in 311 (by decide +kernel) (by decide +kernel), ⟨by decide +kernel, by decide +kernel, by decide +kernel⟩, by decide⟩
theorem mX2_97_s : Cond.static yX5_isPlace ∈ zT := zT_in 310 (by decide +kernel) (by decide +kernel)
theorem mX2_70 : zMLV RX2 70 2 yX2_isFree cX2_isFree 8 (some .boolean) 5 := ⟨⟨zT_in 313 (by decide +kernel) (by decide +kernel), zT_in 65 (by decide +kernel) (by decide +kernel), zT_in 316 (by decide +kernel) (by decide +kernel), ⟨by decide +kernel, by decide +kernel, by decide +kernel⟩, by decide⟩, zT_in 315 (by decide +kernel) (by decide +kernel), zT_in 0 (by decide +kernel) (by decide +kernel), _, _, rfl⟩
theorem mX2_75 : zMLV RX2 75 2 yX2_isFull cX2_isFull 1 (some .boolean) 0 := ⟨⟨zT_in 318 (by decide +kernel) (by decide +kernel), zT_in 65 (by decide +kernel) (by decide +kernel), zT_in 321 (by decide +kernel) (by decide +kernel), ⟨by decide +kernel, by decide +kernel, by decide +kernel⟩, by decide⟩, zT_in 319 (by decide +kernel) (by decide +kernel), zT_in 320 (by decide +kernel) (by decide +kernel), _, _, rfl⟩
theorem mX2_58 : zMLV RX2 58 2 yX2_piecesAhead cX2_piecesAhead 4 (some .int) 1 := ⟨⟨zT_in 322 (by decide +kernel) (by decide +kernel), zT_in 65 (by decide +kernel) (by decide +kernel), zT_in 325 (by decide +kernel) (by decide +kernel), ⟨by decide +kernel, by decide +kernel, by decide +kernel⟩, by decide⟩, zT_in 323 (by decide +kernel) (by decide +kernel), zT_in 324 (by decide +kernel) (by decide +kernel), _, _, rfl⟩
theorem mX2_52 : zMLS RX2 52 yJ6_bitCount_0f7a4 cJ6_bitCount_0f7a4 1 (some .int) 1 := ⟨⟨zT_in 326 (by decide +kernel) (by decide +kernel), zT_in 71 (by decide +kernel) (by decide +kernel), zT_in 328 (by decide +kernel) (by decide +kernel), ⟨by decide +kernel, by decide +kernel, by decide +kernel⟩, by decide⟩, zT_in 327 (by decide +kernel) (by decide +kernel)⟩
theorem mX5_75 : zMLV RX5 75 1 yX1_remember cX1_remember 2 none 1 := ⟨⟨zT_in 333 (by decide +kernel) (by decide +kernel), zT_in 69 (by decide +kernel) (by decide +kernel), zT_in 336 (by decide +kernel) (by decide +kernel), ⟨by decide +kernel, by decide +kernel, by decide +kernel⟩, by decide⟩, zT_in 334 (by decide +kernel) (by decide +kernel), zT_in 335 (by decide +kernel) (by decide +kernel), _, _, rfl⟩
theorem mX1_25 : zMLV RX1 25 2 yX2_become cX2_become 2 none 1 := ⟨⟨zT_in 337 (by decide +kernel) (by decide +kernel), zT_in 65 (by decide +kernel) (by decide +kernel), zT_in 340 (by decide +kernel) (by decide +kernel), ⟨by decide +kernel, by decide +kernel, by decide +kernel⟩, by decide⟩, zT_in 338 (by decide +kernel) (by decide +kernel), zT_in 339 (by decide +kernel) (by decide +kernel), _, _, rfl⟩
theorem mX2_46_l : Cond.methodLink RX2 46 arraycopyName ∈ zT := zT_in 341 (by decide +kernel) (by decide +kernel)
theorem mX1_29_l : Cond.methodLink RX1 29 Lib.Math.min.name ∈ zT := zT_in 344 (by decide +kernel) (by decide +kernel)
theorem mX5_79 : zMLV RX5 79 2 yX2_putNew cX2_putNew 5 none 4 := ⟨⟨zT_in 347 (by decide +kernel) (by decide +kernel), zT_in 65 (by decide +kernel) (by decide +kernel), zT_in 350 (by decide +kernel) (by decide +kernel), ⟨by decide +kernel, by decide +kernel, by decide +kernel⟩, by decide⟩, zT_in 348 (by decide +kernel) (by decide +kernel), zT_in 349 (by decide +kernel) (by decide +kernel), _, _, rfl⟩
theorem mX5_83 : zMLV RX5 83 5 yX5_layFree cX5_layFree 1 none 0 := ⟨⟨zT_in 351 (by decide +kernel) (by decide +kernel), zT_in 64 (by decide +kernel) (by decide +kernel), zT_in 354 (by decide +kernel) (by decide +kernel), ⟨by decide +kernel, by decide +kernel, by decide +kernel⟩, by decide⟩, zT_in 353 (by decide +kernel) (by decide +kernel), zT_in 1 (by decide +kernel) (by decide +kernel), _, _, rfl⟩
theorem mX5_288 : zMLV RX5 288 2 yX2_freeAll cX2_freeAll 1 none 0 := ⟨⟨zT_in 355 (by decide +kernel) (by decide +kernel), zT_in 65 (by decide +kernel) (by decide +kernel), zT_in 358 (by decide +kernel) (by decide +kernel), ⟨by decide +kernel, by decide +kernel, by decide +kernel⟩, by decide⟩, zT_in 356 (by decide +kernel) (by decide +kernel), zT_in 357 (by decide +kernel) (by decide +kernel), _, _, rfl⟩
theorem mX5_137 : zMLV RX5 137 5 yX5_layAnew cX5_layAnew 1 none 0 := ⟨⟨zT_in 359 (by decide +kernel) (by decide +kernel), zT_in 64 (by decide +kernel) (by decide +kernel), zT_in 362 (by decide +kernel) (by decide +kernel), ⟨by decide +kernel, by decide +kernel, by decide +kernel⟩, by decide⟩, zT_in 361 (by decide +kernel) (by decide +kernel), zT_in 2 (by decide +kernel) (by decide +kernel), _, _, rfl⟩
theorem mX5_291 : zMLV RX5 291 4 yX4_lay cX4_lay 7 none 1 := ⟨⟨zT_in 363 (by decide +kernel) (by decide +kernel), zT_in 66 (by decide +kernel) (by decide +kernel), zT_in 366 (by decide +kernel) (by decide +kernel), ⟨by decide +kernel, by decide +kernel, by decide +kernel⟩, by decide⟩, zT_in 364 (by decide +kernel) (by decide +kernel), zT_in 365 (by decide +kernel) (by decide +kernel), _, _, rfl⟩
theorem mX4_57 : zMLN RX4 57 yX5_lowestOf cX5_lowestOf 1 (some .int) 1 "TwoMasks" := ⟨by decide +kernel, zT_in 64 (by decide +kernel) (by decide +kernel), zT_in 369 (by decide +kernel) (by decide +kernel), ⟨by decide +kernel, by decide +kernel, by decide +kernel⟩, by decide⟩
theorem mX4_57_s : Cond.static yX5_lowestOf ∈ zT := zT_in 368 (by decide +kernel) (by decide +kernel)
theorem mX5_226 : zMLS RX5 226 yJ6_bitCount_0f7a4 cJ6_bitCount_0f7a4 1 (some .int) 1 := ⟨⟨zT_in 370 (by decide +kernel) (by decide +kernel), zT_in 71 (by decide +kernel) (by decide +kernel), zT_in 328 (by decide +kernel) (by decide +kernel), ⟨by decide +kernel, by decide +kernel, by decide +kernel⟩, by decide⟩, zT_in 327 (by decide +kernel) (by decide +kernel)⟩
theorem mX4_61 : zMLV RX4 61 4 yX4_add cX4_add 5 none 4 := ⟨⟨zT_in 371 (by decide +kernel) (by decide +kernel), zT_in 66 (by decide +kernel) (by decide +kernel), zT_in 374 (by decide +kernel) (by decide +kernel), ⟨by decide +kernel, by decide +kernel, by decide +kernel⟩, by decide⟩, zT_in 373 (by decide +kernel) (by decide +kernel), zT_in 3 (by decide +kernel) (by decide +kernel), _, _, rfl⟩
theorem mX4_102 : zMLV RX4 102 2 yX2_hasShape cX2_hasShape 2 (some .boolean) 1 := ⟨⟨zT_in 375 (by decide +kernel) (by decide +kernel), zT_in 65 (by decide +kernel) (by decide +kernel), zT_in 378 (by decide +kernel) (by decide +kernel), ⟨by decide +kernel, by decide +kernel, by decide +kernel⟩, by decide⟩, zT_in 376 (by decide +kernel) (by decide +kernel), zT_in 377 (by decide +kernel) (by decide +kernel), _, _, rfl⟩
theorem mX4_65 : zMLN RX4 65 yX5_withoutLowest cX5_withoutLowest 1 (some .int) 1 "TwoMasks" := ⟨by decide +kernel, zT_in 64 (by decide +kernel) (by decide +kernel), zT_in 381 (by decide +kernel) (by decide +kernel), ⟨by decide +kernel, by decide +kernel, by decide +kernel⟩, by decide⟩
theorem mX4_65_s : Cond.static yX5_withoutLowest ∈ zT := zT_in 380 (by decide +kernel) (by decide +kernel)
theorem mX4_72 : zMLV RX4 72 4 yX4_link cX4_link 6 none 1 := ⟨⟨zT_in 382 (by decide +kernel) (by decide +kernel), zT_in 66 (by decide +kernel) (by decide +kernel), zT_in 385 (by decide +kernel) (by decide +kernel), ⟨by decide +kernel, by decide +kernel, by decide +kernel⟩, by decide⟩, zT_in 384 (by decide +kernel) (by decide +kernel), zT_in 4 (by decide +kernel) (by decide +kernel), _, _, rfl⟩
theorem mX4_107 : zMLV RX4 107 4 yX4_gapOf cX4_gapOf 5 (some .int) 2 := ⟨⟨zT_in 386 (by decide +kernel) (by decide +kernel), zT_in 66 (by decide +kernel) (by decide +kernel), zT_in 389 (by decide +kernel) (by decide +kernel), ⟨by decide +kernel, by decide +kernel, by decide +kernel⟩, by decide⟩, zT_in 387 (by decide +kernel) (by decide +kernel), zT_in 388 (by decide +kernel) (by decide +kernel), _, _, rfl⟩
theorem mX4_76 : zMLV RX4 76 4 yX4_has cX4_has 2 (some .boolean) 1 := ⟨⟨zT_in 390 (by decide +kernel) (by decide +kernel), zT_in 66 (by decide +kernel) (by decide +kernel), zT_in 393 (by decide +kernel) (by decide +kernel), ⟨by decide +kernel, by decide +kernel, by decide +kernel⟩, by decide⟩, zT_in 391 (by decide +kernel) (by decide +kernel), zT_in 392 (by decide +kernel) (by decide +kernel), _, _, rfl⟩
theorem mX4_80 : zMLS RX4 80 yX4_stepsBetween cX4_stepsBetween 4 (some .int) 4 := ⟨⟨zT_in 394 (by decide +kernel) (by decide +kernel), zT_in 66 (by decide +kernel) (by decide +kernel), zT_in 396 (by decide +kernel) (by decide +kernel), ⟨by decide +kernel, by decide +kernel, by decide +kernel⟩, by decide⟩, zT_in 395 (by decide +kernel) (by decide +kernel)⟩
theorem mX4_110_l : Cond.methodLink RX4 110 Lib.Math.max.name ∈ zT := zT_in 397 (by decide +kernel) (by decide +kernel)
theorem mL_18 : zMLV RL 18 5 yX5_drop cX5_drop 2 (some .int) 1 := ⟨⟨zT_in 400 (by decide +kernel) (by decide +kernel), zT_in 64 (by decide +kernel) (by decide +kernel), zT_in 403 (by decide +kernel) (by decide +kernel), ⟨by decide +kernel, by decide +kernel, by decide +kernel⟩, by decide⟩, zT_in 401 (by decide +kernel) (by decide +kernel), zT_in 402 (by decide +kernel) (by decide +kernel), _, _, rfl⟩
theorem mX5_90 : zMLV RX5 90 2 yX2_hasShape cX2_hasShape 2 (some .boolean) 1 := ⟨⟨zT_in 404 (by decide +kernel) (by decide +kernel), zT_in 65 (by decide +kernel) (by decide +kernel), zT_in 378 (by decide +kernel) (by decide +kernel), ⟨by decide +kernel, by decide +kernel, by decide +kernel⟩, by decide⟩, zT_in 376 (by decide +kernel) (by decide +kernel), zT_in 377 (by decide +kernel) (by decide +kernel), _, _, rfl⟩
theorem mX5_95 : zMLV RX5 95 2 yX2_takeAway cX2_takeAway 3 none 1 := ⟨⟨zT_in 406 (by decide +kernel) (by decide +kernel), zT_in 65 (by decide +kernel) (by decide +kernel), zT_in 409 (by decide +kernel) (by decide +kernel), ⟨by decide +kernel, by decide +kernel, by decide +kernel⟩, by decide⟩, zT_in 407 (by decide +kernel) (by decide +kernel), zT_in 408 (by decide +kernel) (by decide +kernel), _, _, rfl⟩
theorem mX2_61 : zMLV RX2 61 2 yX2_hasShape cX2_hasShape 2 (some .boolean) 1 := ⟨⟨zT_in 410 (by decide +kernel) (by decide +kernel), zT_in 65 (by decide +kernel) (by decide +kernel), zT_in 378 (by decide +kernel) (by decide +kernel), ⟨by decide +kernel, by decide +kernel, by decide +kernel⟩, by decide⟩, zT_in 376 (by decide +kernel) (by decide +kernel), zT_in 377 (by decide +kernel) (by decide +kernel), _, _, rfl⟩
theorem mL_23 : zMLV RL 23 5 yX5_move cX5_move 5 (some .int) 3 := ⟨⟨zT_in 411 (by decide +kernel) (by decide +kernel), zT_in 64 (by decide +kernel) (by decide +kernel), zT_in 414 (by decide +kernel) (by decide +kernel), ⟨by decide +kernel, by decide +kernel, by decide +kernel⟩, by decide⟩, zT_in 412 (by decide +kernel) (by decide +kernel), zT_in 413 (by decide +kernel) (by decide +kernel), _, _, rfl⟩
theorem mX5_99 : zMLV RX5 99 2 yX2_refusalOfStep cX2_refusalOfStep 9 (some .int) 3 := ⟨⟨zT_in 415 (by decide +kernel) (by decide +kernel), zT_in 65 (by decide +kernel) (by decide +kernel), zT_in 418 (by decide +kernel) (by decide +kernel), ⟨by decide +kernel, by decide +kernel, by decide +kernel⟩, by decide⟩, zT_in 416 (by decide +kernel) (by decide +kernel), zT_in 417 (by decide +kernel) (by decide +kernel), _, _, rfl⟩
theorem mX2_81 : zMLS RX2 81 yX2_isStep cX2_isStep 1 (some .boolean) 1 := ⟨⟨zT_in 420 (by decide +kernel) (by decide +kernel), zT_in 65 (by decide +kernel) (by decide +kernel), zT_in 422 (by decide +kernel) (by decide +kernel), ⟨by decide +kernel, by decide +kernel, by decide +kernel⟩, by decide⟩, zT_in 421 (by decide +kernel) (by decide +kernel)⟩
theorem mX5_103 : zMLV RX5 103 2 yX2_step cX2_step 4 none 3 := ⟨⟨zT_in 423 (by decide +kernel) (by decide +kernel), zT_in 65 (by decide +kernel) (by decide +kernel), zT_in 426 (by decide +kernel) (by decide +kernel), ⟨by decide +kernel, by decide +kernel, by decide +kernel⟩, by decide⟩, zT_in 424 (by decide +kernel) (by decide +kernel), zT_in 425 (by decide +kernel) (by decide +kernel), _, _, rfl⟩
theorem mX5_107 : zMLV RX5 107 2 yX2_areaOf cX2_areaOf 2 (some .int) 1 := ⟨⟨zT_in 427 (by decide +kernel) (by decide +kernel), zT_in 65 (by decide +kernel) (by decide +kernel), zT_in 430 (by decide +kernel) (by decide +kernel), ⟨by decide +kernel, by decide +kernel, by decide +kernel⟩, by decide⟩, zT_in 428 (by decide +kernel) (by decide +kernel), zT_in 429 (by decide +kernel) (by decide +kernel), _, _, rfl⟩
theorem mL_28 : zMLV RL 28 5 yX5_cut cX5_cut 4 (some .int) 2 := ⟨⟨zT_in 431 (by decide +kernel) (by decide +kernel), zT_in 64 (by decide +kernel) (by decide +kernel), zT_in 434 (by decide +kernel) (by decide +kernel), ⟨by decide +kernel, by decide +kernel, by decide +kernel⟩, by decide⟩, zT_in 432 (by decide +kernel) (by decide +kernel), zT_in 433 (by decide +kernel) (by decide +kernel), _, _, rfl⟩
theorem mX5_111 : zMLV RX5 111 2 yX2_refusalOfCut cX2_refusalOfCut 4 (some .int) 2 := ⟨⟨zT_in 435 (by decide +kernel) (by decide +kernel), zT_in 65 (by decide +kernel) (by decide +kernel), zT_in 438 (by decide +kernel) (by decide +kernel), ⟨by decide +kernel, by decide +kernel, by decide +kernel⟩, by decide⟩, zT_in 436 (by decide +kernel) (by decide +kernel), zT_in 437 (by decide +kernel) (by decide +kernel), _, _, rfl⟩
theorem mX2_84 : zMLS RX2 84 yX2_isCutPlace cX2_isCutPlace 1 (some .boolean) 1 := ⟨⟨zT_in 439 (by decide +kernel) (by decide +kernel), zT_in 65 (by decide +kernel) (by decide +kernel), zT_in 441 (by decide +kernel) (by decide +kernel), ⟨by decide +kernel, by decide +kernel, by decide +kernel⟩, by decide⟩, zT_in 440 (by decide +kernel) (by decide +kernel)⟩
theorem mX2_87 : zMLV RX2 87 2 yX2_isCutAt cX2_isCutAt 3 (some .boolean) 2 := ⟨⟨zT_in 442 (by decide +kernel) (by decide +kernel), zT_in 65 (by decide +kernel) (by decide +kernel), zT_in 445 (by decide +kernel) (by decide +kernel), ⟨by decide +kernel, by decide +kernel, by decide +kernel⟩, by decide⟩, zT_in 444 (by decide +kernel) (by decide +kernel), zT_in 5 (by decide +kernel) (by decide +kernel), _, _, rfl⟩
theorem mL_33 : zMLV RL 33 5 yX5_heal cX5_heal 4 (some .int) 2 := ⟨⟨zT_in 446 (by decide +kernel) (by decide +kernel), zT_in 64 (by decide +kernel) (by decide +kernel), zT_in 449 (by decide +kernel) (by decide +kernel), ⟨by decide +kernel, by decide +kernel, by decide +kernel⟩, by decide⟩, zT_in 447 (by decide +kernel) (by decide +kernel), zT_in 448 (by decide +kernel) (by decide +kernel), _, _, rfl⟩
theorem mX5_122 : zMLV RX5 122 2 yX2_refusalOfHealing cX2_refusalOfHealing 3 (some .int) 2 := ⟨⟨zT_in 450 (by decide +kernel) (by decide +kernel), zT_in 65 (by decide +kernel) (by decide +kernel), zT_in 453 (by decide +kernel) (by decide +kernel), ⟨by decide +kernel, by decide +kernel, by decide +kernel⟩, by decide⟩, zT_in 451 (by decide +kernel) (by decide +kernel), zT_in 452 (by decide +kernel) (by decide +kernel), _, _, rfl⟩
theorem mL_37 : zMLV RL 37 5 yX5_bound cX5_bound 4 (some .int) 2 := ⟨⟨zT_in 454 (by decide +kernel) (by decide +kernel), zT_in 64 (by decide +kernel) (by decide +kernel), zT_in 457 (by decide +kernel) (by decide +kernel), ⟨by decide +kernel, by decide +kernel, by decide +kernel⟩, by decide⟩, zT_in 455 (by decide +kernel) (by decide +kernel), zT_in 456 (by decide +kernel) (by decide +kernel), _, _, rfl⟩
theorem mX5_125 : zMLS RX5 125 yX2_isBound cX2_isBound 2 (some .boolean) 2 := ⟨⟨zT_in 458 (by decide +kernel) (by decide +kernel), zT_in 65 (by decide +kernel) (by decide +kernel), zT_in 460 (by decide +kernel) (by decide +kernel), ⟨by decide +kernel, by decide +kernel, by decide +kernel⟩, by decide⟩, zT_in 459 (by decide +kernel) (by decide +kernel)⟩
theorem mX5_130 : zMLV RX5 130 2 yX2_boundOf cX2_boundOf 2 (some .int) 1 := ⟨⟨zT_in 462 (by decide +kernel) (by decide +kernel), zT_in 65 (by decide +kernel) (by decide +kernel), zT_in 465 (by decide +kernel) (by decide +kernel), ⟨by decide +kernel, by decide +kernel, by decide +kernel⟩, by decide⟩, zT_in 463 (by decide +kernel) (by decide +kernel), zT_in 464 (by decide +kernel) (by decide +kernel), _, _, rfl⟩
theorem mX5_133 : zMLV RX5 133 2 yX2_setBound cX2_setBound 3 none 2 := ⟨⟨zT_in 466 (by decide +kernel) (by decide +kernel), zT_in 65 (by decide +kernel) (by decide +kernel), zT_in 469 (by decide +kernel) (by decide +kernel), ⟨by decide +kernel, by decide +kernel, by decide +kernel⟩, by decide⟩, zT_in 467 (by decide +kernel) (by decide +kernel), zT_in 468 (by decide +kernel) (by decide +kernel), _, _, rfl⟩
theorem mL_41 : zMLV RL 41 5 yX5_fix cX5_fix 3 (some .int) 2 := ⟨⟨zT_in 470 (by decide +kernel) (by decide +kernel), zT_in 64 (by decide +kernel) (by decide +kernel), zT_in 473 (by decide +kernel) (by decide +kernel), ⟨by decide +kernel, by decide +kernel, by decide +kernel⟩, by decide⟩, zT_in 471 (by decide +kernel) (by decide +kernel), zT_in 472 (by decide +kernel) (by decide +kernel), _, _, rfl⟩
theorem mX5_140 : zMLV RX5 140 4 yX4_has cX4_has 2 (some .boolean) 1 := ⟨⟨zT_in 474 (by decide +kernel) (by decide +kernel), zT_in 66 (by decide +kernel) (by decide +kernel), zT_in 393 (by decide +kernel) (by decide +kernel), ⟨by decide +kernel, by decide +kernel, by decide +kernel⟩, by decide⟩, zT_in 391 (by decide +kernel) (by decide +kernel), zT_in 392 (by decide +kernel) (by decide +kernel), _, _, rfl⟩
theorem mX5_143 : zMLV RX5 143 2 yX2_fixedMaskOf cX2_fixedMaskOf 2 (some .int) 1 := ⟨⟨zT_in 475 (by decide +kernel) (by decide +kernel), zT_in 65 (by decide +kernel) (by decide +kernel), zT_in 478 (by decide +kernel) (by decide +kernel), ⟨by decide +kernel, by decide +kernel, by decide +kernel⟩, by decide⟩, zT_in 476 (by decide +kernel) (by decide +kernel), zT_in 477 (by decide +kernel) (by decide +kernel), _, _, rfl⟩
theorem mX5_147 : zMLV RX5 147 2 yX2_setFixed cX2_setFixed 4 none 2 := ⟨⟨zT_in 480 (by decide +kernel) (by decide +kernel), zT_in 65 (by decide +kernel) (by decide +kernel), zT_in 483 (by decide +kernel) (by decide +kernel), ⟨by decide +kernel, by decide +kernel, by decide +kernel⟩, by decide⟩, zT_in 481 (by decide +kernel) (by decide +kernel), zT_in 482 (by decide +kernel) (by decide +kernel), _, _, rfl⟩
theorem mX5_150 : zMLV RX5 150 5 yX5_bestNow cX5_bestNow 1 (some (.object "TwoMasks$Best")) 0 := ⟨⟨zT_in 484 (by decide +kernel) (by decide +kernel), zT_in 64 (by decide +kernel) (by decide +kernel), zT_in 487 (by decide +kernel) (by decide +kernel), ⟨by decide +kernel, by decide +kernel, by decide +kernel⟩, by decide⟩, zT_in 486 (by decide +kernel) (by decide +kernel), zT_in 6 (by decide +kernel) (by decide +kernel), _, _, rfl⟩
theorem mX5_297 : zMLV RX5 297 0 yX0_find cX0_find 3 none 2 := ⟨⟨zT_in 488 (by decide +kernel) (by decide +kernel), zT_in 68 (by decide +kernel) (by decide +kernel), zT_in 491 (by decide +kernel) (by decide +kernel), ⟨by decide +kernel, by decide +kernel, by decide +kernel⟩, by decide⟩, zT_in 489 (by decide +kernel) (by decide +kernel), zT_in 490 (by decide +kernel) (by decide +kernel), _, _, rfl⟩
theorem mX0_37 : zMLV RX0 37 4 yX4_all cX4_all 1 (some .int) 0 := ⟨⟨zT_in 492 (by decide +kernel) (by decide +kernel), zT_in 66 (by decide +kernel) (by decide +kernel), zT_in 495 (by decide +kernel) (by decide +kernel), ⟨by decide +kernel, by decide +kernel, by decide +kernel⟩, by decide⟩, zT_in 493 (by decide +kernel) (by decide +kernel), zT_in 494 (by decide +kernel) (by decide +kernel), _, _, rfl⟩
theorem mX0_43 : zMLV RX0 43 4 yX4_areaOf cX4_areaOf 4 (some .int) 1 := ⟨⟨zT_in 496 (by decide +kernel) (by decide +kernel), zT_in 66 (by decide +kernel) (by decide +kernel), zT_in 499 (by decide +kernel) (by decide +kernel), ⟨by decide +kernel, by decide +kernel, by decide +kernel⟩, by decide⟩, zT_in 497 (by decide +kernel) (by decide +kernel), zT_in 498 (by decide +kernel) (by decide +kernel), _, _, rfl⟩
theorem mX0_48 : zMLS RX0 48 yX0_search cX0_search 8 none 5 := ⟨⟨zT_in 501 (by decide +kernel) (by decide +kernel), zT_in 68 (by decide +kernel) (by decide +kernel), zT_in 503 (by decide +kernel) (by decide +kernel), ⟨by decide +kernel, by decide +kernel, by decide +kernel⟩, by decide⟩, zT_in 502 (by decide +kernel) (by decide +kernel)⟩
theorem mX0_55 : zMLV RX0 55 0 yX0_weigh cX0_weigh 5 none 3 := ⟨⟨zT_in 504 (by decide +kernel) (by decide +kernel), zT_in 68 (by decide +kernel) (by decide +kernel), zT_in 507 (by decide +kernel) (by decide +kernel), ⟨by decide +kernel, by decide +kernel, by decide +kernel⟩, by decide⟩, zT_in 506 (by decide +kernel) (by decide +kernel), zT_in 7 (by decide +kernel) (by decide +kernel), _, _, rfl⟩
theorem mX0_71_l : Cond.methodLink RX0 71 Lib.Math.abs.name ∈ zT := zT_in 508 (by decide +kernel) (by decide +kernel)
theorem mX0_59 : zMLV RX0 59 0 yX0_mayBeOn cX0_mayBeOn 3 (some .boolean) 2 := ⟨⟨zT_in 511 (by decide +kernel) (by decide +kernel), zT_in 68 (by decide +kernel) (by decide +kernel), zT_in 514 (by decide +kernel) (by decide +kernel), ⟨by decide +kernel, by decide +kernel, by decide +kernel⟩, by decide⟩, zT_in 513 (by decide +kernel) (by decide +kernel), zT_in 8 (by decide +kernel) (by decide +kernel), _, _, rfl⟩
theorem mX0_63 : zMLV RX0 63 4 yX4_costWithEarlier cX4_costWithEarlier 3 (some .int) 2 := ⟨⟨zT_in 515 (by decide +kernel) (by decide +kernel), zT_in 66 (by decide +kernel) (by decide +kernel), zT_in 518 (by decide +kernel) (by decide +kernel), ⟨by decide +kernel, by decide +kernel, by decide +kernel⟩, by decide⟩, zT_in 516 (by decide +kernel) (by decide +kernel), zT_in 517 (by decide +kernel) (by decide +kernel), _, _, rfl⟩
theorem mX4_95 : zMLV RX4 95 4 yX4_clashesWithEarlier cX4_clashesWithEarlier 5 (some .int) 2 := ⟨⟨zT_in 519 (by decide +kernel) (by decide +kernel), zT_in 66 (by decide +kernel) (by decide +kernel), zT_in 522 (by decide +kernel) (by decide +kernel), ⟨by decide +kernel, by decide +kernel, by decide +kernel⟩, by decide⟩, zT_in 521 (by decide +kernel) (by decide +kernel), zT_in 9 (by decide +kernel) (by decide +kernel), _, _, rfl⟩
theorem mX4_84 : zMLS RX4 84 yJ6_bitCount_0f7a4 cJ6_bitCount_0f7a4 1 (some .int) 1 := ⟨⟨zT_in 523 (by decide +kernel) (by decide +kernel), zT_in 71 (by decide +kernel) (by decide +kernel), zT_in 328 (by decide +kernel) (by decide +kernel), ⟨by decide +kernel, by decide +kernel, by decide +kernel⟩, by decide⟩, zT_in 327 (by decide +kernel) (by decide +kernel)⟩
theorem mX4_99 : zMLV RX4 99 4 yX4_stitchWithEarlier cX4_stitchWithEarlier 3 (some .int) 2 := ⟨⟨zT_in 524 (by decide +kernel) (by decide +kernel), zT_in 66 (by decide +kernel) (by decide +kernel), zT_in 527 (by decide +kernel) (by decide +kernel), ⟨by decide +kernel, by decide +kernel, by decide +kernel⟩, by decide⟩, zT_in 526 (by decide +kernel) (by decide +kernel), zT_in 10 (by decide +kernel) (by decide +kernel), _, _, rfl⟩
theorem mL_45 : zMLV RL 45 5 yX5_turn cX5_turn 1 (some .int) 0 := ⟨⟨zT_in 528 (by decide +kernel) (by decide +kernel), zT_in 64 (by decide +kernel) (by decide +kernel), zT_in 531 (by decide +kernel) (by decide +kernel), ⟨by decide +kernel, by decide +kernel, by decide +kernel⟩, by decide⟩, zT_in 529 (by decide +kernel) (by decide +kernel), zT_in 530 (by decide +kernel) (by decide +kernel), _, _, rfl⟩
theorem mX5_157 : zMLV RX5 157 2 yX2_mirror cX2_mirror 3 none 0 := ⟨⟨zT_in 532 (by decide +kernel) (by decide +kernel), zT_in 65 (by decide +kernel) (by decide +kernel), zT_in 535 (by decide +kernel) (by decide +kernel), ⟨by decide +kernel, by decide +kernel, by decide +kernel⟩, by decide⟩, zT_in 533 (by decide +kernel) (by decide +kernel), zT_in 534 (by decide +kernel) (by decide +kernel), _, _, rfl⟩
theorem mX2_91 : zMLS RX2 91 yX2_mirrored cX2_mirrored 3 (some .int) 1 := ⟨⟨zT_in 536 (by decide +kernel) (by decide +kernel), zT_in 65 (by decide +kernel) (by decide +kernel), zT_in 538 (by decide +kernel) (by decide +kernel), ⟨by decide +kernel, by decide +kernel, by decide +kernel⟩, by decide⟩, zT_in 537 (by decide +kernel) (by decide +kernel)⟩
theorem mL_50 : zMLV RL 50 5 yX5_drift cX5_drift 13 (some .int) 2 := ⟨⟨zT_in 539 (by decide +kernel) (by decide +kernel), zT_in 64 (by decide +kernel) (by decide +kernel), zT_in 542 (by decide +kernel) (by decide +kernel), ⟨by decide +kernel, by decide +kernel, by decide +kernel⟩, by decide⟩, zT_in 540 (by decide +kernel) (by decide +kernel), zT_in 541 (by decide +kernel) (by decide +kernel), _, _, rfl⟩
theorem mX5_161 : zMLV RX5 161 2 yX2_isFull cX2_isFull 1 (some .boolean) 0 := ⟨⟨zT_in 544 (by decide +kernel) (by decide +kernel), zT_in 65 (by decide +kernel) (by decide +kernel), zT_in 321 (by decide +kernel) (by decide +kernel), ⟨by decide +kernel, by decide +kernel, by decide +kernel⟩, by decide⟩, zT_in 319 (by decide +kernel) (by decide +kernel), zT_in 320 (by decide +kernel) (by decide +kernel), _, _, rfl⟩
theorem mX5_165 : zMLS RX5 165 yX5_nextLot cX5_nextLot 1 (some .int) 1 := ⟨⟨zT_in 545 (by decide +kernel) (by decide +kernel), zT_in 64 (by decide +kernel) (by decide +kernel), zT_in 547 (by decide +kernel) (by decide +kernel), ⟨by decide +kernel, by decide +kernel, by decide +kernel⟩, by decide⟩, zT_in 546 (by decide +kernel) (by decide +kernel)⟩
theorem mX5_168_l : Cond.methodLink RX5 168 Lib.Math.min.name ∈ zT := zT_in 550 (by decide +kernel) (by decide +kernel)
theorem mL_54 : zMLV RL 54 5 yX5_undo cX5_undo 1 (some .int) 0 := ⟨⟨zT_in 551 (by decide +kernel) (by decide +kernel), zT_in 64 (by decide +kernel) (by decide +kernel), zT_in 554 (by decide +kernel) (by decide +kernel), ⟨by decide +kernel, by decide +kernel, by decide +kernel⟩, by decide⟩, zT_in 552 (by decide +kernel) (by decide +kernel), zT_in 553 (by decide +kernel) (by decide +kernel), _, _, rfl⟩
theorem mX5_174 : zMLV RX5 174 1 yX1_recall cX1_recall 2 none 1 := ⟨⟨zT_in 555 (by decide +kernel) (by decide +kernel), zT_in 69 (by decide +kernel) (by decide +kernel), zT_in 558 (by decide +kernel) (by decide +kernel), ⟨by decide +kernel, by decide +kernel, by decide +kernel⟩, by decide⟩, zT_in 556 (by decide +kernel) (by decide +kernel), zT_in 557 (by decide +kernel) (by decide +kernel), _, _, rfl⟩
theorem mL_58 : zMLV RL 58 5 yX5_told cX5_told 2 (some .int) 1 := ⟨⟨zT_in 559 (by decide +kernel) (by decide +kernel), zT_in 64 (by decide +kernel) (by decide +kernel), zT_in 562 (by decide +kernel) (by decide +kernel), ⟨by decide +kernel, by decide +kernel, by decide +kernel⟩, by decide⟩, zT_in 560 (by decide +kernel) (by decide +kernel), zT_in 561 (by decide +kernel) (by decide +kernel), _, _, rfl⟩
theorem mX5_186 : zMLV RX5 186 3 yX3_parts cX3_parts 4 (some .int) 0 := ⟨⟨zT_in 563 (by decide +kernel) (by decide +kernel), zT_in 67 (by decide +kernel) (by decide +kernel), zT_in 566 (by decide +kernel) (by decide +kernel), ⟨by decide +kernel, by decide +kernel, by decide +kernel⟩, by decide⟩, zT_in 564 (by decide +kernel) (by decide +kernel), zT_in 565 (by decide +kernel) (by decide +kernel), _, _, rfl⟩
theorem mX3_27 : zMLV RX3 27 3 yX3_partOf cX3_partOf 2 (some .int) 1 := ⟨⟨zT_in 567 (by decide +kernel) (by decide +kernel), zT_in 67 (by decide +kernel) (by decide +kernel), zT_in 570 (by decide +kernel) (by decide +kernel), ⟨by decide +kernel, by decide +kernel, by decide +kernel⟩, by decide⟩, zT_in 568 (by decide +kernel) (by decide +kernel), zT_in 569 (by decide +kernel) (by decide +kernel), _, _, rfl⟩
theorem mX3_13 : zMLV RX3 13 4 yX4_all cX4_all 1 (some .int) 0 := ⟨⟨zT_in 571 (by decide +kernel) (by decide +kernel), zT_in 66 (by decide +kernel) (by decide +kernel), zT_in 495 (by decide +kernel) (by decide +kernel), ⟨by decide +kernel, by decide +kernel, by decide +kernel⟩, by decide⟩, zT_in 493 (by decide +kernel) (by decide +kernel), zT_in 494 (by decide +kernel) (by decide +kernel), _, _, rfl⟩
theorem mX3_19 : zMLV RX3 19 3 yX3_reached cX3_reached 6 (some .int) 2 := ⟨⟨zT_in 572 (by decide +kernel) (by decide +kernel), zT_in 67 (by decide +kernel) (by decide +kernel), zT_in 575 (by decide +kernel) (by decide +kernel), ⟨by decide +kernel, by decide +kernel, by decide +kernel⟩, by decide⟩, zT_in 574 (by decide +kernel) (by decide +kernel), zT_in 11 (by decide +kernel) (by decide +kernel), _, _, rfl⟩
theorem mX3_54 : zMLV RX3 54 3 yX3_neighbours cX3_neighbours 5 (some .int) 2 := ⟨⟨zT_in 576 (by decide +kernel) (by decide +kernel), zT_in 67 (by decide +kernel) (by decide +kernel), zT_in 579 (by decide +kernel) (by decide +kernel), ⟨by decide +kernel, by decide +kernel, by decide +kernel⟩, by decide⟩, zT_in 578 (by decide +kernel) (by decide +kernel), zT_in 12 (by decide +kernel) (by decide +kernel), _, _, rfl⟩
theorem mX5_190 : zMLV RX5 190 3 yX3_oddParts cX3_oddParts 4 (some .int) 0 := ⟨⟨zT_in 580 (by decide +kernel) (by decide +kernel), zT_in 67 (by decide +kernel) (by decide +kernel), zT_in 583 (by decide +kernel) (by decide +kernel), ⟨by decide +kernel, by decide +kernel, by decide +kernel⟩, by decide⟩, zT_in 581 (by decide +kernel) (by decide +kernel), zT_in 582 (by decide +kernel) (by decide +kernel), _, _, rfl⟩
theorem mX3_31 : zMLV RX3 31 3 yX3_oddWalkFrom cX3_oddWalkFrom 4 (some .int) 1 := ⟨⟨zT_in 584 (by decide +kernel) (by decide +kernel), zT_in 67 (by decide +kernel) (by decide +kernel), zT_in 587 (by decide +kernel) (by decide +kernel), ⟨by decide +kernel, by decide +kernel, by decide +kernel⟩, by decide⟩, zT_in 586 (by decide +kernel) (by decide +kernel), zT_in 13 (by decide +kernel) (by decide +kernel), _, _, rfl⟩
theorem mX5_193 : zMLV RX5 193 3 yX3_shortestOddRing cX3_shortestOddRing 4 (some .int) 0 := ⟨⟨zT_in 588 (by decide +kernel) (by decide +kernel), zT_in 67 (by decide +kernel) (by decide +kernel), zT_in 591 (by decide +kernel) (by decide +kernel), ⟨by decide +kernel, by decide +kernel, by decide +kernel⟩, by decide⟩, zT_in 589 (by decide +kernel) (by decide +kernel), zT_in 590 (by decide +kernel) (by decide +kernel), _, _, rfl⟩
theorem mX5_196 : zMLV RX5 196 3 yX3_core cX3_core 4 (some .int) 0 := ⟨⟨zT_in 592 (by decide +kernel) (by decide +kernel), zT_in 67 (by decide +kernel) (by decide +kernel), zT_in 595 (by decide +kernel) (by decide +kernel), ⟨by decide +kernel, by decide +kernel, by decide +kernel⟩, by decide⟩, zT_in 593 (by decide +kernel) (by decide +kernel), zT_in 594 (by decide +kernel) (by decide +kernel), _, _, rfl⟩
theorem mX3_38 : zMLS RX3 38 yJ6_bitCount_0f7a4 cJ6_bitCount_0f7a4 1 (some .int) 1 := ⟨⟨zT_in 596 (by decide +kernel) (by decide +kernel), zT_in 71 (by decide +kernel) (by decide +kernel), zT_in 328 (by decide +kernel) (by decide +kernel), ⟨by decide +kernel, by decide +kernel, by decide +kernel⟩, by decide⟩, zT_in 327 (by decide +kernel) (by decide +kernel)⟩
theorem mX5_199 : zMLV RX5 199 3 yX3_bridges cX3_bridges 4 (some .int) 0 := ⟨⟨zT_in 597 (by decide +kernel) (by decide +kernel), zT_in 67 (by decide +kernel) (by decide +kernel), zT_in 600 (by decide +kernel) (by decide +kernel), ⟨by decide +kernel, by decide +kernel, by decide +kernel⟩, by decide⟩, zT_in 598 (by decide +kernel) (by decide +kernel), zT_in 599 (by decide +kernel) (by decide +kernel), _, _, rfl⟩
theorem mX3_43 : zMLV RX3 43 3 yX3_isBridge cX3_isBridge 4 (some .boolean) 2 := ⟨⟨zT_in 601 (by decide +kernel) (by decide +kernel), zT_in 67 (by decide +kernel) (by decide +kernel), zT_in 604 (by decide +kernel) (by decide +kernel), ⟨by decide +kernel, by decide +kernel, by decide +kernel⟩, by decide⟩, zT_in 603 (by decide +kernel) (by decide +kernel), zT_in 14 (by decide +kernel) (by decide +kernel), _, _, rfl⟩
theorem mX5_202 : zMLV RX5 202 3 yX3_hinges cX3_hinges 3 (some .int) 0 := ⟨⟨zT_in 605 (by decide +kernel) (by decide +kernel), zT_in 67 (by decide +kernel) (by decide +kernel), zT_in 608 (by decide +kernel) (by decide +kernel), ⟨by decide +kernel, by decide +kernel, by decide +kernel⟩, by decide⟩, zT_in 606 (by decide +kernel) (by decide +kernel), zT_in 607 (by decide +kernel) (by decide +kernel), _, _, rfl⟩
theorem mX3_47 : zMLV RX3 47 3 yX3_isHinge cX3_isHinge 4 (some .boolean) 1 := ⟨⟨zT_in 609 (by decide +kernel) (by decide +kernel), zT_in 67 (by decide +kernel) (by decide +kernel), zT_in 612 (by decide +kernel) (by decide +kernel), ⟨by decide +kernel, by decide +kernel, by decide +kernel⟩, by decide⟩, zT_in 611 (by decide +kernel) (by decide +kernel), zT_in 15 (by decide +kernel) (by decide +kernel), _, _, rfl⟩
theorem mX5_205 : zMLV RX5 205 4 yX4_closePairs cX4_closePairs 3 (some .int) 0 := ⟨⟨zT_in 613 (by decide +kernel) (by decide +kernel), zT_in 66 (by decide +kernel) (by decide +kernel), zT_in 616 (by decide +kernel) (by decide +kernel), ⟨by decide +kernel, by decide +kernel, by decide +kernel⟩, by decide⟩, zT_in 614 (by decide +kernel) (by decide +kernel), zT_in 615 (by decide +kernel) (by decide +kernel), _, _, rfl⟩
theorem mX5_211 : zMLV RX5 211 5 yX5_toldOfBest cX5_toldOfBest 3 (some .int) 1 := ⟨⟨zT_in 617 (by decide +kernel) (by decide +kernel), zT_in 64 (by decide +kernel) (by decide +kernel), zT_in 620 (by decide +kernel) (by decide +kernel), ⟨by decide +kernel, by decide +kernel, by decide +kernel⟩, by decide⟩, zT_in 619 (by decide +kernel) (by decide +kernel), zT_in 16 (by decide +kernel) (by decide +kernel), _, _, rfl⟩
theorem mX5_300 : zMLV RX5 300 4 yX4_stitchesOf cX4_stitchesOf 4 (some .int) 1 := ⟨⟨zT_in 621 (by decide +kernel) (by decide +kernel), zT_in 66 (by decide +kernel) (by decide +kernel), zT_in 624 (by decide +kernel) (by decide +kernel), ⟨by decide +kernel, by decide +kernel, by decide +kernel⟩, by decide⟩, zT_in 622 (by decide +kernel) (by decide +kernel), zT_in 623 (by decide +kernel) (by decide +kernel), _, _, rfl⟩
theorem mX5_303 : zMLV RX5 303 4 yX4_clashesOf cX4_clashesOf 4 (some .int) 1 := ⟨⟨zT_in 625 (by decide +kernel) (by decide +kernel), zT_in 66 (by decide +kernel) (by decide +kernel), zT_in 628 (by decide +kernel) (by decide +kernel), ⟨by decide +kernel, by decide +kernel, by decide +kernel⟩, by decide⟩, zT_in 626 (by decide +kernel) (by decide +kernel), zT_in 627 (by decide +kernel) (by decide +kernel), _, _, rfl⟩
theorem mX5_269 : zMLV RX5 269 4 yX4_all cX4_all 1 (some .int) 0 := ⟨⟨zT_in 629 (by decide +kernel) (by decide +kernel), zT_in 66 (by decide +kernel) (by decide +kernel), zT_in 495 (by decide +kernel) (by decide +kernel), ⟨by decide +kernel, by decide +kernel, by decide +kernel⟩, by decide⟩, zT_in 493 (by decide +kernel) (by decide +kernel), zT_in 494 (by decide +kernel) (by decide +kernel), _, _, rfl⟩
theorem mX5_306 : zMLV RX5 306 4 yX4_areaOf cX4_areaOf 4 (some .int) 1 := ⟨⟨zT_in 630 (by decide +kernel) (by decide +kernel), zT_in 66 (by decide +kernel) (by decide +kernel), zT_in 499 (by decide +kernel) (by decide +kernel), ⟨by decide +kernel, by decide +kernel, by decide +kernel⟩, by decide⟩, zT_in 497 (by decide +kernel) (by decide +kernel), zT_in 498 (by decide +kernel) (by decide +kernel), _, _, rfl⟩
theorem mL_62 : zMLV RL 62 5 yX5_ofShape cX5_ofShape 4 (some .int) 2 := ⟨⟨zT_in 631 (by decide +kernel) (by decide +kernel), zT_in 64 (by decide +kernel) (by decide +kernel), zT_in 634 (by decide +kernel) (by decide +kernel), ⟨by decide +kernel, by decide +kernel, by decide +kernel⟩, by decide⟩, zT_in 632 (by decide +kernel) (by decide +kernel), zT_in 633 (by decide +kernel) (by decide +kernel), _, _, rfl⟩
theorem mX5_231 : zMLV RX5 231 2 yX2_piecesAhead cX2_piecesAhead 4 (some .int) 1 := ⟨⟨zT_in 635 (by decide +kernel) (by decide +kernel), zT_in 65 (by decide +kernel) (by decide +kernel), zT_in 325 (by decide +kernel) (by decide +kernel), ⟨by decide +kernel, by decide +kernel, by decide +kernel⟩, by decide⟩, zT_in 323 (by decide +kernel) (by decide +kernel), zT_in 324 (by decide +kernel) (by decide +kernel), _, _, rfl⟩
theorem mX5_234 : zMLS RX5 234 yX5_lowestOf cX5_lowestOf 1 (some .int) 1 := ⟨⟨zT_in 636 (by decide +kernel) (by decide +kernel), zT_in 64 (by decide +kernel) (by decide +kernel), zT_in 369 (by decide +kernel) (by decide +kernel), ⟨by decide +kernel, by decide +kernel, by decide +kernel⟩, by decide⟩, zT_in 368 (by decide +kernel) (by decide +kernel)⟩
theorem mX5_237 : zMLS RX5 237 yX5_withoutLowest cX5_withoutLowest 1 (some .int) 1 := ⟨⟨zT_in 637 (by decide +kernel) (by decide +kernel), zT_in 64 (by decide +kernel) (by decide +kernel), zT_in 381 (by decide +kernel) (by decide +kernel), ⟨by decide +kernel, by decide +kernel, by decide +kernel⟩, by decide⟩, zT_in 380 (by decide +kernel) (by decide +kernel)⟩
theorem mL_66 : zMLV RL 66 5 yX5_ofPiece cX5_ofPiece 3 (some .int) 2 := ⟨⟨zT_in 638 (by decide +kernel) (by decide +kernel), zT_in 64 (by decide +kernel) (by decide +kernel), zT_in 641 (by decide +kernel) (by decide +kernel), ⟨by decide +kernel, by decide +kernel, by decide +kernel⟩, by decide⟩, zT_in 639 (by decide +kernel) (by decide +kernel), zT_in 640 (by decide +kernel) (by decide +kernel), _, _, rfl⟩
theorem mX5_254 : zMLV RX5 254 3 yX3_partOf cX3_partOf 2 (some .int) 1 := ⟨⟨zT_in 642 (by decide +kernel) (by decide +kernel), zT_in 67 (by decide +kernel) (by decide +kernel), zT_in 570 (by decide +kernel) (by decide +kernel), ⟨by decide +kernel, by decide +kernel, by decide +kernel⟩, by decide⟩, zT_in 568 (by decide +kernel) (by decide +kernel), zT_in 569 (by decide +kernel) (by decide +kernel), _, _, rfl⟩
theorem mL_70 : zMLV RL 70 5 yX5_gap cX5_gap 3 (some .int) 2 := ⟨⟨zT_in 643 (by decide +kernel) (by decide +kernel), zT_in 64 (by decide +kernel) (by decide +kernel), zT_in 646 (by decide +kernel) (by decide +kernel), ⟨by decide +kernel, by decide +kernel, by decide +kernel⟩, by decide⟩, zT_in 644 (by decide +kernel) (by decide +kernel), zT_in 645 (by decide +kernel) (by decide +kernel), _, _, rfl⟩
theorem mX5_257 : zMLV RX5 257 5 yX5_areTwoPieces cX5_areTwoPieces 3 (some .boolean) 2 := ⟨⟨zT_in 647 (by decide +kernel) (by decide +kernel), zT_in 64 (by decide +kernel) (by decide +kernel), zT_in 650 (by decide +kernel) (by decide +kernel), ⟨by decide +kernel, by decide +kernel, by decide +kernel⟩, by decide⟩, zT_in 649 (by decide +kernel) (by decide +kernel), zT_in 17 (by decide +kernel) (by decide +kernel), _, _, rfl⟩
theorem mX5_260 : zMLV RX5 260 4 yX4_gapOf cX4_gapOf 5 (some .int) 2 := ⟨⟨zT_in 651 (by decide +kernel) (by decide +kernel), zT_in 66 (by decide +kernel) (by decide +kernel), zT_in 389 (by decide +kernel) (by decide +kernel), ⟨by decide +kernel, by decide +kernel, by decide +kernel⟩, by decide⟩, zT_in 387 (by decide +kernel) (by decide +kernel), zT_in 388 (by decide +kernel) (by decide +kernel), _, _, rfl⟩
theorem mL_74 : zMLV RL 74 5 yX5_at cX5_at 3 (some .int) 2 := ⟨⟨zT_in 652 (by decide +kernel) (by decide +kernel), zT_in 64 (by decide +kernel) (by decide +kernel), zT_in 655 (by decide +kernel) (by decide +kernel), ⟨by decide +kernel, by decide +kernel, by decide +kernel⟩, by decide⟩, zT_in 653 (by decide +kernel) (by decide +kernel), zT_in 654 (by decide +kernel) (by decide +kernel), _, _, rfl⟩
theorem mX5_263 : zMLS RX5 263 yX5_isPlace cX5_isPlace 1 (some .boolean) 1 := ⟨⟨zT_in 656 (by decide +kernel) (by decide +kernel), zT_in 64 (by decide +kernel) (by decide +kernel), zT_in 311 (by decide +kernel) (by decide +kernel), ⟨by decide +kernel, by decide +kernel, by decide +kernel⟩, by decide⟩, zT_in 310 (by decide +kernel) (by decide +kernel)⟩
theorem mX5_266 : zMLV RX5 266 4 yX4_pieceAt cX4_pieceAt 4 (some .int) 2 := ⟨⟨zT_in 657 (by decide +kernel) (by decide +kernel), zT_in 66 (by decide +kernel) (by decide +kernel), zT_in 660 (by decide +kernel) (by decide +kernel), ⟨by decide +kernel, by decide +kernel, by decide +kernel⟩, by decide⟩, zT_in 658 (by decide +kernel) (by decide +kernel), zT_in 659 (by decide +kernel) (by decide +kernel), _, _, rfl⟩
theorem mL_78 : zMLV RL 78 5 yX5_judge cX5_judge 2 (some .int) 1 := ⟨⟨zT_in 661 (by decide +kernel) (by decide +kernel), zT_in 64 (by decide +kernel) (by decide +kernel), zT_in 664 (by decide +kernel) (by decide +kernel), ⟨by decide +kernel, by decide +kernel, by decide +kernel⟩, by decide⟩, zT_in 662 (by decide +kernel) (by decide +kernel), zT_in 663 (by decide +kernel) (by decide +kernel), _, _, rfl⟩
theorem mX5_272 : zMLV RX5 272 4 yX4_costOf cX4_costOf 2 (some .int) 1 := ⟨⟨zT_in 665 (by decide +kernel) (by decide +kernel), zT_in 66 (by decide +kernel) (by decide +kernel), zT_in 668 (by decide +kernel) (by decide +kernel), ⟨by decide +kernel, by decide +kernel, by decide +kernel⟩, by decide⟩, zT_in 666 (by decide +kernel) (by decide +kernel), zT_in 667 (by decide +kernel) (by decide +kernel), _, _, rfl⟩
theorem mX4_89 : zMLV RX4 89 4 yX4_clashesOf cX4_clashesOf 4 (some .int) 1 := ⟨⟨zT_in 669 (by decide +kernel) (by decide +kernel), zT_in 66 (by decide +kernel) (by decide +kernel), zT_in 628 (by decide +kernel) (by decide +kernel), ⟨by decide +kernel, by decide +kernel, by decide +kernel⟩, by decide⟩, zT_in 626 (by decide +kernel) (by decide +kernel), zT_in 627 (by decide +kernel) (by decide +kernel), _, _, rfl⟩
theorem mX4_92 : zMLV RX4 92 4 yX4_stitchesOf cX4_stitchesOf 4 (some .int) 1 := ⟨⟨zT_in 670 (by decide +kernel) (by decide +kernel), zT_in 66 (by decide +kernel) (by decide +kernel), zT_in 624 (by decide +kernel) (by decide +kernel), ⟨by decide +kernel, by decide +kernel, by decide +kernel⟩, by decide⟩, zT_in 622 (by decide +kernel) (by decide +kernel), zT_in 623 (by decide +kernel) (by decide +kernel), _, _, rfl⟩
theorem mL_82 : zMLV RL 82 5 yX5_wouldCut cX5_wouldCut 4 (some .int) 2 := ⟨⟨zT_in 671 (by decide +kernel) (by decide +kernel), zT_in 64 (by decide +kernel) (by decide +kernel), zT_in 674 (by decide +kernel) (by decide +kernel), ⟨by decide +kernel, by decide +kernel, by decide +kernel⟩, by decide⟩, zT_in 672 (by decide +kernel) (by decide +kernel), zT_in 673 (by decide +kernel) (by decide +kernel), _, _, rfl⟩
theorem mX5_276 : zMLV RX5 276 2 yX2_become cX2_become 2 none 1 := ⟨⟨zT_in 676 (by decide +kernel) (by decide +kernel), zT_in 65 (by decide +kernel) (by decide +kernel), zT_in 340 (by decide +kernel) (by decide +kernel), ⟨by decide +kernel, by decide +kernel, by decide +kernel⟩, by decide⟩, zT_in 338 (by decide +kernel) (by decide +kernel), zT_in 339 (by decide +kernel) (by decide +kernel), _, _, rfl⟩
theorem mX5_279 : zMLV RX5 279 5 yX5_costOfTried cX5_costOfTried 1 (some .int) 0 := ⟨⟨zT_in 677 (by decide +kernel) (by decide +kernel), zT_in 64 (by decide +kernel) (by decide +kernel), zT_in 680 (by decide +kernel) (by decide +kernel), ⟨by decide +kernel, by decide +kernel, by decide +kernel⟩, by decide⟩, zT_in 679 (by decide +kernel) (by decide +kernel), zT_in 18 (by decide +kernel) (by decide +kernel), _, _, rfl⟩
theorem mL_86 : zMLV RL 86 5 yX5_wouldMove cX5_wouldMove 5 (some .int) 3 := ⟨⟨zT_in 681 (by decide +kernel) (by decide +kernel), zT_in 64 (by decide +kernel) (by decide +kernel), zT_in 684 (by decide +kernel) (by decide +kernel), ⟨by decide +kernel, by decide +kernel, by decide +kernel⟩, by decide⟩, zT_in 682 (by decide +kernel) (by decide +kernel), zT_in 683 (by decide +kernel) (by decide +kernel), _, _, rfl⟩
theorem mL_90 : zMLV RL 90 5 yX5_pair cX5_pair 7 (some .int) 3 := ⟨⟨zT_in 685 (by decide +kernel) (by decide +kernel), zT_in 64 (by decide +kernel) (by decide +kernel), zT_in 688 (by decide +kernel) (by decide +kernel), ⟨by decide +kernel, by decide +kernel, by decide +kernel⟩, by decide⟩, zT_in 686 (by decide +kernel) (by decide +kernel), zT_in 687 (by decide +kernel) (by decide +kernel), _, _, rfl⟩
theorem mX5_282 : zMLV RX5 282 5 yX5_costWith cX5_costWith 5 (some .int) 4 := ⟨⟨zT_in 689 (by decide +kernel) (by decide +kernel), zT_in 64 (by decide +kernel) (by decide +kernel), zT_in 692 (by decide +kernel) (by decide +kernel), ⟨by decide +kernel, by decide +kernel, by decide +kernel⟩, by decide⟩, zT_in 691 (by decide +kernel) (by decide +kernel), zT_in 19 (by decide +kernel) (by decide +kernel), _, _, rfl⟩
theorem mX5_310 : zMLV RX5 310 2 yX2_canBeOn cX2_canBeOn 4 (some .boolean) 2 := ⟨⟨zT_in 693 (by decide +kernel) (by decide +kernel), zT_in 65 (by decide +kernel) (by decide +kernel), zT_in 696 (by decide +kernel) (by decide +kernel), ⟨by decide +kernel, by decide +kernel, by decide +kernel⟩, by decide⟩, zT_in 694 (by decide +kernel) (by decide +kernel), zT_in 695 (by decide +kernel) (by decide +kernel), _, _, rfl⟩
theorem mX2_94 : zMLV RX2 94 2 yX2_fixedMaskOf cX2_fixedMaskOf 2 (some .int) 1 := ⟨⟨zT_in 697 (by decide +kernel) (by decide +kernel), zT_in 65 (by decide +kernel) (by decide +kernel), zT_in 478 (by decide +kernel) (by decide +kernel), ⟨by decide +kernel, by decide +kernel, by decide +kernel⟩, by decide⟩, zT_in 476 (by decide +kernel) (by decide +kernel), zT_in 477 (by decide +kernel) (by decide +kernel), _, _, rfl⟩
theorem mL_95 : zMLV RL 95 5 yX5_keep cX5_keep 2 (some .int) 1 := ⟨⟨zT_in 698 (by decide +kernel) (by decide +kernel), zT_in 64 (by decide +kernel) (by decide +kernel), zT_in 701 (by decide +kernel) (by decide +kernel), ⟨by decide +kernel, by decide +kernel, by decide +kernel⟩, by decide⟩, zT_in 699 (by decide +kernel) (by decide +kernel), zT_in 700 (by decide +kernel) (by decide +kernel), _, _, rfl⟩
theorem mX5_285 : zMLV RX5 285 1 yX1_forget cX1_forget 1 none 0 := ⟨⟨zT_in 702 (by decide +kernel) (by decide +kernel), zT_in 69 (by decide +kernel) (by decide +kernel), zT_in 705 (by decide +kernel) (by decide +kernel), ⟨by decide +kernel, by decide +kernel, by decide +kernel⟩, by decide⟩, zT_in 703 (by decide +kernel) (by decide +kernel), zT_in 704 (by decide +kernel) (by decide +kernel), _, _, rfl⟩
theorem mL_99 : zMLV RL 99 5 yX5_goBack cX5_goBack 2 (some .int) 1 := ⟨⟨zT_in 706 (by decide +kernel) (by decide +kernel), zT_in 64 (by decide +kernel) (by decide +kernel), zT_in 709 (by decide +kernel) (by decide +kernel), ⟨by decide +kernel, by decide +kernel, by decide +kernel⟩, by decide⟩, zT_in 707 (by decide +kernel) (by decide +kernel), zT_in 708 (by decide +kernel) (by decide +kernel), _, _, rfl⟩
theorem mL_12 : zMLI RL 12 yX6_init cX6_init 1 0 := ⟨⟨zT_in 712 (by decide +kernel) (by decide +kernel), zT_in 70 (by decide +kernel) (by decide +kernel), zT_in 714 (by decide +kernel) (by decide +kernel), ⟨by decide +kernel, by decide +kernel, by decide +kernel⟩, by decide⟩, zT_in 713 (by decide +kernel) (by decide +kernel), rfl⟩
theorem mX6_1_l : Cond.methodLink RX6 1 Lib.objectInit ∈ zT := zT_in 715 (by decide +kernel) (by decide +kernel)
theorem mL_17 : zMLV RL 17 6 yX6_shape cX6_shape 5 (some .int) 4 := ⟨⟨zT_in 766 (by decide +kernel) (by decide +kernel), zT_in 70 (by decide +kernel) (by decide +kernel), zT_in 769 (by decide +kernel) (by decide +kernel), ⟨by decide +kernel, by decide +kernel, by decide +kernel⟩, by decide⟩, zT_in 767 (by decide +kernel) (by decide +kernel), zT_in 768 (by decide +kernel) (by decide +kernel), _, _, rfl⟩
theorem mX6_128 : zMLS RX6 128 yX6_areBounds cX6_areBounds 4 (some .boolean) 4 := ⟨⟨zT_in 770 (by decide +kernel) (by decide +kernel), zT_in 70 (by decide +kernel) (by decide +kernel), zT_in 772 (by decide +kernel) (by decide +kernel), ⟨by decide +kernel, by decide +kernel, by decide +kernel⟩, by decide⟩, zT_in 771 (by decide +kernel) (by decide +kernel)⟩
theorem mX6_41 : zMLS RX6 41 yX6_in cX6_in 6 (some .boolean) 3 := ⟨⟨zT_in 773 (by decide +kernel) (by decide +kernel), zT_in 70 (by decide +kernel) (by decide +kernel), zT_in 775 (by decide +kernel) (by decide +kernel), ⟨by decide +kernel, by decide +kernel, by decide +kernel⟩, by decide⟩, zT_in 774 (by decide +kernel) (by decide +kernel)⟩
theorem mX6_133 : zMLV RX6 133 6 yX6_isFree cX6_isFree 9 (some .boolean) 5 := ⟨⟨zT_in 778 (by decide +kernel) (by decide +kernel), zT_in 70 (by decide +kernel) (by decide +kernel), zT_in 781 (by decide +kernel) (by decide +kernel), ⟨by decide +kernel, by decide +kernel, by decide +kernel⟩, by decide⟩, zT_in 780 (by decide +kernel) (by decide +kernel), zT_in 20 (by decide +kernel) (by decide +kernel), _, _, rfl⟩
theorem mX6_45 : zMLV RX6 45 6 yX6_part cX6_part 3 (some .int) 2 := ⟨⟨zT_in 782 (by decide +kernel) (by decide +kernel), zT_in 70 (by decide +kernel) (by decide +kernel), zT_in 785 (by decide +kernel) (by decide +kernel), ⟨by decide +kernel, by decide +kernel, by decide +kernel⟩, by decide⟩, zT_in 784 (by decide +kernel) (by decide +kernel), zT_in 21 (by decide +kernel) (by decide +kernel), _, _, rfl⟩
theorem mX6_53 : zMLS RX6 53 yX6_apart cX6_apart 4 (some .int) 4 := ⟨⟨zT_in 786 (by decide +kernel) (by decide +kernel), zT_in 70 (by decide +kernel) (by decide +kernel), zT_in 788 (by decide +kernel) (by decide +kernel), ⟨by decide +kernel, by decide +kernel, by decide +kernel⟩, by decide⟩, zT_in 787 (by decide +kernel) (by decide +kernel)⟩
theorem mX6_138 : zMLV RX6 138 6 yX6_isFull cX6_isFull 1 (some .boolean) 0 := ⟨⟨zT_in 790 (by decide +kernel) (by decide +kernel), zT_in 70 (by decide +kernel) (by decide +kernel), zT_in 793 (by decide +kernel) (by decide +kernel), ⟨by decide +kernel, by decide +kernel, by decide +kernel⟩, by decide⟩, zT_in 792 (by decide +kernel) (by decide +kernel), zT_in 22 (by decide +kernel) (by decide +kernel), _, _, rfl⟩
theorem mX6_121 : zMLV RX6 121 6 yX6_manyPieces cX6_manyPieces 3 (some .int) 0 := ⟨⟨zT_in 794 (by decide +kernel) (by decide +kernel), zT_in 70 (by decide +kernel) (by decide +kernel), zT_in 797 (by decide +kernel) (by decide +kernel), ⟨by decide +kernel, by decide +kernel, by decide +kernel⟩, by decide⟩, zT_in 796 (by decide +kernel) (by decide +kernel), zT_in 23 (by decide +kernel) (by decide +kernel), _, _, rfl⟩
theorem mX6_64 : zMLV RX6 64 6 yX6_cutsOf cX6_cutsOf 2 (some .int) 1 := ⟨⟨zT_in 798 (by decide +kernel) (by decide +kernel), zT_in 70 (by decide +kernel) (by decide +kernel), zT_in 801 (by decide +kernel) (by decide +kernel), ⟨by decide +kernel, by decide +kernel, by decide +kernel⟩, by decide⟩, zT_in 800 (by decide +kernel) (by decide +kernel), zT_in 24 (by decide +kernel) (by decide +kernel), _, _, rfl⟩
theorem mX6_143 : zMLV RX6 143 6 yX6_note cX6_note 2 none 0 := ⟨⟨zT_in 803 (by decide +kernel) (by decide +kernel), zT_in 70 (by decide +kernel) (by decide +kernel), zT_in 806 (by decide +kernel) (by decide +kernel), ⟨by decide +kernel, by decide +kernel, by decide +kernel⟩, by decide⟩, zT_in 805 (by decide +kernel) (by decide +kernel), zT_in 25 (by decide +kernel) (by decide +kernel), _, _, rfl⟩
theorem mX6_146 : zMLV RX6 146 6 yX6_free cX6_free 2 none 0 := ⟨⟨zT_in 807 (by decide +kernel) (by decide +kernel), zT_in 70 (by decide +kernel) (by decide +kernel), zT_in 810 (by decide +kernel) (by decide +kernel), ⟨by decide +kernel, by decide +kernel, by decide +kernel⟩, by decide⟩, zT_in 809 (by decide +kernel) (by decide +kernel), zT_in 26 (by decide +kernel) (by decide +kernel), _, _, rfl⟩
theorem mX6_149 : zMLV RX6 149 6 yX6_addShape cX6_addShape 6 none 4 := ⟨⟨zT_in 811 (by decide +kernel) (by decide +kernel), zT_in 70 (by decide +kernel) (by decide +kernel), zT_in 814 (by decide +kernel) (by decide +kernel), ⟨by decide +kernel, by decide +kernel, by decide +kernel⟩, by decide⟩, zT_in 813 (by decide +kernel) (by decide +kernel), zT_in 27 (by decide +kernel) (by decide +kernel), _, _, rfl⟩
theorem mX6_124 : zMLV RX6 124 6 yX6_put cX6_put 7 none 5 := ⟨⟨zT_in 815 (by decide +kernel) (by decide +kernel), zT_in 70 (by decide +kernel) (by decide +kernel), zT_in 818 (by decide +kernel) (by decide +kernel), ⟨by decide +kernel, by decide +kernel, by decide +kernel⟩, by decide⟩, zT_in 817 (by decide +kernel) (by decide +kernel), zT_in 28 (by decide +kernel) (by decide +kernel), _, _, rfl⟩
theorem mL_22 : zMLV RL 22 6 yX6_drop cX6_drop 3 (some .int) 1 := ⟨⟨zT_in 819 (by decide +kernel) (by decide +kernel), zT_in 70 (by decide +kernel) (by decide +kernel), zT_in 822 (by decide +kernel) (by decide +kernel), ⟨by decide +kernel, by decide +kernel, by decide +kernel⟩, by decide⟩, zT_in 820 (by decide +kernel) (by decide +kernel), zT_in 821 (by decide +kernel) (by decide +kernel), _, _, rfl⟩
theorem mX6_153 : zMLV RX6 153 6 yX6_isShape cX6_isShape 2 (some .boolean) 1 := ⟨⟨zT_in 823 (by decide +kernel) (by decide +kernel), zT_in 70 (by decide +kernel) (by decide +kernel), zT_in 826 (by decide +kernel) (by decide +kernel), ⟨by decide +kernel, by decide +kernel, by decide +kernel⟩, by decide⟩, zT_in 825 (by decide +kernel) (by decide +kernel), zT_in 29 (by decide +kernel) (by decide +kernel), _, _, rfl⟩
theorem mL_27 : zMLV RL 27 6 yX6_move cX6_move 4 (some .int) 3 := ⟨⟨zT_in 828 (by decide +kernel) (by decide +kernel), zT_in 70 (by decide +kernel) (by decide +kernel), zT_in 831 (by decide +kernel) (by decide +kernel), ⟨by decide +kernel, by decide +kernel, by decide +kernel⟩, by decide⟩, zT_in 829 (by decide +kernel) (by decide +kernel), zT_in 830 (by decide +kernel) (by decide +kernel), _, _, rfl⟩
theorem mX6_159 : zMLS RX6 159 yX6_areSteps cX6_areSteps 2 (some .boolean) 2 := ⟨⟨zT_in 832 (by decide +kernel) (by decide +kernel), zT_in 70 (by decide +kernel) (by decide +kernel), zT_in 834 (by decide +kernel) (by decide +kernel), ⟨by decide +kernel, by decide +kernel, by decide +kernel⟩, by decide⟩, zT_in 833 (by decide +kernel) (by decide +kernel)⟩
theorem mX6_162 : zMLV RX6 162 6 yX6_mayMove cX6_mayMove 8 (some .boolean) 3 := ⟨⟨zT_in 836 (by decide +kernel) (by decide +kernel), zT_in 70 (by decide +kernel) (by decide +kernel), zT_in 839 (by decide +kernel) (by decide +kernel), ⟨by decide +kernel, by decide +kernel, by decide +kernel⟩, by decide⟩, zT_in 838 (by decide +kernel) (by decide +kernel), zT_in 30 (by decide +kernel) (by decide +kernel), _, _, rfl⟩
theorem mX6_166 : zMLV RX6 166 6 yX6_doMove cX6_doMove 5 none 3 := ⟨⟨zT_in 840 (by decide +kernel) (by decide +kernel), zT_in 70 (by decide +kernel) (by decide +kernel), zT_in 843 (by decide +kernel) (by decide +kernel), ⟨by decide +kernel, by decide +kernel, by decide +kernel⟩, by decide⟩, zT_in 842 (by decide +kernel) (by decide +kernel), zT_in 31 (by decide +kernel) (by decide +kernel), _, _, rfl⟩
theorem mX6_169 : zMLV RX6 169 6 yX6_shapeArea cX6_shapeArea 2 (some .int) 1 := ⟨⟨zT_in 844 (by decide +kernel) (by decide +kernel), zT_in 70 (by decide +kernel) (by decide +kernel), zT_in 847 (by decide +kernel) (by decide +kernel), ⟨by decide +kernel, by decide +kernel, by decide +kernel⟩, by decide⟩, zT_in 846 (by decide +kernel) (by decide +kernel), zT_in 32 (by decide +kernel) (by decide +kernel), _, _, rfl⟩
theorem mL_32 : zMLV RL 32 6 yX6_cut cX6_cut 3 (some .int) 2 := ⟨⟨zT_in 848 (by decide +kernel) (by decide +kernel), zT_in 70 (by decide +kernel) (by decide +kernel), zT_in 851 (by decide +kernel) (by decide +kernel), ⟨by decide +kernel, by decide +kernel, by decide +kernel⟩, by decide⟩, zT_in 849 (by decide +kernel) (by decide +kernel), zT_in 850 (by decide +kernel) (by decide +kernel), _, _, rfl⟩
theorem mX6_174 : zMLV RX6 174 6 yX6_mayCut cX6_mayCut 3 (some .boolean) 2 := ⟨⟨zT_in 853 (by decide +kernel) (by decide +kernel), zT_in 70 (by decide +kernel) (by decide +kernel), zT_in 856 (by decide +kernel) (by decide +kernel), ⟨by decide +kernel, by decide +kernel, by decide +kernel⟩, by decide⟩, zT_in 855 (by decide +kernel) (by decide +kernel), zT_in 33 (by decide +kernel) (by decide +kernel), _, _, rfl⟩
theorem mX6_177 : zMLV RX6 177 6 yX6_doCut cX6_doCut 4 none 2 := ⟨⟨zT_in 857 (by decide +kernel) (by decide +kernel), zT_in 70 (by decide +kernel) (by decide +kernel), zT_in 860 (by decide +kernel) (by decide +kernel), ⟨by decide +kernel, by decide +kernel, by decide +kernel⟩, by decide⟩, zT_in 859 (by decide +kernel) (by decide +kernel), zT_in 34 (by decide +kernel) (by decide +kernel), _, _, rfl⟩
theorem mL_36 : zMLV RL 36 6 yX6_heal cX6_heal 4 (some .int) 2 := ⟨⟨zT_in 861 (by decide +kernel) (by decide +kernel), zT_in 70 (by decide +kernel) (by decide +kernel), zT_in 864 (by decide +kernel) (by decide +kernel), ⟨by decide +kernel, by decide +kernel, by decide +kernel⟩, by decide⟩, zT_in 862 (by decide +kernel) (by decide +kernel), zT_in 863 (by decide +kernel) (by decide +kernel), _, _, rfl⟩
theorem mL_40 : zMLV RL 40 6 yX6_bound cX6_bound 4 (some .int) 2 := ⟨⟨zT_in 865 (by decide +kernel) (by decide +kernel), zT_in 70 (by decide +kernel) (by decide +kernel), zT_in 868 (by decide +kernel) (by decide +kernel), ⟨by decide +kernel, by decide +kernel, by decide +kernel⟩, by decide⟩, zT_in 866 (by decide +kernel) (by decide +kernel), zT_in 867 (by decide +kernel) (by decide +kernel), _, _, rfl⟩
theorem mL_44 : zMLV RL 44 6 yX6_fix cX6_fix 3 (some .int) 2 := ⟨⟨zT_in 873 (by decide +kernel) (by decide +kernel), zT_in 70 (by decide +kernel) (by decide +kernel), zT_in 876 (by decide +kernel) (by decide +kernel), ⟨by decide +kernel, by decide +kernel, by decide +kernel⟩, by decide⟩, zT_in 874 (by decide +kernel) (by decide +kernel), zT_in 875 (by decide +kernel) (by decide +kernel), _, _, rfl⟩
theorem mX6_191 : zMLV RX6 191 6 yX6_costOfBest cX6_costOfBest 1 (some .int) 0 := ⟨⟨zT_in 878 (by decide +kernel) (by decide +kernel), zT_in 70 (by decide +kernel) (by decide +kernel), zT_in 881 (by decide +kernel) (by decide +kernel), ⟨by decide +kernel, by decide +kernel, by decide +kernel⟩, by decide⟩, zT_in 880 (by decide +kernel) (by decide +kernel), zT_in 35 (by decide +kernel) (by decide +kernel), _, _, rfl⟩
theorem mX6_113 : zMLV RX6 113 6 yX6_judgeAll cX6_judgeAll 7 none 0 := ⟨⟨zT_in 882 (by decide +kernel) (by decide +kernel), zT_in 70 (by decide +kernel) (by decide +kernel), zT_in 885 (by decide +kernel) (by decide +kernel), ⟨by decide +kernel, by decide +kernel, by decide +kernel⟩, by decide⟩, zT_in 884 (by decide +kernel) (by decide +kernel), zT_in 36 (by decide +kernel) (by decide +kernel), _, _, rfl⟩
theorem mX6_88 : zMLV RX6 88 6 yX6_lay cX6_lay 4 none 0 := ⟨⟨zT_in 886 (by decide +kernel) (by decide +kernel), zT_in 70 (by decide +kernel) (by decide +kernel), zT_in 889 (by decide +kernel) (by decide +kernel), ⟨by decide +kernel, by decide +kernel, by decide +kernel⟩, by decide⟩, zT_in 888 (by decide +kernel) (by decide +kernel), zT_in 37 (by decide +kernel) (by decide +kernel), _, _, rfl⟩
theorem mX6_57 : zMLV RX6 57 6 yX6_addPiece cX6_addPiece 4 none 3 := ⟨⟨zT_in 890 (by decide +kernel) (by decide +kernel), zT_in 70 (by decide +kernel) (by decide +kernel), zT_in 893 (by decide +kernel) (by decide +kernel), ⟨by decide +kernel, by decide +kernel, by decide +kernel⟩, by decide⟩, zT_in 892 (by decide +kernel) (by decide +kernel), zT_in 38 (by decide +kernel) (by decide +kernel), _, _, rfl⟩
theorem mX6_61 : zMLV RX6 61 6 yX6_gapOf cX6_gapOf 5 (some .int) 2 := ⟨⟨zT_in 894 (by decide +kernel) (by decide +kernel), zT_in 70 (by decide +kernel) (by decide +kernel), zT_in 897 (by decide +kernel) (by decide +kernel), ⟨by decide +kernel, by decide +kernel, by decide +kernel⟩, by decide⟩, zT_in 896 (by decide +kernel) (by decide +kernel), zT_in 39 (by decide +kernel) (by decide +kernel), _, _, rfl⟩
theorem mX6_72 : zMLV RX6 72 6 yX6_all cX6_all 1 (some .int) 0 := ⟨⟨zT_in 898 (by decide +kernel) (by decide +kernel), zT_in 70 (by decide +kernel) (by decide +kernel), zT_in 901 (by decide +kernel) (by decide +kernel), ⟨by decide +kernel, by decide +kernel, by decide +kernel⟩, by decide⟩, zT_in 900 (by decide +kernel) (by decide +kernel), zT_in 40 (by decide +kernel) (by decide +kernel), _, _, rfl⟩
theorem mX6_100 : zMLV RX6 100 6 yX6_areaOn cX6_areaOn 4 (some .int) 1 := ⟨⟨zT_in 902 (by decide +kernel) (by decide +kernel), zT_in 70 (by decide +kernel) (by decide +kernel), zT_in 905 (by decide +kernel) (by decide +kernel), ⟨by decide +kernel, by decide +kernel, by decide +kernel⟩, by decide⟩, zT_in 904 (by decide +kernel) (by decide +kernel), zT_in 41 (by decide +kernel) (by decide +kernel), _, _, rfl⟩
theorem mX6_68 : zMLS RX6 68 yX6_has cX6_has 2 (some .boolean) 2 := ⟨⟨zT_in 906 (by decide +kernel) (by decide +kernel), zT_in 70 (by decide +kernel) (by decide +kernel), zT_in 908 (by decide +kernel) (by decide +kernel), ⟨by decide +kernel, by decide +kernel, by decide +kernel⟩, by decide⟩, zT_in 907 (by decide +kernel) (by decide +kernel)⟩
theorem mX6_85 : zMLV RX6 85 6 yX6_areaOf cX6_areaOf 2 (some .int) 1 := ⟨⟨zT_in 909 (by decide +kernel) (by decide +kernel), zT_in 70 (by decide +kernel) (by decide +kernel), zT_in 912 (by decide +kernel) (by decide +kernel), ⟨by decide +kernel, by decide +kernel, by decide +kernel⟩, by decide⟩, zT_in 911 (by decide +kernel) (by decide +kernel), zT_in 42 (by decide +kernel) (by decide +kernel), _, _, rfl⟩
theorem mX6_103 : zMLV RX6 103 6 yX6_areFixed cX6_areFixed 4 (some .boolean) 1 := ⟨⟨zT_in 913 (by decide +kernel) (by decide +kernel), zT_in 70 (by decide +kernel) (by decide +kernel), zT_in 916 (by decide +kernel) (by decide +kernel), ⟨by decide +kernel, by decide +kernel, by decide +kernel⟩, by decide⟩, zT_in 915 (by decide +kernel) (by decide +kernel), zT_in 43 (by decide +kernel) (by decide +kernel), _, _, rfl⟩
theorem mX6_107 : zMLV RX6 107 6 yX6_costOf cX6_costOf 2 (some .int) 1 := ⟨⟨zT_in 917 (by decide +kernel) (by decide +kernel), zT_in 70 (by decide +kernel) (by decide +kernel), zT_in 920 (by decide +kernel) (by decide +kernel), ⟨by decide +kernel, by decide +kernel, by decide +kernel⟩, by decide⟩, zT_in 919 (by decide +kernel) (by decide +kernel), zT_in 44 (by decide +kernel) (by decide +kernel), _, _, rfl⟩
theorem mX6_79 : zMLV RX6 79 6 yX6_clashesOf cX6_clashesOf 5 (some .int) 1 := ⟨⟨zT_in 921 (by decide +kernel) (by decide +kernel), zT_in 70 (by decide +kernel) (by decide +kernel), zT_in 924 (by decide +kernel) (by decide +kernel), ⟨by decide +kernel, by decide +kernel, by decide +kernel⟩, by decide⟩, zT_in 923 (by decide +kernel) (by decide +kernel), zT_in 45 (by decide +kernel) (by decide +kernel), _, _, rfl⟩
theorem mX6_76 : zMLS RX6 76 yX6_ones cX6_ones 3 (some .int) 1 := ⟨⟨zT_in 925 (by decide +kernel) (by decide +kernel), zT_in 70 (by decide +kernel) (by decide +kernel), zT_in 927 (by decide +kernel) (by decide +kernel), ⟨by decide +kernel, by decide +kernel, by decide +kernel⟩, by decide⟩, zT_in 926 (by decide +kernel) (by decide +kernel)⟩
theorem mX6_82 : zMLV RX6 82 6 yX6_stitchesOf cX6_stitchesOf 5 (some .int) 1 := ⟨⟨zT_in 928 (by decide +kernel) (by decide +kernel), zT_in 70 (by decide +kernel) (by decide +kernel), zT_in 931 (by decide +kernel) (by decide +kernel), ⟨by decide +kernel, by decide +kernel, by decide +kernel⟩, by decide⟩, zT_in 930 (by decide +kernel) (by decide +kernel), zT_in 46 (by decide +kernel) (by decide +kernel), _, _, rfl⟩
theorem mX6_110 : zMLS RX6 110 yX6_isFirst cX6_isFirst 3 (some .boolean) 2 := ⟨⟨zT_in 932 (by decide +kernel) (by decide +kernel), zT_in 70 (by decide +kernel) (by decide +kernel), zT_in 934 (by decide +kernel) (by decide +kernel), ⟨by decide +kernel, by decide +kernel, by decide +kernel⟩, by decide⟩, zT_in 933 (by decide +kernel) (by decide +kernel)⟩
theorem mL_49 : zMLV RL 49 6 yX6_turn cX6_turn 5 (some .int) 0 := ⟨⟨zT_in 935 (by decide +kernel) (by decide +kernel), zT_in 70 (by decide +kernel) (by decide +kernel), zT_in 938 (by decide +kernel) (by decide +kernel), ⟨by decide +kernel, by decide +kernel, by decide +kernel⟩, by decide⟩, zT_in 936 (by decide +kernel) (by decide +kernel), zT_in 937 (by decide +kernel) (by decide +kernel), _, _, rfl⟩
theorem mL_53 : zMLV RL 53 6 yX6_drift cX6_drift 8 (some .int) 2 := ⟨⟨zT_in 939 (by decide +kernel) (by decide +kernel), zT_in 70 (by decide +kernel) (by decide +kernel), zT_in 942 (by decide +kernel) (by decide +kernel), ⟨by decide +kernel, by decide +kernel, by decide +kernel⟩, by decide⟩, zT_in 940 (by decide +kernel) (by decide +kernel), zT_in 941 (by decide +kernel) (by decide +kernel), _, _, rfl⟩
theorem mX6_206 : zMLV RX6 206 6 yX6_lotOf cX6_lotOf 2 (some .int) 1 := ⟨⟨zT_in 945 (by decide +kernel) (by decide +kernel), zT_in 70 (by decide +kernel) (by decide +kernel), zT_in 948 (by decide +kernel) (by decide +kernel), ⟨by decide +kernel, by decide +kernel, by decide +kernel⟩, by decide⟩, zT_in 947 (by decide +kernel) (by decide +kernel), zT_in 47 (by decide +kernel) (by decide +kernel), _, _, rfl⟩
theorem mL_57 : zMLV RL 57 6 yX6_undo cX6_undo 2 (some .int) 0 := ⟨⟨zT_in 951 (by decide +kernel) (by decide +kernel), zT_in 70 (by decide +kernel) (by decide +kernel), zT_in 954 (by decide +kernel) (by decide +kernel), ⟨by decide +kernel, by decide +kernel, by decide +kernel⟩, by decide⟩, zT_in 952 (by decide +kernel) (by decide +kernel), zT_in 953 (by decide +kernel) (by decide +kernel), _, _, rfl⟩
theorem mL_61 : zMLV RL 61 6 yX6_told cX6_told 2 (some .int) 1 := ⟨⟨zT_in 955 (by decide +kernel) (by decide +kernel), zT_in 70 (by decide +kernel) (by decide +kernel), zT_in 958 (by decide +kernel) (by decide +kernel), ⟨by decide +kernel, by decide +kernel, by decide +kernel⟩, by decide⟩, zT_in 956 (by decide +kernel) (by decide +kernel), zT_in 957 (by decide +kernel) (by decide +kernel), _, _, rfl⟩
theorem mX6_245 : zMLV RX6 245 6 yX6_toldBest cX6_toldBest 2 (some .int) 1 := ⟨⟨zT_in 962 (by decide +kernel) (by decide +kernel), zT_in 70 (by decide +kernel) (by decide +kernel), zT_in 965 (by decide +kernel) (by decide +kernel), ⟨by decide +kernel, by decide +kernel, by decide +kernel⟩, by decide⟩, zT_in 964 (by decide +kernel) (by decide +kernel), zT_in 48 (by decide +kernel) (by decide +kernel), _, _, rfl⟩
theorem mX6_252 : zMLV RX6 252 6 yX6_toldParts cX6_toldParts 2 (some .int) 1 := ⟨⟨zT_in 968 (by decide +kernel) (by decide +kernel), zT_in 70 (by decide +kernel) (by decide +kernel), zT_in 971 (by decide +kernel) (by decide +kernel), ⟨by decide +kernel, by decide +kernel, by decide +kernel⟩, by decide⟩, zT_in 970 (by decide +kernel) (by decide +kernel), zT_in 49 (by decide +kernel) (by decide +kernel), _, _, rfl⟩
theorem mX6_218 : zMLV RX6 218 6 yX6_parts cX6_parts 4 (some .int) 0 := ⟨⟨zT_in 972 (by decide +kernel) (by decide +kernel), zT_in 70 (by decide +kernel) (by decide +kernel), zT_in 975 (by decide +kernel) (by decide +kernel), ⟨by decide +kernel, by decide +kernel, by decide +kernel⟩, by decide⟩, zT_in 974 (by decide +kernel) (by decide +kernel), zT_in 50 (by decide +kernel) (by decide +kernel), _, _, rfl⟩
theorem mX6_212 : zMLV RX6 212 6 yX6_partOf cX6_partOf 2 (some .int) 1 := ⟨⟨zT_in 976 (by decide +kernel) (by decide +kernel), zT_in 70 (by decide +kernel) (by decide +kernel), zT_in 979 (by decide +kernel) (by decide +kernel), ⟨by decide +kernel, by decide +kernel, by decide +kernel⟩, by decide⟩, zT_in 978 (by decide +kernel) (by decide +kernel), zT_in 51 (by decide +kernel) (by decide +kernel), _, _, rfl⟩
theorem mX6_209 : zMLV RX6 209 6 yX6_hang cX6_hang 9 (some .int) 4 := ⟨⟨zT_in 980 (by decide +kernel) (by decide +kernel), zT_in 70 (by decide +kernel) (by decide +kernel), zT_in 983 (by decide +kernel) (by decide +kernel), ⟨by decide +kernel, by decide +kernel, by decide +kernel⟩, by decide⟩, zT_in 982 (by decide +kernel) (by decide +kernel), zT_in 52 (by decide +kernel) (by decide +kernel), _, _, rfl⟩
theorem mX6_221 : zMLV RX6 221 6 yX6_odd cX6_odd 7 (some .int) 1 := ⟨⟨zT_in 984 (by decide +kernel) (by decide +kernel), zT_in 70 (by decide +kernel) (by decide +kernel), zT_in 987 (by decide +kernel) (by decide +kernel), ⟨by decide +kernel, by decide +kernel, by decide +kernel⟩, by decide⟩, zT_in 986 (by decide +kernel) (by decide +kernel), zT_in 53 (by decide +kernel) (by decide +kernel), _, _, rfl⟩
theorem mX6_215 : zMLV RX6 215 6 yX6_ringOf cX6_ringOf 8 (some .int) 1 := ⟨⟨zT_in 988 (by decide +kernel) (by decide +kernel), zT_in 70 (by decide +kernel) (by decide +kernel), zT_in 991 (by decide +kernel) (by decide +kernel), ⟨by decide +kernel, by decide +kernel, by decide +kernel⟩, by decide⟩, zT_in 990 (by decide +kernel) (by decide +kernel), zT_in 54 (by decide +kernel) (by decide +kernel), _, _, rfl⟩
theorem mX6_224 : zMLV RX6 224 6 yX6_core cX6_core 4 (some .int) 0 := ⟨⟨zT_in 992 (by decide +kernel) (by decide +kernel), zT_in 70 (by decide +kernel) (by decide +kernel), zT_in 995 (by decide +kernel) (by decide +kernel), ⟨by decide +kernel, by decide +kernel, by decide +kernel⟩, by decide⟩, zT_in 994 (by decide +kernel) (by decide +kernel), zT_in 55 (by decide +kernel) (by decide +kernel), _, _, rfl⟩
theorem mX6_227 : zMLV RX6 227 6 yX6_bridges cX6_bridges 4 (some .int) 0 := ⟨⟨zT_in 996 (by decide +kernel) (by decide +kernel), zT_in 70 (by decide +kernel) (by decide +kernel), zT_in 999 (by decide +kernel) (by decide +kernel), ⟨by decide +kernel, by decide +kernel, by decide +kernel⟩, by decide⟩, zT_in 998 (by decide +kernel) (by decide +kernel), zT_in 56 (by decide +kernel) (by decide +kernel), _, _, rfl⟩
theorem mX6_230 : zMLV RX6 230 6 yX6_hinges cX6_hinges 5 (some .int) 0 := ⟨⟨zT_in 1000 (by decide +kernel) (by decide +kernel), zT_in 70 (by decide +kernel) (by decide +kernel), zT_in 1003 (by decide +kernel) (by decide +kernel), ⟨by decide +kernel, by decide +kernel, by decide +kernel⟩, by decide⟩, zT_in 1002 (by decide +kernel) (by decide +kernel), zT_in 57 (by decide +kernel) (by decide +kernel), _, _, rfl⟩
theorem mX6_233 : zMLV RX6 233 6 yX6_closePairs cX6_closePairs 3 (some .int) 0 := ⟨⟨zT_in 1004 (by decide +kernel) (by decide +kernel), zT_in 70 (by decide +kernel) (by decide +kernel), zT_in 1007 (by decide +kernel) (by decide +kernel), ⟨by decide +kernel, by decide +kernel, by decide +kernel⟩, by decide⟩, zT_in 1006 (by decide +kernel) (by decide +kernel), zT_in 58 (by decide +kernel) (by decide +kernel), _, _, rfl⟩
theorem mX6_236 : zMLV RX6 236 6 yX6_fixedSet cX6_fixedSet 3 (some .int) 0 := ⟨⟨zT_in 1008 (by decide +kernel) (by decide +kernel), zT_in 70 (by decide +kernel) (by decide +kernel), zT_in 1011 (by decide +kernel) (by decide +kernel), ⟨by decide +kernel, by decide +kernel, by decide +kernel⟩, by decide⟩, zT_in 1010 (by decide +kernel) (by decide +kernel), zT_in 59 (by decide +kernel) (by decide +kernel), _, _, rfl⟩
theorem mL_65 : zMLV RL 65 6 yX6_ofShape cX6_ofShape 3 (some .int) 2 := ⟨⟨zT_in 1012 (by decide +kernel) (by decide +kernel), zT_in 70 (by decide +kernel) (by decide +kernel), zT_in 1015 (by decide +kernel) (by decide +kernel), ⟨by decide +kernel, by decide +kernel, by decide +kernel⟩, by decide⟩, zT_in 1013 (by decide +kernel) (by decide +kernel), zT_in 1014 (by decide +kernel) (by decide +kernel), _, _, rfl⟩
theorem mX6_255 : zMLV RX6 255 6 yX6_firstPiece cX6_firstPiece 4 (some .int) 1 := ⟨⟨zT_in 1016 (by decide +kernel) (by decide +kernel), zT_in 70 (by decide +kernel) (by decide +kernel), zT_in 1019 (by decide +kernel) (by decide +kernel), ⟨by decide +kernel, by decide +kernel, by decide +kernel⟩, by decide⟩, zT_in 1018 (by decide +kernel) (by decide +kernel), zT_in 60 (by decide +kernel) (by decide +kernel), _, _, rfl⟩
theorem mL_69 : zMLV RL 69 6 yX6_ofPiece cX6_ofPiece 3 (some .int) 2 := ⟨⟨zT_in 1020 (by decide +kernel) (by decide +kernel), zT_in 70 (by decide +kernel) (by decide +kernel), zT_in 1023 (by decide +kernel) (by decide +kernel), ⟨by decide +kernel, by decide +kernel, by decide +kernel⟩, by decide⟩, zT_in 1021 (by decide +kernel) (by decide +kernel), zT_in 1022 (by decide +kernel) (by decide +kernel), _, _, rfl⟩
theorem mL_73 : zMLV RL 73 6 yX6_gap cX6_gap 3 (some .int) 2 := ⟨⟨zT_in 1024 (by decide +kernel) (by decide +kernel), zT_in 70 (by decide +kernel) (by decide +kernel), zT_in 1027 (by decide +kernel) (by decide +kernel), ⟨by decide +kernel, by decide +kernel, by decide +kernel⟩, by decide⟩, zT_in 1025 (by decide +kernel) (by decide +kernel), zT_in 1026 (by decide +kernel) (by decide +kernel), _, _, rfl⟩
theorem mX6_258 : zMLV RX6 258 6 yX6_areTwo cX6_areTwo 3 (some .boolean) 2 := ⟨⟨zT_in 1028 (by decide +kernel) (by decide +kernel), zT_in 70 (by decide +kernel) (by decide +kernel), zT_in 1031 (by decide +kernel) (by decide +kernel), ⟨by decide +kernel, by decide +kernel, by decide +kernel⟩, by decide⟩, zT_in 1030 (by decide +kernel) (by decide +kernel), zT_in 61 (by decide +kernel) (by decide +kernel), _, _, rfl⟩
theorem mL_77 : zMLV RL 77 6 yX6_at cX6_at 6 (some .int) 2 := ⟨⟨zT_in 1032 (by decide +kernel) (by decide +kernel), zT_in 70 (by decide +kernel) (by decide +kernel), zT_in 1035 (by decide +kernel) (by decide +kernel), ⟨by decide +kernel, by decide +kernel, by decide +kernel⟩, by decide⟩, zT_in 1033 (by decide +kernel) (by decide +kernel), zT_in 1034 (by decide +kernel) (by decide +kernel), _, _, rfl⟩
theorem mL_81 : zMLV RL 81 6 yX6_judge cX6_judge 2 (some .int) 1 := ⟨⟨zT_in 1036 (by decide +kernel) (by decide +kernel), zT_in 70 (by decide +kernel) (by decide +kernel), zT_in 1039 (by decide +kernel) (by decide +kernel), ⟨by decide +kernel, by decide +kernel, by decide +kernel⟩, by decide⟩, zT_in 1037 (by decide +kernel) (by decide +kernel), zT_in 1038 (by decide +kernel) (by decide +kernel), _, _, rfl⟩
theorem mL_85 : zMLV RL 85 6 yX6_wouldCut cX6_wouldCut 4 (some .int) 2 := ⟨⟨zT_in 1040 (by decide +kernel) (by decide +kernel), zT_in 70 (by decide +kernel) (by decide +kernel), zT_in 1043 (by decide +kernel) (by decide +kernel), ⟨by decide +kernel, by decide +kernel, by decide +kernel⟩, by decide⟩, zT_in 1041 (by decide +kernel) (by decide +kernel), zT_in 1042 (by decide +kernel) (by decide +kernel), _, _, rfl⟩
theorem mX6_261 : zMLV RX6 261 6 yX6_putAside cX6_putAside 3 none 1 := ⟨⟨zT_in 1044 (by decide +kernel) (by decide +kernel), zT_in 70 (by decide +kernel) (by decide +kernel), zT_in 1047 (by decide +kernel) (by decide +kernel), ⟨by decide +kernel, by decide +kernel, by decide +kernel⟩, by decide⟩, zT_in 1046 (by decide +kernel) (by decide +kernel), zT_in 62 (by decide +kernel) (by decide +kernel), _, _, rfl⟩
theorem mL_89 : zMLV RL 89 6 yX6_wouldMove cX6_wouldMove 5 (some .int) 3 := ⟨⟨zT_in 1048 (by decide +kernel) (by decide +kernel), zT_in 70 (by decide +kernel) (by decide +kernel), zT_in 1051 (by decide +kernel) (by decide +kernel), ⟨by decide +kernel, by decide +kernel, by decide +kernel⟩, by decide⟩, zT_in 1049 (by decide +kernel) (by decide +kernel), zT_in 1050 (by decide +kernel) (by decide +kernel), _, _, rfl⟩
theorem mL_94 : zMLV RL 94 6 yX6_pair cX6_pair 7 (some .int) 3 := ⟨⟨zT_in 1052 (by decide +kernel) (by decide +kernel), zT_in 70 (by decide +kernel) (by decide +kernel), zT_in 1055 (by decide +kernel) (by decide +kernel), ⟨by decide +kernel, by decide +kernel, by decide +kernel⟩, by decide⟩, zT_in 1053 (by decide +kernel) (by decide +kernel), zT_in 1054 (by decide +kernel) (by decide +kernel), _, _, rfl⟩
theorem mL_98 : zMLV RL 98 6 yX6_keep cX6_keep 3 (some .int) 1 := ⟨⟨zT_in 1056 (by decide +kernel) (by decide +kernel), zT_in 70 (by decide +kernel) (by decide +kernel), zT_in 1059 (by decide +kernel) (by decide +kernel), ⟨by decide +kernel, by decide +kernel, by decide +kernel⟩, by decide⟩, zT_in 1057 (by decide +kernel) (by decide +kernel), zT_in 1058 (by decide +kernel) (by decide +kernel), _, _, rfl⟩
theorem mL_102 : zMLV RL 102 6 yX6_goBack cX6_goBack 3 (some .int) 1 := ⟨⟨zT_in 1060 (by decide +kernel) (by decide +kernel), zT_in 70 (by decide +kernel) (by decide +kernel), zT_in 1063 (by decide +kernel) (by decide +kernel), ⟨by decide +kernel, by decide +kernel, by decide +kernel⟩, by decide⟩, zT_in 1061 (by decide +kernel) (by decide +kernel), zT_in 1062 (by decide +kernel) (by decide +kernel), _, _, rfl⟩
theorem kX2_69 : Cond.constant RX2 69 (-1000000002) ∈ zT := zT_in 312 (by decide +kernel) (by decide +kernel)
theorem kX2_74 : Cond.constant RX2 74 (-1000000003) ∈ zT := zT_in 317 (by decide +kernel) (by decide +kernel)
theorem kJ6_265 : Cond.constant RJ6 265 (1431655765) ∈ zT := zT_in 329 (by decide +kernel) (by decide +kernel)
theorem kJ6_266 : Cond.constant RJ6 266 (858993459) ∈ zT := zT_in 330 (by decide +kernel) (by decide +kernel)
theorem kJ6_267 : Cond.constant RJ6 267 (252645135) ∈ zT := zT_in 331 (by decide +kernel) (by decide +kernel)
theorem kX2_79 : Cond.constant RX2 79 (-1000000004) ∈ zT := zT_in 332 (by decide +kernel) (by decide +kernel)
theorem kX5_94 : Cond.constant RX5 94 (-1000000001) ∈ zT := zT_in 405 (by decide +kernel) (by decide +kernel)
theorem kX2_80 : Cond.constant RX2 80 (-1000000001) ∈ zT := zT_in 419 (by decide +kernel) (by decide +kernel)
theorem kX5_129 : Cond.constant RX5 129 (-1000000002) ∈ zT := zT_in 461 (by decide +kernel) (by decide +kernel)
theorem kX5_146 : Cond.constant RX5 146 (-1000000003) ∈ zT := zT_in 479 (by decide +kernel) (by decide +kernel)
theorem kX0_47 : Cond.constant RX0 47 (1000000000) ∈ zT := zT_in 500 (by decide +kernel) (by decide +kernel)
theorem kX5_160 : Cond.constant RX5 160 (999999) ∈ zT := zT_in 543 (by decide +kernel) (by decide +kernel)
theorem kX5_313 : Cond.constantLong RX5 313 (16807) ∈ zT := zT_in 548 (by decide +kernel) (by decide +kernel)
theorem kX5_315 : Cond.constantLong RX5 315 (2147483647) ∈ zT := zT_in 549 (by decide +kernel) (by decide +kernel)
theorem kX5_275 : Cond.constant RX5 275 (-1000000004) ∈ zT := zT_in 675 (by decide +kernel) (by decide +kernel)
theorem kX6_119 : Cond.constantLong RX6 119 (15) ∈ zT := zT_in 776 (by decide +kernel) (by decide +kernel)
theorem kX6_132 : Cond.constant RX6 132 (-1000000002) ∈ zT := zT_in 777 (by decide +kernel) (by decide +kernel)
theorem kX6_137 : Cond.constant RX6 137 (-1000000003) ∈ zT := zT_in 789 (by decide +kernel) (by decide +kernel)
theorem kX6_142 : Cond.constant RX6 142 (-1000000004) ∈ zT := zT_in 802 (by decide +kernel) (by decide +kernel)
theorem kX6_156 : Cond.constant RX6 156 (-1000000001) ∈ zT := zT_in 827 (by decide +kernel) (by decide +kernel)
theorem kX6_157 : Cond.constantLong RX6 157 (-15) ∈ zT := zT_in 835 (by decide +kernel) (by decide +kernel)
theorem kX6_172 : Cond.constantLong RX6 172 (14) ∈ zT := zT_in 852 (by decide +kernel) (by decide +kernel)
theorem kX6_181 : Cond.constantLong RX6 181 (2) ∈ zT := zT_in 869 (by decide +kernel) (by decide +kernel)
theorem kX6_183 : Cond.constantLong RX6 183 (8) ∈ zT := zT_in 870 (by decide +kernel) (by decide +kernel)
theorem kX6_185 : Cond.constantLong RX6 185 (9) ∈ zT := zT_in 871 (by decide +kernel) (by decide +kernel)
theorem kX6_187 : Cond.constantLong RX6 187 (99) ∈ zT := zT_in 872 (by decide +kernel) (by decide +kernel)
theorem kX6_189 : Cond.constantLong RX6 189 (-1) ∈ zT := zT_in 877 (by decide +kernel) (by decide +kernel)
theorem kX6_202 : Cond.constantLong RX6 202 (20) ∈ zT := zT_in 943 (by decide +kernel) (by decide +kernel)
theorem kX6_204 : Cond.constantLong RX6 204 (999999) ∈ zT := zT_in 944 (by decide +kernel) (by decide +kernel)
theorem kX6_198 : Cond.constantLong RX6 198 (16807) ∈ zT := zT_in 949 (by decide +kernel) (by decide +kernel)
theorem kX6_200 : Cond.constantLong RX6 200 (2147483647) ∈ zT := zT_in 950 (by decide +kernel) (by decide +kernel)
theorem kX6_239 : Cond.constantLong RX6 239 (4) ∈ zT := zT_in 959 (by decide +kernel) (by decide +kernel)
theorem kX6_241 : Cond.constantLong RX6 241 (5) ∈ zT := zT_in 960 (by decide +kernel) (by decide +kernel)
theorem kX6_243 : Cond.constantLong RX6 243 (10) ∈ zT := zT_in 961 (by decide +kernel) (by decide +kernel)
theorem kX6_248 : Cond.constantLong RX6 248 (11) ∈ zT := zT_in 966 (by decide +kernel) (by decide +kernel)
theorem kX6_250 : Cond.constantLong RX6 250 (18) ∈ zT := zT_in 967 (by decide +kernel) (by decide +kernel)
theorem zMath_s_max : Cond.static Lib.Math.max.name ∈ zT := zT_in 398 (by decide +kernel) (by decide +kernel)
theorem zMath_s_min : Cond.static Lib.Math.min.name ∈ zT := zT_in 345 (by decide +kernel) (by decide +kernel)
theorem zMath_s_abs : Cond.static Lib.Math.abs.name ∈ zT := zT_in 509 (by decide +kernel) (by decide +kernel)
theorem zMath_i : Cond.initialized "java/lang/Math" ∈ zT := zT_in 73 (by decide +kernel) (by decide +kernel)
theorem zMath_c_max : Cond.code Lib.Math.max.name Lib.Math.max.code 2 (some .int) ∈ zT := zT_in 399 (by decide +kernel) (by decide +kernel)
theorem zMath_c_min : Cond.code Lib.Math.min.name Lib.Math.min.code 2 (some .int) ∈ zT := zT_in 346 (by decide +kernel) (by decide +kernel)
theorem zMath_c_abs : Cond.code Lib.Math.abs.name Lib.Math.abs.code 1 (some .int) ∈ zT := zT_in 510 (by decide +kernel) (by decide +kernel)
theorem zCopy_n : Cond.native arraycopyName ∈ zT := zT_in 343 (by decide +kernel) (by decide +kernel)
theorem zCopy_s : Cond.static arraycopyName ∈ zT := zT_in 342 (by decide +kernel) (by decide +kernel)
theorem zCopy_i : Cond.initialized "java/lang/System" ∈ zT := zT_in 72 (by decide +kernel) (by decide +kernel)
theorem zOI_i : Cond.instanceMethod Lib.objectInit ∈ zT := zT_in 80 (by decide +kernel) (by decide +kernel)
theorem zOI_c : Cond.code Lib.objectInit ⟨#[0xb1]⟩ 1 none ∈ zT := zT_in 81 (by decide +kernel) (by decide +kernel)
theorem nL_7 : Cond.classLink RL 7 RX5 ∈ zT := zT_in 74 (by decide +kernel) (by decide +kernel)
theorem nX5_7 : Cond.classLink RX5 7 RX2 ∈ zT := zT_in 82 (by decide +kernel) (by decide +kernel)
theorem nX5_16 : Cond.classLink RX5 16 RX4 ∈ zT := zT_in 143 (by decide +kernel) (by decide +kernel)
theorem nX5_23 : Cond.classLink RX5 23 RX3 ∈ zT := zT_in 194 (by decide +kernel) (by decide +kernel)
theorem nX5_32 : Cond.classLink RX5 32 RX0 ∈ zT := zT_in 204 (by decide +kernel) (by decide +kernel)
theorem nX5_52 : Cond.classLink RX5 52 RX1 ∈ zT := zT_in 238 (by decide +kernel) (by decide +kernel)
theorem nX1_9 : Cond.classLink RX1 9 RX2 ∈ zT := zT_in 244 (by decide +kernel) (by decide +kernel)
theorem nL_10 : Cond.classLink RL 10 RX6 ∈ zT := zT_in 710 (by decide +kernel) (by decide +kernel)
theorem zAC_int : Cond.arrayClass .int ∈ zT := zT_in 142 (by decide +kernel) (by decide +kernel)
theorem zAC_bool : Cond.arrayClass .boolean ∈ zT := zT_in 765 (by decide +kernel) (by decide +kernel)
end
section
/-! ===== rules by kinds ===== -/
noncomputable def zb (P : Prop) : Int32 := @ite _ P (Classical.propDecidable P) 1 0
theorem zb_t {P : Prop} (h : P) : zb P = 1 := by unfold zb; exact if_pos h
theorem zb_f {P : Prop} (h : ¬ P) : zb P = 0 := by unfold zb; exact if_neg h
theorem zb_1 {P : Prop} (h : P) : nI 1 = zb P := (zb_t h).symm
theorem zb_0 {P : Prop} (h : ¬ P) : nI 0 = zb P := (zb_f h).symm
theorem zb_c {P Q : Prop} (h : P ↔ Q) : zb P = zb Q := by rw [propext h]
theorem zb_nar (P : Prop) : narrow .boolean (.int (zb P)) = .int (zb P) := by
  by_cases h : P
  · rw [zb_t h]; rfl
  · rw [zb_f h]; rfl
theorem zb_01 (P : Prop) : zb P = 0 ∨ zb P = 1 := by
  by_cases h : P
  · exact Or.inr (zb_t h)
  · exact Or.inl (zb_f h)
theorem zb_eq0 {P : Prop} : zb P = 0 ↔ ¬ P := ⟨fun h p => by rw [zb_t p] at h; exact absurd h (by decide), zb_f⟩
theorem zb_eq1 {P : Prop} : zb P = 1 ↔ P := ⟨fun h => by
  by_cases p : P
  · exact p
  · rw [zb_f p] at h; exact absurd h (by decide), zb_t⟩
def zi (z : Int) : Int32 := Int32.ofInt z
theorem zi_toInt {z : Int} (h1 : -2147483648 ≤ z) (h2 : z < 2147483648) : (zi z).toInt = z := by
  unfold zi
  rw [Int32.toInt_ofInt]
  have : Int.bmod z (2 ^ 32) = z := by
    rw [Int.bmod_def]
    split <;> omega
  simpa using this
theorem zi_add (a b : Int) : zi a + zi b = zi (a + b) := by unfold zi; exact (Int32.ofInt_add a b).symm
theorem zi_sub (a b : Int) : zi a - zi b = zi (a - b) := by unfold zi; exact (Int32.ofInt_sub a b).symm
theorem zi_mul (a b : Int) : zi a * zi b = zi (a * b) := by unfold zi; exact (Int32.ofInt_mul a b).symm
theorem zi_neg (a : Int) : -zi a = zi (-a) := by unfold zi; exact (Int32.ofInt_neg a).symm
theorem nI_zi (n : Nat) : nI n = zi (n : Int) := by
  unfold nI zi
  rfl
theorem zi_of (x : Int32) : x = zi x.toInt := by unfold zi; exact (Int32.ofInt_toInt x).symm
theorem zi_eq {a b : Int} (h1 : -2147483648 ≤ a) (h2 : a < 2147483648) (h3 : -2147483648 ≤ b) (h4 : b < 2147483648) : zi a = zi b ↔ a = b := by
  constructor
  · intro h
    have := congrArg Int32.toInt h
    rwa [zi_toInt h1 h2, zi_toInt h3 h4] at this
  · rintro rfl; rfl
theorem toInt_lo (x : Int32) : -2147483648 ≤ x.toInt := by have := Int32.minValue_le_toInt x; simpa using this
theorem toInt_hi (x : Int32) : x.toInt < 2147483648 := by have := Int32.toInt_lt x; simpa using this
theorem nI_T {n : Nat} (h : n < 2147483648) : (nI n).toInt = (n : Int) := nI_toInt (by omega)
theorem nI_inj {a b : Nat} (ha : a < 2147483648) (hb : b < 2147483648) : nI a = nI b ↔ a = b := nI_eq (by omega) (by omega)
theorem nI_of3 {x : Int32} {n : Nat} (h0 : 0 ≤ x.toInt) (h1 : x.toInt < n) (hn : n ≤ 2147483648) : ∃ j : Nat, j < n ∧ x = nI j := by
  refine ⟨x.toInt.toNat, by omega, ?_⟩
  rw [nI_zi, Int.toNat_of_nonneg h0]
  exact zi_of x
theorem nI_and (a b : Nat) : nI a &&& nI b = nI (a &&& b) := by
  apply Int32.toBitVec_inj.mp
  show BitVec.ofNat 32 a &&& BitVec.ofNat 32 b = BitVec.ofNat 32 (a &&& b)
  simp
theorem nI_or (a b : Nat) : nI a ||| nI b = nI (a ||| b) := by
  apply Int32.toBitVec_inj.mp
  show BitVec.ofNat 32 a ||| BitVec.ofNat 32 b = BitVec.ofNat 32 (a ||| b)
  simp
theorem nI_xor (a b : Nat) : nI a ^^^ nI b = nI (a ^^^ b) := by
  apply Int32.toBitVec_inj.mp
  show BitVec.ofNat 32 a ^^^ BitVec.ofNat 32 b = BitVec.ofNat 32 (a ^^^ b)
  simp
/-- a without b -/
def andn (a b : Nat) : Nat := a ^^^ (a &&& b)
theorem andn_bit (a b i : Nat) : (andn a b).testBit i = (a.testBit i && !b.testBit i) := by
  unfold andn
  rw [Nat.testBit_xor, Nat.testBit_and]
  cases a.testBit i <;> cases b.testBit i <;> rfl
theorem nI_andn (a b : Nat) : nI a &&& (nI b ^^^ (-1)) = nI (andn a b) := by
  apply Int32.toBitVec_inj.mp
  show BitVec.ofNat 32 a &&& (BitVec.ofNat 32 b ^^^ (-1 : Int32).toBitVec) = BitVec.ofNat 32 (andn a b)
  have e : (-1 : Int32).toBitVec = BitVec.allOnes 32 := by decide +kernel
  rw [e]
  apply BitVec.eq_of_getLsbD_eq
  intro i hi
  simp only [BitVec.getLsbD_and, BitVec.getLsbD_xor, BitVec.getLsbD_ofNat, BitVec.getLsbD_allOnes, andn_bit]
  simp [hi]
theorem nI_andn2 (a b : Nat) : (nI b ^^^ (-1)) &&& nI a = nI (andn a b) := by rw [Int32.and_comm, nI_andn]
theorem shc : ∀ k, k < 32 → ((nI k &&& 31).toBitVec.smod 32).toNat = k := by decide +kernel
theorem nI_shr {a k : Nat} (ha : a < 2147483648) (hk : k < 32) : nI a >>> (nI k &&& 31) = nI (a >>> k) := by
  rw [pk_shrN (by omega) _ k (shc k hk), Nat.shiftRight_eq_div_pow]
theorem nI_shl {a k : Nat} (hk : k < 32) (h : a * 2 ^ k < 4294967296) : nI a <<< (nI k &&& 31) = nI (a * 2 ^ k) := pk_shlN _ k (shc k hk) (by omega)
theorem bit_and (a k : Nat) : (a >>> k) &&& 1 = (a.testBit k).toNat := by
  rw [Nat.and_one_is_mod, Nat.testBit]
  rw [Nat.and_comm, Nat.and_one_is_mod]
  rcases Nat.mod_two_eq_zero_or_one (a >>> k) with h | h <;> simp [h]
section ZR2
variable {g : zG} {Post : zPost} {u : Nat × Nat} {S : zS} {I : zMI} {L : zML} {R : zMR} {pc pc2 pc3 pc4 : Nat} {lv : List (Option Value)} {st : List Value}
abbrev zT2 (g : zG) (Post : zPost) (u : Nat × Nat) (S : zS) (I : zMI) (L : zML) (R : zMR) (lv : List (Option Value)) (st : List Value) (pc : Nat) : Prop := zV g Post u S I L R pc lv st
theorem z_top {x y : Int32} (h : x = y) (k : zV g Post u S I L R pc lv (.int y :: st)) : zV g Post u S I L R pc lv (.int x :: st) := by rw [h]; exact k
theorem z_topl {x y : Int64} (h : x = y) (k : zV g Post u S I L R pc lv (.long y :: st)) : zV g Post u S I L R pc lv (.long x :: st) := by rw [h]; exact k
theorem z_iaN {a n j : Nat} (hd : zD g.2.1 pc .iaload 1 pc2) (hs : S[a]? = some (0, n)) (hj : j < n) (hn : n < 2 ^ 31) (kk : zV g Post u S I L R pc2 lv (.int (I a j) :: st)) : zV g Post u S I L R pc lv (.int (nI j) :: .ref a :: st) := z_iald j hd hs rfl hj hn kk
theorem z_isN {a n j : Nat} {v : Int32} (hd : zD g.2.1 pc .iastore 1 pc2) (hs : S[a]? = some (0, n)) (hj : j < n) (hn : n < 2 ^ 31) (kk : zV g Post u S (zu I a j v) L R pc2 lv st) : zV g Post u S I L R pc lv (.int v :: .int (nI j) :: .ref a :: st) := z_iast j hd hs rfl hj hn kk
theorem z_zaN {a n j : Nat} (hd : zD g.2.1 pc .baload 1 pc2) (hs : S[a]? = some (1, n)) (hj : j < n) (hn : n < 2 ^ 31) (kk : zV g Post u S I L R pc2 lv (.int (I a j) :: st)) : zV g Post u S I L R pc lv (.int (nI j) :: .ref a :: st) := z_zald j hd hs rfl hj hn kk
theorem z_zsN {a n j : Nat} {v : Int32} (hd : zD g.2.1 pc .bastore 1 pc2) (hs : S[a]? = some (1, n)) (hj : j < n) (hn : n < 2 ^ 31) (hv : v = 0 ∨ v = 1) (kk : zV g Post u S (zu I a j v) L R pc2 lv st) : zV g Post u S I L R pc lv (.int v :: .int (nI j) :: .ref a :: st) := z_zast j hd hs rfl hj hn hv kk
theorem z_aaN {a n q j : Nat} (hd : zD g.2.1 pc .aaload 1 pc2) (hs : S[a]? = some (2, n)) (hj : j < n) (hn : n < 2 ^ 31) (hr : R a j = some q) (kk : zV g Post u S I L R pc2 lv (.ref q :: st)) : zV g Post u S I L R pc lv (.int (nI j) :: .ref a :: st) := z_aald j hd hs rfl hj hn hr kk
theorem z_bit {a p : Nat} {v1 : Int} (hd1 : zD g.2.1 pc .ishr 1 pc2) (hd2 : zD g.2.1 pc2 (.iconst v1) 1 pc3) (hv : Int32.ofInt v1 = nI 1) (hd3 : zD g.2.1 pc3 .iand 1 pc4) (ha : a < 2147483648) (hp : p < 32) (k : zV g Post u S I L R pc4 lv (.int (nI (a.testBit p).toNat) :: st)) : zV g Post u S I L R pc lv (.int (nI p) :: .int (nI a) :: st) := by
  refine z_ishr hd1 (z_iconst (nI 1) hd2 hv (z_iand hd3 ?_))
  rw [nI_shr ha hp, nI_and, bit_and]
  exact k
theorem z_iaddN {a b : Nat} (hd : zD g.2.1 pc .iadd 1 pc2) (k : zV g Post u S I L R pc2 lv (.int (nI (a + b)) :: st)) : zV g Post u S I L R pc lv (.int (nI b) :: .int (nI a) :: st) := z_iadd hd (z_top (nI_add a b) k)
theorem z_imulN {a b : Nat} (hd : zD g.2.1 pc .imul 1 pc2) (k : zV g Post u S I L R pc2 lv (.int (nI (a * b)) :: st)) : zV g Post u S I L R pc lv (.int (nI b) :: .int (nI a) :: st) := z_imul hd (z_top (pk_mul a b) k)
theorem z_isubN {a b : Nat} (hd : zD g.2.1 pc .isub 1 pc2) (h : b ≤ a) (k : zV g Post u S I L R pc2 lv (.int (nI (a - b)) :: st)) : zV g Post u S I L R pc lv (.int (nI b) :: .int (nI a) :: st) := z_isub hd (z_top (pk_sub h) k)
theorem z_iandN {a b : Nat} (hd : zD g.2.1 pc .iand 1 pc2) (k : zV g Post u S I L R pc2 lv (.int (nI (a &&& b)) :: st)) : zV g Post u S I L R pc lv (.int (nI b) :: .int (nI a) :: st) := z_iand hd (z_top (nI_and a b) k)
theorem z_iorN {a b : Nat} (hd : zD g.2.1 pc .ior 1 pc2) (k : zV g Post u S I L R pc2 lv (.int (nI (a ||| b)) :: st)) : zV g Post u S I L R pc lv (.int (nI b) :: .int (nI a) :: st) := z_ior hd (z_top (nI_or a b) k)
theorem z_ixorN {a b : Nat} (hd : zD g.2.1 pc .ixor 1 pc2) (k : zV g Post u S I L R pc2 lv (.int (nI (a ^^^ b)) :: st)) : zV g Post u S I L R pc lv (.int (nI b) :: .int (nI a) :: st) := z_ixor hd (z_top (nI_xor a b) k)
theorem z_ishlN {a b : Nat} (hd : zD g.2.1 pc .ishl 1 pc2) (hk : b < 32) (h : a * 2 ^ b < 4294967296) (k : zV g Post u S I L R pc2 lv (.int (nI (a * 2 ^ b)) :: st)) : zV g Post u S I L R pc lv (.int (nI b) :: .int (nI a) :: st) := z_ishl hd (z_top (nI_shl hk h) k)
theorem z_ishrN {a b : Nat} (hd : zD g.2.1 pc .ishr 1 pc2) (ha : a < 2147483648) (hk : b < 32) (k : zV g Post u S I L R pc2 lv (.int (nI (a >>> b)) :: st)) : zV g Post u S I L R pc lv (.int (nI b) :: .int (nI a) :: st) := z_ishr hd (z_top (nI_shr ha hk) k)
theorem z_idivN {a b : Nat} (hd : zD g.2.1 pc .idiv 1 pc2) (ha : a < 2147483648) (h0 : 0 < b) (hb : b < 2147483648) (k : zV g Post u S I L R pc2 lv (.int (nI (a / b)) :: st)) : zV g Post u S I L R pc lv (.int (nI b) :: .int (nI a) :: st) := z_idiv hd (nI_ne0 h0 (by omega)) (z_top (pk_div (by omega) h0 (by omega)) k)
theorem z_iremN {a b : Nat} (hd : zD g.2.1 pc .irem 1 pc2) (ha : a < 2147483648) (h0 : 0 < b) (hb : b < 2147483648) (k : zV g Post u S I L R pc2 lv (.int (nI (a % b)) :: st)) : zV g Post u S I L R pc lv (.int (nI b) :: .int (nI a) :: st) := z_irem hd (nI_ne0 h0 (by omega)) (z_top (pk_rem (by omega) h0 (by omega)) k)
theorem z_iincN0 {t : List (Option Value)} {x n : Nat} (hd : zD g.2.1 pc (.iinc 0 (n : Int)) 3 pc2) (hc : zCat (some (.int (nI x)) :: t) = true) (k : zV g Post u S I L R pc2 (some (.int (nI (x + n))) :: t) st) : zV g Post u S I L R pc (some (.int (nI x)) :: t) st := z_iinc0 (nI (x + n)) hd hc (nI_add x n) k
theorem z_iincN1 {a0 : Option Value} {t : List (Option Value)} {x n : Nat} (hd : zD g.2.1 pc (.iinc 1 (n : Int)) 3 pc2) (hc : zCat (a0 :: some (.int (nI x)) :: t) = true) (k : zV g Post u S I L R pc2 (a0 :: some (.int (nI (x + n))) :: t) st) : zV g Post u S I L R pc (a0 :: some (.int (nI x)) :: t) st := z_iinc1 (nI (x + n)) hd hc (nI_add x n) k
theorem z_iincN2 {a0 a1 : Option Value} {t : List (Option Value)} {x n : Nat} (hd : zD g.2.1 pc (.iinc 2 (n : Int)) 3 pc2) (hc : zCat (a0 :: a1 :: some (.int (nI x)) :: t) = true) (k : zV g Post u S I L R pc2 (a0 :: a1 :: some (.int (nI (x + n))) :: t) st) : zV g Post u S I L R pc (a0 :: a1 :: some (.int (nI x)) :: t) st := z_iinc2 (nI (x + n)) hd hc (nI_add x n) k
theorem z_iincN3 {a0 a1 a2 : Option Value} {t : List (Option Value)} {x n : Nat} (hd : zD g.2.1 pc (.iinc 3 (n : Int)) 3 pc2) (hc : zCat (a0 :: a1 :: a2 :: some (.int (nI x)) :: t) = true) (k : zV g Post u S I L R pc2 (a0 :: a1 :: a2 :: some (.int (nI (x + n))) :: t) st) : zV g Post u S I L R pc (a0 :: a1 :: a2 :: some (.int (nI x)) :: t) st := z_iinc3 (nI (x + n)) hd hc (nI_add x n) k
theorem z_iincN4 {a0 a1 a2 a3 : Option Value} {t : List (Option Value)} {x n : Nat} (hd : zD g.2.1 pc (.iinc 4 (n : Int)) 3 pc2) (hc : zCat (a0 :: a1 :: a2 :: a3 :: some (.int (nI x)) :: t) = true) (k : zV g Post u S I L R pc2 (a0 :: a1 :: a2 :: a3 :: some (.int (nI (x + n))) :: t) st) : zV g Post u S I L R pc (a0 :: a1 :: a2 :: a3 :: some (.int (nI x)) :: t) st := z_iinc4 (nI (x + n)) hd hc (nI_add x n) k
theorem z_iincN5 {a0 a1 a2 a3 a4 : Option Value} {t : List (Option Value)} {x n : Nat} (hd : zD g.2.1 pc (.iinc 5 (n : Int)) 3 pc2) (hc : zCat (a0 :: a1 :: a2 :: a3 :: a4 :: some (.int (nI x)) :: t) = true) (k : zV g Post u S I L R pc2 (a0 :: a1 :: a2 :: a3 :: a4 :: some (.int (nI (x + n))) :: t) st) : zV g Post u S I L R pc (a0 :: a1 :: a2 :: a3 :: a4 :: some (.int (nI x)) :: t) st := z_iinc5 (nI (x + n)) hd hc (nI_add x n) k
theorem z_iincN6 {a0 a1 a2 a3 a4 a5 : Option Value} {t : List (Option Value)} {x n : Nat} (hd : zD g.2.1 pc (.iinc 6 (n : Int)) 3 pc2) (hc : zCat (a0 :: a1 :: a2 :: a3 :: a4 :: a5 :: some (.int (nI x)) :: t) = true) (k : zV g Post u S I L R pc2 (a0 :: a1 :: a2 :: a3 :: a4 :: a5 :: some (.int (nI (x + n))) :: t) st) : zV g Post u S I L R pc (a0 :: a1 :: a2 :: a3 :: a4 :: a5 :: some (.int (nI x)) :: t) st := z_iinc6 (nI (x + n)) hd hc (nI_add x n) k
theorem z_iincN7 {a0 a1 a2 a3 a4 a5 a6 : Option Value} {t : List (Option Value)} {x n : Nat} (hd : zD g.2.1 pc (.iinc 7 (n : Int)) 3 pc2) (hc : zCat (a0 :: a1 :: a2 :: a3 :: a4 :: a5 :: a6 :: some (.int (nI x)) :: t) = true) (k : zV g Post u S I L R pc2 (a0 :: a1 :: a2 :: a3 :: a4 :: a5 :: a6 :: some (.int (nI (x + n))) :: t) st) : zV g Post u S I L R pc (a0 :: a1 :: a2 :: a3 :: a4 :: a5 :: a6 :: some (.int (nI x)) :: t) st := z_iinc7 (nI (x + n)) hd hc (nI_add x n) k
theorem z_iincN8 {a0 a1 a2 a3 a4 a5 a6 a7 : Option Value} {t : List (Option Value)} {x n : Nat} (hd : zD g.2.1 pc (.iinc 8 (n : Int)) 3 pc2) (hc : zCat (a0 :: a1 :: a2 :: a3 :: a4 :: a5 :: a6 :: a7 :: some (.int (nI x)) :: t) = true) (k : zV g Post u S I L R pc2 (a0 :: a1 :: a2 :: a3 :: a4 :: a5 :: a6 :: a7 :: some (.int (nI (x + n))) :: t) st) : zV g Post u S I L R pc (a0 :: a1 :: a2 :: a3 :: a4 :: a5 :: a6 :: a7 :: some (.int (nI x)) :: t) st := z_iinc8 (nI (x + n)) hd hc (nI_add x n) k
theorem z_iincN9 {a0 a1 a2 a3 a4 a5 a6 a7 a8 : Option Value} {t : List (Option Value)} {x n : Nat} (hd : zD g.2.1 pc (.iinc 9 (n : Int)) 3 pc2) (hc : zCat (a0 :: a1 :: a2 :: a3 :: a4 :: a5 :: a6 :: a7 :: a8 :: some (.int (nI x)) :: t) = true) (k : zV g Post u S I L R pc2 (a0 :: a1 :: a2 :: a3 :: a4 :: a5 :: a6 :: a7 :: a8 :: some (.int (nI (x + n))) :: t) st) : zV g Post u S I L R pc (a0 :: a1 :: a2 :: a3 :: a4 :: a5 :: a6 :: a7 :: a8 :: some (.int (nI x)) :: t) st := z_iinc9 (nI (x + n)) hd hc (nI_add x n) k
theorem z_iincN10 {a0 a1 a2 a3 a4 a5 a6 a7 a8 a9 : Option Value} {t : List (Option Value)} {x n : Nat} (hd : zD g.2.1 pc (.iinc 10 (n : Int)) 3 pc2) (hc : zCat (a0 :: a1 :: a2 :: a3 :: a4 :: a5 :: a6 :: a7 :: a8 :: a9 :: some (.int (nI x)) :: t) = true) (k : zV g Post u S I L R pc2 (a0 :: a1 :: a2 :: a3 :: a4 :: a5 :: a6 :: a7 :: a8 :: a9 :: some (.int (nI (x + n))) :: t) st) : zV g Post u S I L R pc (a0 :: a1 :: a2 :: a3 :: a4 :: a5 :: a6 :: a7 :: a8 :: a9 :: some (.int (nI x)) :: t) st := z_iinc10 (nI (x + n)) hd hc (nI_add x n) k
theorem z_iincN11 {a0 a1 a2 a3 a4 a5 a6 a7 a8 a9 a10 : Option Value} {t : List (Option Value)} {x n : Nat} (hd : zD g.2.1 pc (.iinc 11 (n : Int)) 3 pc2) (hc : zCat (a0 :: a1 :: a2 :: a3 :: a4 :: a5 :: a6 :: a7 :: a8 :: a9 :: a10 :: some (.int (nI x)) :: t) = true) (k : zV g Post u S I L R pc2 (a0 :: a1 :: a2 :: a3 :: a4 :: a5 :: a6 :: a7 :: a8 :: a9 :: a10 :: some (.int (nI (x + n))) :: t) st) : zV g Post u S I L R pc (a0 :: a1 :: a2 :: a3 :: a4 :: a5 :: a6 :: a7 :: a8 :: a9 :: a10 :: some (.int (nI x)) :: t) st := z_iinc11 (nI (x + n)) hd hc (nI_add x n) k
theorem z_iincN12 {a0 a1 a2 a3 a4 a5 a6 a7 a8 a9 a10 a11 : Option Value} {t : List (Option Value)} {x n : Nat} (hd : zD g.2.1 pc (.iinc 12 (n : Int)) 3 pc2) (hc : zCat (a0 :: a1 :: a2 :: a3 :: a4 :: a5 :: a6 :: a7 :: a8 :: a9 :: a10 :: a11 :: some (.int (nI x)) :: t) = true) (k : zV g Post u S I L R pc2 (a0 :: a1 :: a2 :: a3 :: a4 :: a5 :: a6 :: a7 :: a8 :: a9 :: a10 :: a11 :: some (.int (nI (x + n))) :: t) st) : zV g Post u S I L R pc (a0 :: a1 :: a2 :: a3 :: a4 :: a5 :: a6 :: a7 :: a8 :: a9 :: a10 :: a11 :: some (.int (nI x)) :: t) st := z_iinc12 (nI (x + n)) hd hc (nI_add x n) k
theorem z_icmp_ltNN {a b : Nat} {off : Int} {tgt : Nat} (hd : zD g.2.1 pc (.if_icmp .lt off) 3 pc2) (ht : (pc : Int) + off = (tgt : Int)) (ha : a < 2147483648) (hb : b < 2147483648) (kt : a < b → zV g Post u S I L R tgt lv st) (kf : b ≤ a → zV g Post u S I L R pc2 lv st) : zV g Post u S I L R pc lv (.int (nI b) :: .int (nI a) :: st) := z_icmp_lt hd ht (fun h => kt (by rw [nI_T ha, nI_T hb] at h; omega)) (fun h => kf (by rw [nI_T ha, nI_T hb] at h; omega))
theorem z_icmp_ltIN {x : Int32} {b : Nat} {off : Int} {tgt : Nat} (hd : zD g.2.1 pc (.if_icmp .lt off) 3 pc2) (ht : (pc : Int) + off = (tgt : Int)) (hb : b < 2147483648) (kt : x.toInt < (b : Int) → zV g Post u S I L R tgt lv st) (kf : (b : Int) ≤ x.toInt → zV g Post u S I L R pc2 lv st) : zV g Post u S I L R pc lv (.int (nI b) :: .int x :: st) := z_icmp_lt hd ht (fun h => kt (by rw [nI_T hb] at h; omega)) (fun h => kf (by rw [nI_T hb] at h; omega))
theorem z_icmp_ltNI {a : Nat} {y : Int32} {off : Int} {tgt : Nat} (hd : zD g.2.1 pc (.if_icmp .lt off) 3 pc2) (ht : (pc : Int) + off = (tgt : Int)) (ha : a < 2147483648) (kt : (a : Int) < y.toInt → zV g Post u S I L R tgt lv st) (kf : y.toInt ≤ (a : Int) → zV g Post u S I L R pc2 lv st) : zV g Post u S I L R pc lv (.int y :: .int (nI a) :: st) := z_icmp_lt hd ht (fun h => kt (by rw [nI_T ha] at h; omega)) (fun h => kf (by rw [nI_T ha] at h; omega))
theorem z_icmp_geNN {a b : Nat} {off : Int} {tgt : Nat} (hd : zD g.2.1 pc (.if_icmp .ge off) 3 pc2) (ht : (pc : Int) + off = (tgt : Int)) (ha : a < 2147483648) (hb : b < 2147483648) (kt : b ≤ a → zV g Post u S I L R tgt lv st) (kf : a < b → zV g Post u S I L R pc2 lv st) : zV g Post u S I L R pc lv (.int (nI b) :: .int (nI a) :: st) := z_icmp_ge hd ht (fun h => kt (by rw [nI_T ha, nI_T hb] at h; omega)) (fun h => kf (by rw [nI_T ha, nI_T hb] at h; omega))
theorem z_icmp_geIN {x : Int32} {b : Nat} {off : Int} {tgt : Nat} (hd : zD g.2.1 pc (.if_icmp .ge off) 3 pc2) (ht : (pc : Int) + off = (tgt : Int)) (hb : b < 2147483648) (kt : (b : Int) ≤ x.toInt → zV g Post u S I L R tgt lv st) (kf : x.toInt < (b : Int) → zV g Post u S I L R pc2 lv st) : zV g Post u S I L R pc lv (.int (nI b) :: .int x :: st) := z_icmp_ge hd ht (fun h => kt (by rw [nI_T hb] at h; omega)) (fun h => kf (by rw [nI_T hb] at h; omega))
theorem z_icmp_geNI {a : Nat} {y : Int32} {off : Int} {tgt : Nat} (hd : zD g.2.1 pc (.if_icmp .ge off) 3 pc2) (ht : (pc : Int) + off = (tgt : Int)) (ha : a < 2147483648) (kt : y.toInt ≤ (a : Int) → zV g Post u S I L R tgt lv st) (kf : (a : Int) < y.toInt → zV g Post u S I L R pc2 lv st) : zV g Post u S I L R pc lv (.int y :: .int (nI a) :: st) := z_icmp_ge hd ht (fun h => kt (by rw [nI_T ha] at h; omega)) (fun h => kf (by rw [nI_T ha] at h; omega))
theorem z_icmp_gtNN {a b : Nat} {off : Int} {tgt : Nat} (hd : zD g.2.1 pc (.if_icmp .gt off) 3 pc2) (ht : (pc : Int) + off = (tgt : Int)) (ha : a < 2147483648) (hb : b < 2147483648) (kt : b < a → zV g Post u S I L R tgt lv st) (kf : a ≤ b → zV g Post u S I L R pc2 lv st) : zV g Post u S I L R pc lv (.int (nI b) :: .int (nI a) :: st) := z_icmp_gt hd ht (fun h => kt (by rw [nI_T ha, nI_T hb] at h; omega)) (fun h => kf (by rw [nI_T ha, nI_T hb] at h; omega))
theorem z_icmp_gtIN {x : Int32} {b : Nat} {off : Int} {tgt : Nat} (hd : zD g.2.1 pc (.if_icmp .gt off) 3 pc2) (ht : (pc : Int) + off = (tgt : Int)) (hb : b < 2147483648) (kt : (b : Int) < x.toInt → zV g Post u S I L R tgt lv st) (kf : x.toInt ≤ (b : Int) → zV g Post u S I L R pc2 lv st) : zV g Post u S I L R pc lv (.int (nI b) :: .int x :: st) := z_icmp_gt hd ht (fun h => kt (by rw [nI_T hb] at h; omega)) (fun h => kf (by rw [nI_T hb] at h; omega))
theorem z_icmp_gtNI {a : Nat} {y : Int32} {off : Int} {tgt : Nat} (hd : zD g.2.1 pc (.if_icmp .gt off) 3 pc2) (ht : (pc : Int) + off = (tgt : Int)) (ha : a < 2147483648) (kt : y.toInt < (a : Int) → zV g Post u S I L R tgt lv st) (kf : (a : Int) ≤ y.toInt → zV g Post u S I L R pc2 lv st) : zV g Post u S I L R pc lv (.int y :: .int (nI a) :: st) := z_icmp_gt hd ht (fun h => kt (by rw [nI_T ha] at h; omega)) (fun h => kf (by rw [nI_T ha] at h; omega))
theorem z_icmp_leNN {a b : Nat} {off : Int} {tgt : Nat} (hd : zD g.2.1 pc (.if_icmp .le off) 3 pc2) (ht : (pc : Int) + off = (tgt : Int)) (ha : a < 2147483648) (hb : b < 2147483648) (kt : a ≤ b → zV g Post u S I L R tgt lv st) (kf : b < a → zV g Post u S I L R pc2 lv st) : zV g Post u S I L R pc lv (.int (nI b) :: .int (nI a) :: st) := z_icmp_le hd ht (fun h => kt (by rw [nI_T ha, nI_T hb] at h; omega)) (fun h => kf (by rw [nI_T ha, nI_T hb] at h; omega))
theorem z_icmp_leIN {x : Int32} {b : Nat} {off : Int} {tgt : Nat} (hd : zD g.2.1 pc (.if_icmp .le off) 3 pc2) (ht : (pc : Int) + off = (tgt : Int)) (hb : b < 2147483648) (kt : x.toInt ≤ (b : Int) → zV g Post u S I L R tgt lv st) (kf : (b : Int) < x.toInt → zV g Post u S I L R pc2 lv st) : zV g Post u S I L R pc lv (.int (nI b) :: .int x :: st) := z_icmp_le hd ht (fun h => kt (by rw [nI_T hb] at h; omega)) (fun h => kf (by rw [nI_T hb] at h; omega))
theorem z_icmp_leNI {a : Nat} {y : Int32} {off : Int} {tgt : Nat} (hd : zD g.2.1 pc (.if_icmp .le off) 3 pc2) (ht : (pc : Int) + off = (tgt : Int)) (ha : a < 2147483648) (kt : (a : Int) ≤ y.toInt → zV g Post u S I L R tgt lv st) (kf : y.toInt < (a : Int) → zV g Post u S I L R pc2 lv st) : zV g Post u S I L R pc lv (.int y :: .int (nI a) :: st) := z_icmp_le hd ht (fun h => kt (by rw [nI_T ha] at h; omega)) (fun h => kf (by rw [nI_T ha] at h; omega))
theorem z_icmp_eqNN {a b : Nat} {off : Int} {tgt : Nat} (hd : zD g.2.1 pc (.if_icmp .eq off) 3 pc2) (ht : (pc : Int) + off = (tgt : Int)) (ha : a < 2147483648) (hb : b < 2147483648) (kt : a = b → zV g Post u S I L R tgt lv st) (kf : a ≠ b → zV g Post u S I L R pc2 lv st) : zV g Post u S I L R pc lv (.int (nI b) :: .int (nI a) :: st) := z_icmp_eq hd ht (fun h => kt ((nI_inj ha hb).mp h)) (fun h => kf (fun e => h ((nI_inj ha hb).mpr e)))
theorem z_icmp_neNN {a b : Nat} {off : Int} {tgt : Nat} (hd : zD g.2.1 pc (.if_icmp .ne off) 3 pc2) (ht : (pc : Int) + off = (tgt : Int)) (ha : a < 2147483648) (hb : b < 2147483648) (kt : a ≠ b → zV g Post u S I L R tgt lv st) (kf : a = b → zV g Post u S I L R pc2 lv st) : zV g Post u S I L R pc lv (.int (nI b) :: .int (nI a) :: st) := z_icmp_ne hd ht (fun h => kt (fun e => h ((nI_inj ha hb).mpr e))) (fun h => kf ((nI_inj ha hb).mp h))
theorem z_if_eqN {a : Nat} {off : Int} {tgt : Nat} (hd : zD g.2.1 pc (.ifCond .eq off) 3 pc2) (ht : (pc : Int) + off = (tgt : Int)) (ha : a < 2147483648) (kt : a = 0 → zV g Post u S I L R tgt lv st) (kf : 0 < a → zV g Post u S I L R pc2 lv st) : zV g Post u S I L R pc lv (.int (nI a) :: st) := z_if_eq hd ht (fun h => kt (by have := (nI_inj (b := 0) ha (by omega)).mp h; exact this)) (fun h => kf (Nat.pos_of_ne_zero (fun e => h (by rw [e]; rfl))))
theorem z_if_neN {a : Nat} {off : Int} {tgt : Nat} (hd : zD g.2.1 pc (.ifCond .ne off) 3 pc2) (ht : (pc : Int) + off = (tgt : Int)) (ha : a < 2147483648) (kt : 0 < a → zV g Post u S I L R tgt lv st) (kf : a = 0 → zV g Post u S I L R pc2 lv st) : zV g Post u S I L R pc lv (.int (nI a) :: st) := z_if_ne hd ht (fun h => kt (Nat.pos_of_ne_zero (fun e => h (by rw [e]; rfl)))) (fun h => kf (by have := (nI_inj (b := 0) ha (by omega)).mp h; exact this))
theorem z_if_leN {a : Nat} {off : Int} {tgt : Nat} (hd : zD g.2.1 pc (.ifCond .le off) 3 pc2) (ht : (pc : Int) + off = (tgt : Int)) (ha : a < 2147483648) (kt : a = 0 → zV g Post u S I L R tgt lv st) (kf : 0 < a → zV g Post u S I L R pc2 lv st) : zV g Post u S I L R pc lv (.int (nI a) :: st) := z_if_le hd ht (fun h => kt (by rw [nI_T ha] at h; omega)) (fun h => kf (by rw [nI_T ha] at h; omega))
theorem z_if_gtN {a : Nat} {off : Int} {tgt : Nat} (hd : zD g.2.1 pc (.ifCond .gt off) 3 pc2) (ht : (pc : Int) + off = (tgt : Int)) (ha : a < 2147483648) (kt : 0 < a → zV g Post u S I L R tgt lv st) (kf : a = 0 → zV g Post u S I L R pc2 lv st) : zV g Post u S I L R pc lv (.int (nI a) :: st) := z_if_gt hd ht (fun h => kt (by rw [nI_T ha] at h; omega)) (fun h => kf (by rw [nI_T ha] at h; omega))
theorem z_if_ltN {a : Nat} {off : Int} (hd : zD g.2.1 pc (.ifCond .lt off) 3 pc2) {tgt : Nat} (ht : (pc : Int) + off = (tgt : Int)) (ha : a < 2147483648) (kf : zV g Post u S I L R pc2 lv st) : zV g Post u S I L R pc lv (.int (nI a) :: st) := z_if_lt hd ht (fun h => absurd h (by rw [nI_T ha]; omega)) (fun _ => kf)
theorem z_if_geN {a : Nat} {off : Int} (hd : zD g.2.1 pc (.ifCond .ge off) 3 pc2) {tgt : Nat} (ht : (pc : Int) + off = (tgt : Int)) (ha : a < 2147483648) (kt : zV g Post u S I L R tgt lv st) : zV g Post u S I L R pc lv (.int (nI a) :: st) := z_if_ge hd ht (fun _ => kt) (fun h => absurd h (by rw [nI_T ha]; omega))
theorem z_if_eqB {Pq : Prop} {off : Int} {tgt : Nat} (hd : zD g.2.1 pc (.ifCond .eq off) 3 pc2) (ht : (pc : Int) + off = (tgt : Int)) (kt : ¬ Pq → zV g Post u S I L R tgt lv st) (kf : Pq → zV g Post u S I L R pc2 lv st) : zV g Post u S I L R pc lv (.int (zb Pq) :: st) := z_if_eq hd ht (fun h => kt (zb_eq0.mp h)) (fun h => kf (Classical.byContradiction (fun n => h (zb_f n))))
theorem z_if_neB {Pq : Prop} {off : Int} {tgt : Nat} (hd : zD g.2.1 pc (.ifCond .ne off) 3 pc2) (ht : (pc : Int) + off = (tgt : Int)) (kt : Pq → zV g Post u S I L R tgt lv st) (kf : ¬ Pq → zV g Post u S I L R pc2 lv st) : zV g Post u S I L R pc lv (.int (zb Pq) :: st) := z_if_ne hd ht (fun h => kt (Classical.byContradiction (fun n => h (zb_f n)))) (fun h => kf (zb_eq0.mp h))
theorem z_if_eqT {q : Bool} {off : Int} {tgt : Nat} (hd : zD g.2.1 pc (.ifCond .eq off) 3 pc2) (ht : (pc : Int) + off = (tgt : Int)) (kt : q = false → zV g Post u S I L R tgt lv st) (kf : q = true → zV g Post u S I L R pc2 lv st) : zV g Post u S I L R pc lv (.int (nI q.toNat) :: st) := by cases q with
  | false => exact z_if_eq hd ht (fun _ => kt rfl) (fun h => absurd rfl h)
  | true => exact z_if_eq hd ht (fun h => absurd h (by decide)) (fun _ => kf rfl)
theorem z_if_neT {q : Bool} {off : Int} {tgt : Nat} (hd : zD g.2.1 pc (.ifCond .ne off) 3 pc2) (ht : (pc : Int) + off = (tgt : Int)) (kt : q = true → zV g Post u S I L R tgt lv st) (kf : q = false → zV g Post u S I L R pc2 lv st) : zV g Post u S I L R pc lv (.int (nI q.toNat) :: st) := by cases q with
  | false => exact z_if_ne hd ht (fun h => absurd rfl h) (fun _ => kf rfl)
  | true => exact z_if_ne hd ht (fun _ => kt rfl) (fun h => absurd h (by decide))
abbrev zPv (L : zML) (PM : zMI → Prop) : zMI → zML → Option Value → Prop := fun I2 L2 r => L2 = L ∧ PM I2 ∧ r = none
abbrev zPi (L : zML) (PM : zMI → Int32 → Prop) : zMI → zML → Option Value → Prop := fun I2 L2 r => L2 = L ∧ ∃ v, PM I2 v ∧ r = some (.int v)
abbrev zPr (L : zML) (PM : zMI → Prop) (q : Nat) : zMI → zML → Option Value → Prop := fun I2 L2 r => L2 = L ∧ PM I2 ∧ r = some (.ref q)
variable {y : MethodName} {cc2 : ByteArray} {nL2 d2 n idx : Nat} {rt2 : Option FieldType}
theorem z_callV0p {b ci w : Nat} {v : Int32} (hd : zD g.2.1 pc (.invokevirtual idx) 3 pc2) (hm : zMLV g.1 idx ci y cc2 nL2 rt2 0) (hs : S[b]? = some (ci + 3, w)) (hM : zM0 y cc2 nL2 rt2 d2 (.ref b :: []) S I L R (zPure I L v)) (hdp : d2 + 1 ≤ g.2.2.2.2.2.1) (hst : (st.map fun v => v.category).sum ≤ 8) (hu : u.1 ≤ g.2.2.2.2.2.2.1.1 ∧ u.2 ≤ g.2.2.2.2.2.2.1.2) (kk : zV g Post u S I L R pc2 lv (.int v :: st)) : zV g Post u S I L R pc lv (.ref b :: st) := z_callV0 hd hm hs hM hdp hst hu (fun I2 L2 r h => by obtain ⟨rfl, rfl, rfl⟩ := h; exact kk)
theorem z_callV0v {b ci w : Nat} {PM : zMI → Prop} (hd : zD g.2.1 pc (.invokevirtual idx) 3 pc2) (hm : zMLV g.1 idx ci y cc2 nL2 rt2 0) (hs : S[b]? = some (ci + 3, w)) (hM : zM0 y cc2 nL2 rt2 d2 (.ref b :: []) S I L R (zPv L PM)) (hdp : d2 + 1 ≤ g.2.2.2.2.2.1) (hst : (st.map fun v => v.category).sum ≤ 8) (hu : u.1 ≤ g.2.2.2.2.2.2.1.1 ∧ u.2 ≤ g.2.2.2.2.2.2.1.2) (kk : ∀ I2, PM I2 → zV g Post u S I2 L R pc2 lv st) : zV g Post u S I L R pc lv (.ref b :: st) := z_callV0 hd hm hs hM hdp hst hu (fun I2 L2 r h => by obtain ⟨rfl, h, rfl⟩ := h; exact kk I2 h)
theorem z_callV0i {b ci w : Nat} {PM : zMI → Int32 → Prop} (hd : zD g.2.1 pc (.invokevirtual idx) 3 pc2) (hm : zMLV g.1 idx ci y cc2 nL2 rt2 0) (hs : S[b]? = some (ci + 3, w)) (hM : zM0 y cc2 nL2 rt2 d2 (.ref b :: []) S I L R (zPi L PM)) (hdp : d2 + 1 ≤ g.2.2.2.2.2.1) (hst : (st.map fun v => v.category).sum ≤ 8) (hu : u.1 ≤ g.2.2.2.2.2.2.1.1 ∧ u.2 ≤ g.2.2.2.2.2.2.1.2) (kk : ∀ I2 v, PM I2 v → zV g Post u S I2 L R pc2 lv (.int v :: st)) : zV g Post u S I L R pc lv (.ref b :: st) := z_callV0 hd hm hs hM hdp hst hu (fun I2 L2 r h => by obtain ⟨rfl, v, h, rfl⟩ := h; exact kk I2 v h)
theorem z_callV0r {b ci w : Nat} {PM : zMI → Prop} {q : Nat} (hd : zD g.2.1 pc (.invokevirtual idx) 3 pc2) (hm : zMLV g.1 idx ci y cc2 nL2 rt2 0) (hs : S[b]? = some (ci + 3, w)) (hM : zM0 y cc2 nL2 rt2 d2 (.ref b :: []) S I L R (zPr L PM q)) (hdp : d2 + 1 ≤ g.2.2.2.2.2.1) (hst : (st.map fun v => v.category).sum ≤ 8) (hu : u.1 ≤ g.2.2.2.2.2.2.1.1 ∧ u.2 ≤ g.2.2.2.2.2.2.1.2) (kk : ∀ I2, PM I2 → zV g Post u S I2 L R pc2 lv (.ref q :: st)) : zV g Post u S I L R pc lv (.ref b :: st) := z_callV0 hd hm hs hM hdp hst hu (fun I2 L2 r h => by obtain ⟨rfl, h, rfl⟩ := h; exact kk I2 h)
theorem z_callV1p {v1 : Value} {b ci w : Nat} {v : Int32} (hd : zD g.2.1 pc (.invokevirtual idx) 3 pc2) (hm : zMLV g.1 idx ci y cc2 nL2 rt2 1) (hs : S[b]? = some (ci + 3, w)) (hM : zM0 y cc2 nL2 rt2 d2 (.ref b :: [v1]) S I L R (zPure I L v)) (hdp : d2 + 1 ≤ g.2.2.2.2.2.1) (hst : (st.map fun v => v.category).sum ≤ 8) (hu : u.1 ≤ g.2.2.2.2.2.2.1.1 ∧ u.2 ≤ g.2.2.2.2.2.2.1.2) (kk : zV g Post u S I L R pc2 lv (.int v :: st)) : zV g Post u S I L R pc lv (v1 :: .ref b :: st) := z_callV1 hd hm hs hM hdp hst hu (fun I2 L2 r h => by obtain ⟨rfl, rfl, rfl⟩ := h; exact kk)
theorem z_callV1v {v1 : Value} {b ci w : Nat} {PM : zMI → Prop} (hd : zD g.2.1 pc (.invokevirtual idx) 3 pc2) (hm : zMLV g.1 idx ci y cc2 nL2 rt2 1) (hs : S[b]? = some (ci + 3, w)) (hM : zM0 y cc2 nL2 rt2 d2 (.ref b :: [v1]) S I L R (zPv L PM)) (hdp : d2 + 1 ≤ g.2.2.2.2.2.1) (hst : (st.map fun v => v.category).sum ≤ 8) (hu : u.1 ≤ g.2.2.2.2.2.2.1.1 ∧ u.2 ≤ g.2.2.2.2.2.2.1.2) (kk : ∀ I2, PM I2 → zV g Post u S I2 L R pc2 lv st) : zV g Post u S I L R pc lv (v1 :: .ref b :: st) := z_callV1 hd hm hs hM hdp hst hu (fun I2 L2 r h => by obtain ⟨rfl, h, rfl⟩ := h; exact kk I2 h)
theorem z_callV1i {v1 : Value} {b ci w : Nat} {PM : zMI → Int32 → Prop} (hd : zD g.2.1 pc (.invokevirtual idx) 3 pc2) (hm : zMLV g.1 idx ci y cc2 nL2 rt2 1) (hs : S[b]? = some (ci + 3, w)) (hM : zM0 y cc2 nL2 rt2 d2 (.ref b :: [v1]) S I L R (zPi L PM)) (hdp : d2 + 1 ≤ g.2.2.2.2.2.1) (hst : (st.map fun v => v.category).sum ≤ 8) (hu : u.1 ≤ g.2.2.2.2.2.2.1.1 ∧ u.2 ≤ g.2.2.2.2.2.2.1.2) (kk : ∀ I2 v, PM I2 v → zV g Post u S I2 L R pc2 lv (.int v :: st)) : zV g Post u S I L R pc lv (v1 :: .ref b :: st) := z_callV1 hd hm hs hM hdp hst hu (fun I2 L2 r h => by obtain ⟨rfl, v, h, rfl⟩ := h; exact kk I2 v h)
theorem z_callV2p {v1 v2 : Value} {b ci w : Nat} {v : Int32} (hd : zD g.2.1 pc (.invokevirtual idx) 3 pc2) (hm : zMLV g.1 idx ci y cc2 nL2 rt2 2) (hs : S[b]? = some (ci + 3, w)) (hM : zM0 y cc2 nL2 rt2 d2 (.ref b :: [v1, v2]) S I L R (zPure I L v)) (hdp : d2 + 1 ≤ g.2.2.2.2.2.1) (hst : (st.map fun v => v.category).sum ≤ 8) (hu : u.1 ≤ g.2.2.2.2.2.2.1.1 ∧ u.2 ≤ g.2.2.2.2.2.2.1.2) (kk : zV g Post u S I L R pc2 lv (.int v :: st)) : zV g Post u S I L R pc lv (v2 :: v1 :: .ref b :: st) := z_callV2 hd hm hs hM hdp hst hu (fun I2 L2 r h => by obtain ⟨rfl, rfl, rfl⟩ := h; exact kk)
theorem z_callV2v {v1 v2 : Value} {b ci w : Nat} {PM : zMI → Prop} (hd : zD g.2.1 pc (.invokevirtual idx) 3 pc2) (hm : zMLV g.1 idx ci y cc2 nL2 rt2 2) (hs : S[b]? = some (ci + 3, w)) (hM : zM0 y cc2 nL2 rt2 d2 (.ref b :: [v1, v2]) S I L R (zPv L PM)) (hdp : d2 + 1 ≤ g.2.2.2.2.2.1) (hst : (st.map fun v => v.category).sum ≤ 8) (hu : u.1 ≤ g.2.2.2.2.2.2.1.1 ∧ u.2 ≤ g.2.2.2.2.2.2.1.2) (kk : ∀ I2, PM I2 → zV g Post u S I2 L R pc2 lv st) : zV g Post u S I L R pc lv (v2 :: v1 :: .ref b :: st) := z_callV2 hd hm hs hM hdp hst hu (fun I2 L2 r h => by obtain ⟨rfl, h, rfl⟩ := h; exact kk I2 h)
theorem z_callV2i {v1 v2 : Value} {b ci w : Nat} {PM : zMI → Int32 → Prop} (hd : zD g.2.1 pc (.invokevirtual idx) 3 pc2) (hm : zMLV g.1 idx ci y cc2 nL2 rt2 2) (hs : S[b]? = some (ci + 3, w)) (hM : zM0 y cc2 nL2 rt2 d2 (.ref b :: [v1, v2]) S I L R (zPi L PM)) (hdp : d2 + 1 ≤ g.2.2.2.2.2.1) (hst : (st.map fun v => v.category).sum ≤ 8) (hu : u.1 ≤ g.2.2.2.2.2.2.1.1 ∧ u.2 ≤ g.2.2.2.2.2.2.1.2) (kk : ∀ I2 v, PM I2 v → zV g Post u S I2 L R pc2 lv (.int v :: st)) : zV g Post u S I L R pc lv (v2 :: v1 :: .ref b :: st) := z_callV2 hd hm hs hM hdp hst hu (fun I2 L2 r h => by obtain ⟨rfl, v, h, rfl⟩ := h; exact kk I2 v h)
theorem z_callV3p {v1 v2 v3 : Value} {b ci w : Nat} {v : Int32} (hd : zD g.2.1 pc (.invokevirtual idx) 3 pc2) (hm : zMLV g.1 idx ci y cc2 nL2 rt2 3) (hs : S[b]? = some (ci + 3, w)) (hM : zM0 y cc2 nL2 rt2 d2 (.ref b :: [v1, v2, v3]) S I L R (zPure I L v)) (hdp : d2 + 1 ≤ g.2.2.2.2.2.1) (hst : (st.map fun v => v.category).sum ≤ 8) (hu : u.1 ≤ g.2.2.2.2.2.2.1.1 ∧ u.2 ≤ g.2.2.2.2.2.2.1.2) (kk : zV g Post u S I L R pc2 lv (.int v :: st)) : zV g Post u S I L R pc lv (v3 :: v2 :: v1 :: .ref b :: st) := z_callV3 hd hm hs hM hdp hst hu (fun I2 L2 r h => by obtain ⟨rfl, rfl, rfl⟩ := h; exact kk)
theorem z_callV3v {v1 v2 v3 : Value} {b ci w : Nat} {PM : zMI → Prop} (hd : zD g.2.1 pc (.invokevirtual idx) 3 pc2) (hm : zMLV g.1 idx ci y cc2 nL2 rt2 3) (hs : S[b]? = some (ci + 3, w)) (hM : zM0 y cc2 nL2 rt2 d2 (.ref b :: [v1, v2, v3]) S I L R (zPv L PM)) (hdp : d2 + 1 ≤ g.2.2.2.2.2.1) (hst : (st.map fun v => v.category).sum ≤ 8) (hu : u.1 ≤ g.2.2.2.2.2.2.1.1 ∧ u.2 ≤ g.2.2.2.2.2.2.1.2) (kk : ∀ I2, PM I2 → zV g Post u S I2 L R pc2 lv st) : zV g Post u S I L R pc lv (v3 :: v2 :: v1 :: .ref b :: st) := z_callV3 hd hm hs hM hdp hst hu (fun I2 L2 r h => by obtain ⟨rfl, h, rfl⟩ := h; exact kk I2 h)
theorem z_callV3i {v1 v2 v3 : Value} {b ci w : Nat} {PM : zMI → Int32 → Prop} (hd : zD g.2.1 pc (.invokevirtual idx) 3 pc2) (hm : zMLV g.1 idx ci y cc2 nL2 rt2 3) (hs : S[b]? = some (ci + 3, w)) (hM : zM0 y cc2 nL2 rt2 d2 (.ref b :: [v1, v2, v3]) S I L R (zPi L PM)) (hdp : d2 + 1 ≤ g.2.2.2.2.2.1) (hst : (st.map fun v => v.category).sum ≤ 8) (hu : u.1 ≤ g.2.2.2.2.2.2.1.1 ∧ u.2 ≤ g.2.2.2.2.2.2.1.2) (kk : ∀ I2 v, PM I2 v → zV g Post u S I2 L R pc2 lv (.int v :: st)) : zV g Post u S I L R pc lv (v3 :: v2 :: v1 :: .ref b :: st) := z_callV3 hd hm hs hM hdp hst hu (fun I2 L2 r h => by obtain ⟨rfl, v, h, rfl⟩ := h; exact kk I2 v h)
theorem z_callV4p {v1 v2 v3 v4 : Value} {b ci w : Nat} {v : Int32} (hd : zD g.2.1 pc (.invokevirtual idx) 3 pc2) (hm : zMLV g.1 idx ci y cc2 nL2 rt2 4) (hs : S[b]? = some (ci + 3, w)) (hM : zM0 y cc2 nL2 rt2 d2 (.ref b :: [v1, v2, v3, v4]) S I L R (zPure I L v)) (hdp : d2 + 1 ≤ g.2.2.2.2.2.1) (hst : (st.map fun v => v.category).sum ≤ 8) (hu : u.1 ≤ g.2.2.2.2.2.2.1.1 ∧ u.2 ≤ g.2.2.2.2.2.2.1.2) (kk : zV g Post u S I L R pc2 lv (.int v :: st)) : zV g Post u S I L R pc lv (v4 :: v3 :: v2 :: v1 :: .ref b :: st) := z_callV4 hd hm hs hM hdp hst hu (fun I2 L2 r h => by obtain ⟨rfl, rfl, rfl⟩ := h; exact kk)
theorem z_callV4v {v1 v2 v3 v4 : Value} {b ci w : Nat} {PM : zMI → Prop} (hd : zD g.2.1 pc (.invokevirtual idx) 3 pc2) (hm : zMLV g.1 idx ci y cc2 nL2 rt2 4) (hs : S[b]? = some (ci + 3, w)) (hM : zM0 y cc2 nL2 rt2 d2 (.ref b :: [v1, v2, v3, v4]) S I L R (zPv L PM)) (hdp : d2 + 1 ≤ g.2.2.2.2.2.1) (hst : (st.map fun v => v.category).sum ≤ 8) (hu : u.1 ≤ g.2.2.2.2.2.2.1.1 ∧ u.2 ≤ g.2.2.2.2.2.2.1.2) (kk : ∀ I2, PM I2 → zV g Post u S I2 L R pc2 lv st) : zV g Post u S I L R pc lv (v4 :: v3 :: v2 :: v1 :: .ref b :: st) := z_callV4 hd hm hs hM hdp hst hu (fun I2 L2 r h => by obtain ⟨rfl, h, rfl⟩ := h; exact kk I2 h)
theorem z_callV4i {v1 v2 v3 v4 : Value} {b ci w : Nat} {PM : zMI → Int32 → Prop} (hd : zD g.2.1 pc (.invokevirtual idx) 3 pc2) (hm : zMLV g.1 idx ci y cc2 nL2 rt2 4) (hs : S[b]? = some (ci + 3, w)) (hM : zM0 y cc2 nL2 rt2 d2 (.ref b :: [v1, v2, v3, v4]) S I L R (zPi L PM)) (hdp : d2 + 1 ≤ g.2.2.2.2.2.1) (hst : (st.map fun v => v.category).sum ≤ 8) (hu : u.1 ≤ g.2.2.2.2.2.2.1.1 ∧ u.2 ≤ g.2.2.2.2.2.2.1.2) (kk : ∀ I2 v, PM I2 v → zV g Post u S I2 L R pc2 lv (.int v :: st)) : zV g Post u S I L R pc lv (v4 :: v3 :: v2 :: v1 :: .ref b :: st) := z_callV4 hd hm hs hM hdp hst hu (fun I2 L2 r h => by obtain ⟨rfl, v, h, rfl⟩ := h; exact kk I2 v h)
theorem z_callV5p {v1 v2 v3 v4 v5 : Value} {b ci w : Nat} {v : Int32} (hd : zD g.2.1 pc (.invokevirtual idx) 3 pc2) (hm : zMLV g.1 idx ci y cc2 nL2 rt2 5) (hs : S[b]? = some (ci + 3, w)) (hM : zM0 y cc2 nL2 rt2 d2 (.ref b :: [v1, v2, v3, v4, v5]) S I L R (zPure I L v)) (hdp : d2 + 1 ≤ g.2.2.2.2.2.1) (hst : (st.map fun v => v.category).sum ≤ 8) (hu : u.1 ≤ g.2.2.2.2.2.2.1.1 ∧ u.2 ≤ g.2.2.2.2.2.2.1.2) (kk : zV g Post u S I L R pc2 lv (.int v :: st)) : zV g Post u S I L R pc lv (v5 :: v4 :: v3 :: v2 :: v1 :: .ref b :: st) := z_callV5 hd hm hs hM hdp hst hu (fun I2 L2 r h => by obtain ⟨rfl, rfl, rfl⟩ := h; exact kk)
theorem z_callV5v {v1 v2 v3 v4 v5 : Value} {b ci w : Nat} {PM : zMI → Prop} (hd : zD g.2.1 pc (.invokevirtual idx) 3 pc2) (hm : zMLV g.1 idx ci y cc2 nL2 rt2 5) (hs : S[b]? = some (ci + 3, w)) (hM : zM0 y cc2 nL2 rt2 d2 (.ref b :: [v1, v2, v3, v4, v5]) S I L R (zPv L PM)) (hdp : d2 + 1 ≤ g.2.2.2.2.2.1) (hst : (st.map fun v => v.category).sum ≤ 8) (hu : u.1 ≤ g.2.2.2.2.2.2.1.1 ∧ u.2 ≤ g.2.2.2.2.2.2.1.2) (kk : ∀ I2, PM I2 → zV g Post u S I2 L R pc2 lv st) : zV g Post u S I L R pc lv (v5 :: v4 :: v3 :: v2 :: v1 :: .ref b :: st) := z_callV5 hd hm hs hM hdp hst hu (fun I2 L2 r h => by obtain ⟨rfl, h, rfl⟩ := h; exact kk I2 h)
theorem z_callV5i {v1 v2 v3 v4 v5 : Value} {b ci w : Nat} {PM : zMI → Int32 → Prop} (hd : zD g.2.1 pc (.invokevirtual idx) 3 pc2) (hm : zMLV g.1 idx ci y cc2 nL2 rt2 5) (hs : S[b]? = some (ci + 3, w)) (hM : zM0 y cc2 nL2 rt2 d2 (.ref b :: [v1, v2, v3, v4, v5]) S I L R (zPi L PM)) (hdp : d2 + 1 ≤ g.2.2.2.2.2.1) (hst : (st.map fun v => v.category).sum ≤ 8) (hu : u.1 ≤ g.2.2.2.2.2.2.1.1 ∧ u.2 ≤ g.2.2.2.2.2.2.1.2) (kk : ∀ I2 v, PM I2 v → zV g Post u S I2 L R pc2 lv (.int v :: st)) : zV g Post u S I L R pc lv (v5 :: v4 :: v3 :: v2 :: v1 :: .ref b :: st) := z_callV5 hd hm hs hM hdp hst hu (fun I2 L2 r h => by obtain ⟨rfl, v, h, rfl⟩ := h; exact kk I2 v h)
theorem z_callS1p {v1 : Value} {v : Int32} (hd : zD g.2.1 pc (.invokestatic idx) 3 pc2) (hm : zMLS g.1 idx y cc2 nL2 rt2 1) (hM : zM0 y cc2 nL2 rt2 d2 [v1] S I L R (zPure I L v)) (hdp : d2 + 1 ≤ g.2.2.2.2.2.1) (hst : (st.map fun v => v.category).sum ≤ 8) (hu : u.1 ≤ g.2.2.2.2.2.2.1.1 ∧ u.2 ≤ g.2.2.2.2.2.2.1.2) (kk : zV g Post u S I L R pc2 lv (.int v :: st)) : zV g Post u S I L R pc lv (v1 :: st) := z_callS1 hd hm hM hdp hst hu (fun I2 L2 r h => by obtain ⟨rfl, rfl, rfl⟩ := h; exact kk)
theorem z_callS1v {v1 : Value} {PM : zMI → Prop} (hd : zD g.2.1 pc (.invokestatic idx) 3 pc2) (hm : zMLS g.1 idx y cc2 nL2 rt2 1) (hM : zM0 y cc2 nL2 rt2 d2 [v1] S I L R (zPv L PM)) (hdp : d2 + 1 ≤ g.2.2.2.2.2.1) (hst : (st.map fun v => v.category).sum ≤ 8) (hu : u.1 ≤ g.2.2.2.2.2.2.1.1 ∧ u.2 ≤ g.2.2.2.2.2.2.1.2) (kk : ∀ I2, PM I2 → zV g Post u S I2 L R pc2 lv st) : zV g Post u S I L R pc lv (v1 :: st) := z_callS1 hd hm hM hdp hst hu (fun I2 L2 r h => by obtain ⟨rfl, h, rfl⟩ := h; exact kk I2 h)
theorem z_callS1i {v1 : Value} {PM : zMI → Int32 → Prop} (hd : zD g.2.1 pc (.invokestatic idx) 3 pc2) (hm : zMLS g.1 idx y cc2 nL2 rt2 1) (hM : zM0 y cc2 nL2 rt2 d2 [v1] S I L R (zPi L PM)) (hdp : d2 + 1 ≤ g.2.2.2.2.2.1) (hst : (st.map fun v => v.category).sum ≤ 8) (hu : u.1 ≤ g.2.2.2.2.2.2.1.1 ∧ u.2 ≤ g.2.2.2.2.2.2.1.2) (kk : ∀ I2 v, PM I2 v → zV g Post u S I2 L R pc2 lv (.int v :: st)) : zV g Post u S I L R pc lv (v1 :: st) := z_callS1 hd hm hM hdp hst hu (fun I2 L2 r h => by obtain ⟨rfl, v, h, rfl⟩ := h; exact kk I2 v h)
theorem z_callS2p {v1 v2 : Value} {v : Int32} (hd : zD g.2.1 pc (.invokestatic idx) 3 pc2) (hm : zMLS g.1 idx y cc2 nL2 rt2 2) (hM : zM0 y cc2 nL2 rt2 d2 [v1, v2] S I L R (zPure I L v)) (hdp : d2 + 1 ≤ g.2.2.2.2.2.1) (hst : (st.map fun v => v.category).sum ≤ 8) (hu : u.1 ≤ g.2.2.2.2.2.2.1.1 ∧ u.2 ≤ g.2.2.2.2.2.2.1.2) (kk : zV g Post u S I L R pc2 lv (.int v :: st)) : zV g Post u S I L R pc lv (v2 :: v1 :: st) := z_callS2 hd hm hM hdp hst hu (fun I2 L2 r h => by obtain ⟨rfl, rfl, rfl⟩ := h; exact kk)
theorem z_callS2v {v1 v2 : Value} {PM : zMI → Prop} (hd : zD g.2.1 pc (.invokestatic idx) 3 pc2) (hm : zMLS g.1 idx y cc2 nL2 rt2 2) (hM : zM0 y cc2 nL2 rt2 d2 [v1, v2] S I L R (zPv L PM)) (hdp : d2 + 1 ≤ g.2.2.2.2.2.1) (hst : (st.map fun v => v.category).sum ≤ 8) (hu : u.1 ≤ g.2.2.2.2.2.2.1.1 ∧ u.2 ≤ g.2.2.2.2.2.2.1.2) (kk : ∀ I2, PM I2 → zV g Post u S I2 L R pc2 lv st) : zV g Post u S I L R pc lv (v2 :: v1 :: st) := z_callS2 hd hm hM hdp hst hu (fun I2 L2 r h => by obtain ⟨rfl, h, rfl⟩ := h; exact kk I2 h)
theorem z_callS2i {v1 v2 : Value} {PM : zMI → Int32 → Prop} (hd : zD g.2.1 pc (.invokestatic idx) 3 pc2) (hm : zMLS g.1 idx y cc2 nL2 rt2 2) (hM : zM0 y cc2 nL2 rt2 d2 [v1, v2] S I L R (zPi L PM)) (hdp : d2 + 1 ≤ g.2.2.2.2.2.1) (hst : (st.map fun v => v.category).sum ≤ 8) (hu : u.1 ≤ g.2.2.2.2.2.2.1.1 ∧ u.2 ≤ g.2.2.2.2.2.2.1.2) (kk : ∀ I2 v, PM I2 v → zV g Post u S I2 L R pc2 lv (.int v :: st)) : zV g Post u S I L R pc lv (v2 :: v1 :: st) := z_callS2 hd hm hM hdp hst hu (fun I2 L2 r h => by obtain ⟨rfl, v, h, rfl⟩ := h; exact kk I2 v h)
theorem z_callS3p {v1 v2 v3 : Value} {v : Int32} (hd : zD g.2.1 pc (.invokestatic idx) 3 pc2) (hm : zMLS g.1 idx y cc2 nL2 rt2 3) (hM : zM0 y cc2 nL2 rt2 d2 [v1, v2, v3] S I L R (zPure I L v)) (hdp : d2 + 1 ≤ g.2.2.2.2.2.1) (hst : (st.map fun v => v.category).sum ≤ 8) (hu : u.1 ≤ g.2.2.2.2.2.2.1.1 ∧ u.2 ≤ g.2.2.2.2.2.2.1.2) (kk : zV g Post u S I L R pc2 lv (.int v :: st)) : zV g Post u S I L R pc lv (v3 :: v2 :: v1 :: st) := z_callS3 hd hm hM hdp hst hu (fun I2 L2 r h => by obtain ⟨rfl, rfl, rfl⟩ := h; exact kk)
theorem z_callS3v {v1 v2 v3 : Value} {PM : zMI → Prop} (hd : zD g.2.1 pc (.invokestatic idx) 3 pc2) (hm : zMLS g.1 idx y cc2 nL2 rt2 3) (hM : zM0 y cc2 nL2 rt2 d2 [v1, v2, v3] S I L R (zPv L PM)) (hdp : d2 + 1 ≤ g.2.2.2.2.2.1) (hst : (st.map fun v => v.category).sum ≤ 8) (hu : u.1 ≤ g.2.2.2.2.2.2.1.1 ∧ u.2 ≤ g.2.2.2.2.2.2.1.2) (kk : ∀ I2, PM I2 → zV g Post u S I2 L R pc2 lv st) : zV g Post u S I L R pc lv (v3 :: v2 :: v1 :: st) := z_callS3 hd hm hM hdp hst hu (fun I2 L2 r h => by obtain ⟨rfl, h, rfl⟩ := h; exact kk I2 h)
theorem z_callS3i {v1 v2 v3 : Value} {PM : zMI → Int32 → Prop} (hd : zD g.2.1 pc (.invokestatic idx) 3 pc2) (hm : zMLS g.1 idx y cc2 nL2 rt2 3) (hM : zM0 y cc2 nL2 rt2 d2 [v1, v2, v3] S I L R (zPi L PM)) (hdp : d2 + 1 ≤ g.2.2.2.2.2.1) (hst : (st.map fun v => v.category).sum ≤ 8) (hu : u.1 ≤ g.2.2.2.2.2.2.1.1 ∧ u.2 ≤ g.2.2.2.2.2.2.1.2) (kk : ∀ I2 v, PM I2 v → zV g Post u S I2 L R pc2 lv (.int v :: st)) : zV g Post u S I L R pc lv (v3 :: v2 :: v1 :: st) := z_callS3 hd hm hM hdp hst hu (fun I2 L2 r h => by obtain ⟨rfl, v, h, rfl⟩ := h; exact kk I2 v h)
theorem z_callS4p {v1 v2 v3 v4 : Value} {v : Int32} (hd : zD g.2.1 pc (.invokestatic idx) 3 pc2) (hm : zMLS g.1 idx y cc2 nL2 rt2 4) (hM : zM0 y cc2 nL2 rt2 d2 [v1, v2, v3, v4] S I L R (zPure I L v)) (hdp : d2 + 1 ≤ g.2.2.2.2.2.1) (hst : (st.map fun v => v.category).sum ≤ 8) (hu : u.1 ≤ g.2.2.2.2.2.2.1.1 ∧ u.2 ≤ g.2.2.2.2.2.2.1.2) (kk : zV g Post u S I L R pc2 lv (.int v :: st)) : zV g Post u S I L R pc lv (v4 :: v3 :: v2 :: v1 :: st) := z_callS4 hd hm hM hdp hst hu (fun I2 L2 r h => by obtain ⟨rfl, rfl, rfl⟩ := h; exact kk)
theorem z_callS4v {v1 v2 v3 v4 : Value} {PM : zMI → Prop} (hd : zD g.2.1 pc (.invokestatic idx) 3 pc2) (hm : zMLS g.1 idx y cc2 nL2 rt2 4) (hM : zM0 y cc2 nL2 rt2 d2 [v1, v2, v3, v4] S I L R (zPv L PM)) (hdp : d2 + 1 ≤ g.2.2.2.2.2.1) (hst : (st.map fun v => v.category).sum ≤ 8) (hu : u.1 ≤ g.2.2.2.2.2.2.1.1 ∧ u.2 ≤ g.2.2.2.2.2.2.1.2) (kk : ∀ I2, PM I2 → zV g Post u S I2 L R pc2 lv st) : zV g Post u S I L R pc lv (v4 :: v3 :: v2 :: v1 :: st) := z_callS4 hd hm hM hdp hst hu (fun I2 L2 r h => by obtain ⟨rfl, h, rfl⟩ := h; exact kk I2 h)
theorem z_callS4i {v1 v2 v3 v4 : Value} {PM : zMI → Int32 → Prop} (hd : zD g.2.1 pc (.invokestatic idx) 3 pc2) (hm : zMLS g.1 idx y cc2 nL2 rt2 4) (hM : zM0 y cc2 nL2 rt2 d2 [v1, v2, v3, v4] S I L R (zPi L PM)) (hdp : d2 + 1 ≤ g.2.2.2.2.2.1) (hst : (st.map fun v => v.category).sum ≤ 8) (hu : u.1 ≤ g.2.2.2.2.2.2.1.1 ∧ u.2 ≤ g.2.2.2.2.2.2.1.2) (kk : ∀ I2 v, PM I2 v → zV g Post u S I2 L R pc2 lv (.int v :: st)) : zV g Post u S I L R pc lv (v4 :: v3 :: v2 :: v1 :: st) := z_callS4 hd hm hM hdp hst hu (fun I2 L2 r h => by obtain ⟨rfl, v, h, rfl⟩ := h; exact kk I2 v h)
theorem z_callS5p {v1 v2 v3 v4 v5 : Value} {v : Int32} (hd : zD g.2.1 pc (.invokestatic idx) 3 pc2) (hm : zMLS g.1 idx y cc2 nL2 rt2 5) (hM : zM0 y cc2 nL2 rt2 d2 [v1, v2, v3, v4, v5] S I L R (zPure I L v)) (hdp : d2 + 1 ≤ g.2.2.2.2.2.1) (hst : (st.map fun v => v.category).sum ≤ 8) (hu : u.1 ≤ g.2.2.2.2.2.2.1.1 ∧ u.2 ≤ g.2.2.2.2.2.2.1.2) (kk : zV g Post u S I L R pc2 lv (.int v :: st)) : zV g Post u S I L R pc lv (v5 :: v4 :: v3 :: v2 :: v1 :: st) := z_callS5 hd hm hM hdp hst hu (fun I2 L2 r h => by obtain ⟨rfl, rfl, rfl⟩ := h; exact kk)
theorem z_callS5v {v1 v2 v3 v4 v5 : Value} {PM : zMI → Prop} (hd : zD g.2.1 pc (.invokestatic idx) 3 pc2) (hm : zMLS g.1 idx y cc2 nL2 rt2 5) (hM : zM0 y cc2 nL2 rt2 d2 [v1, v2, v3, v4, v5] S I L R (zPv L PM)) (hdp : d2 + 1 ≤ g.2.2.2.2.2.1) (hst : (st.map fun v => v.category).sum ≤ 8) (hu : u.1 ≤ g.2.2.2.2.2.2.1.1 ∧ u.2 ≤ g.2.2.2.2.2.2.1.2) (kk : ∀ I2, PM I2 → zV g Post u S I2 L R pc2 lv st) : zV g Post u S I L R pc lv (v5 :: v4 :: v3 :: v2 :: v1 :: st) := z_callS5 hd hm hM hdp hst hu (fun I2 L2 r h => by obtain ⟨rfl, h, rfl⟩ := h; exact kk I2 h)
theorem z_callS5i {v1 v2 v3 v4 v5 : Value} {PM : zMI → Int32 → Prop} (hd : zD g.2.1 pc (.invokestatic idx) 3 pc2) (hm : zMLS g.1 idx y cc2 nL2 rt2 5) (hM : zM0 y cc2 nL2 rt2 d2 [v1, v2, v3, v4, v5] S I L R (zPi L PM)) (hdp : d2 + 1 ≤ g.2.2.2.2.2.1) (hst : (st.map fun v => v.category).sum ≤ 8) (hu : u.1 ≤ g.2.2.2.2.2.2.1.1 ∧ u.2 ≤ g.2.2.2.2.2.2.1.2) (kk : ∀ I2 v, PM I2 v → zV g Post u S I2 L R pc2 lv (.int v :: st)) : zV g Post u S I L R pc lv (v5 :: v4 :: v3 :: v2 :: v1 :: st) := z_callS5 hd hm hM hdp hst hu (fun I2 L2 r h => by obtain ⟨rfl, v, h, rfl⟩ := h; exact kk I2 v h)
theorem z_callSN1p {v1 : Value} {host : String} {v : Int32} (hd : zD g.2.1 pc (.invokestatic idx) 3 pc2) (hm : zMLN g.1 idx y cc2 nL2 rt2 1 host) (hms : Cond.static y ∈ zT) (hM : zM0 y cc2 nL2 rt2 d2 [v1] S I L R (zPure I L v)) (hdp : d2 + 1 ≤ g.2.2.2.2.2.1) (hst : (st.map fun v => v.category).sum ≤ 8) (hu : u.1 ≤ g.2.2.2.2.2.2.1.1 ∧ u.2 ≤ g.2.2.2.2.2.2.1.2) (kk : zV g Post u S I L R pc2 lv (.int v :: st)) : zV g Post u S I L R pc lv (v1 :: st) := z_callSN1 hd hm hms hM hdp hst hu (fun I2 L2 r h => by obtain ⟨rfl, rfl, rfl⟩ := h; exact kk)
theorem z_callSN1v {v1 : Value} {host : String} {PM : zMI → Prop} (hd : zD g.2.1 pc (.invokestatic idx) 3 pc2) (hm : zMLN g.1 idx y cc2 nL2 rt2 1 host) (hms : Cond.static y ∈ zT) (hM : zM0 y cc2 nL2 rt2 d2 [v1] S I L R (zPv L PM)) (hdp : d2 + 1 ≤ g.2.2.2.2.2.1) (hst : (st.map fun v => v.category).sum ≤ 8) (hu : u.1 ≤ g.2.2.2.2.2.2.1.1 ∧ u.2 ≤ g.2.2.2.2.2.2.1.2) (kk : ∀ I2, PM I2 → zV g Post u S I2 L R pc2 lv st) : zV g Post u S I L R pc lv (v1 :: st) := z_callSN1 hd hm hms hM hdp hst hu (fun I2 L2 r h => by obtain ⟨rfl, h, rfl⟩ := h; exact kk I2 h)
theorem z_callSN1i {v1 : Value} {host : String} {PM : zMI → Int32 → Prop} (hd : zD g.2.1 pc (.invokestatic idx) 3 pc2) (hm : zMLN g.1 idx y cc2 nL2 rt2 1 host) (hms : Cond.static y ∈ zT) (hM : zM0 y cc2 nL2 rt2 d2 [v1] S I L R (zPi L PM)) (hdp : d2 + 1 ≤ g.2.2.2.2.2.1) (hst : (st.map fun v => v.category).sum ≤ 8) (hu : u.1 ≤ g.2.2.2.2.2.2.1.1 ∧ u.2 ≤ g.2.2.2.2.2.2.1.2) (kk : ∀ I2 v, PM I2 v → zV g Post u S I2 L R pc2 lv (.int v :: st)) : zV g Post u S I L R pc lv (v1 :: st) := z_callSN1 hd hm hms hM hdp hst hu (fun I2 L2 r h => by obtain ⟨rfl, v, h, rfl⟩ := h; exact kk I2 v h)
end ZR2
end
section
/-! ===== numbers as sets of bits ===== -/
def bm : Nat → (Nat → Bool) → Nat
  | 0, _ => 0
  | n + 1, f => bm n f + (f n).toNat * 2 ^ n
theorem bm_lt (n : Nat) (f : Nat → Bool) : bm n f < 2 ^ n := by
  induction n with
  | zero => simp [bm]
  | succ n ih =>
    have h : (f n).toNat ≤ 1 := by cases f n <;> decide
    have h2 : (f n).toNat * 2 ^ n ≤ 1 * 2 ^ n := Nat.mul_le_mul_right _ h
    rw [bm, Nat.pow_succ]
    omega
theorem bm_bit (n : Nat) (f : Nat → Bool) (i : Nat) : (bm n f).testBit i = (decide (i < n) && f i) := by
  induction n with
  | zero => simp [bm]
  | succ n ih =>
    rw [bm, Nat.add_comm, Nat.mul_comm]
    by_cases hi : i < n
    · rw [Nat.testBit_two_pow_mul_add _ (bm_lt n f), if_pos hi, ih]
      simp [hi, Nat.lt_succ_of_lt hi]
    · rw [Nat.testBit_two_pow_mul_add _ (bm_lt n f), if_neg hi]
      by_cases he : i = n
      · subst he
        rw [Nat.sub_self]
        cases f i <;> simp
      · have h1 : ¬ i < n + 1 := by omega
        obtain ⟨d, hd⟩ : ∃ d, i - n = d + 1 := ⟨i - n - 1, by omega⟩
        rw [hd]
        cases f n <;> simp [h1, Nat.testBit_succ]
theorem bm_eq {n : Nat} {f : Nat → Bool} {a : Nat} (ha : a < 2 ^ n) (h : ∀ i, i < n → a.testBit i = f i) : a = bm n f := by
  apply Nat.eq_of_testBit_eq
  intro i
  rw [bm_bit]
  by_cases hi : i < n
  · simp [hi, h i hi]
  · simp only [hi, decide_false, Bool.false_and]
    exact Nat.testBit_lt_two_pow (Nat.lt_of_lt_of_le ha (Nat.pow_le_pow_right (by decide) (by omega)))
theorem bm_congr {n : Nat} {f g : Nat → Bool} (h : ∀ i, i < n → f i = g i) : bm n f = bm n g := bm_eq (bm_lt n f) (fun i hi => by rw [bm_bit]; simp [hi, h i hi])
theorem bits_lt {a n : Nat} (h : ∀ i, n ≤ i → a.testBit i = false) : a < 2 ^ n := Nat.lt_pow_two_of_testBit a (fun i hi => h i hi)
theorem bm_lt31 {n : Nat} (hn : n ≤ 30) (f : Nat → Bool) : bm n f < 2147483648 := Nat.lt_of_lt_of_le (bm_lt n f) (Nat.le_trans (Nat.pow_le_pow_right (by decide) hn) (by decide))
theorem pow_lt31 {n : Nat} (hn : n ≤ 30) : 2 ^ n < 2147483648 := Nat.lt_of_le_of_lt (Nat.pow_le_pow_right (by decide) hn) (by decide)
/-! ===== what a state is ===== -/
/-- a shape: x, y, x2, y2, its cuts from the left -/
abbrev Sh : Type := Nat × Nat × Nat × Nat × List Nat
def sx (s : Sh) : Nat := s.1
def sy (s : Sh) : Nat := s.2.1
def sx2 (s : Sh) : Nat := s.2.2.1
def sy2 (s : Sh) : Nat := s.2.2.2.1
def sc (s : Sh) : List Nat := s.2.2.2.2
/-- a layout: shapes, D, STITCH, CLASH, what is fixed (0 no, 1 on mask 0, 2 on mask 1) -/
abbrev Ly : Type := List Sh × Nat × Nat × Nat × (Nat → Nat)
def lD (v : Ly) : Nat := v.2.1
def lST (v : Ly) : Nat := v.2.2.1
def lCL (v : Ly) : Nat := v.2.2.2.1
def lfx (v : Ly) : Nat → Nat := v.2.2.2.2
def cm (c : List Nat) : Nat := bm 15 (fun i => decide (i ∈ c))
def fm (f : Nat → Nat) : Nat := bm 14 (fun i => decide (f i ≠ 0))
def fo (f : Nat → Nat) : Nat := bm 14 (fun i => decide (f i = 2))
def cOk (x x2 : Nat) (c : List Nat) : Prop := c = [] ∨ (∃ a, c = [a] ∧ x ≤ a ∧ a < x2) ∨ ∃ a b, c = [a, b] ∧ x ≤ a ∧ a < b ∧ b < x2
def shOk (s : Sh) : Prop := sx s ≤ sx2 s ∧ sx2 s ≤ 15 ∧ sy s ≤ sy2 s ∧ sy2 s ≤ 15 ∧ cOk (sx s) (sx2 s) (sc s)
def np (l : List Sh) : Nat := (l.map (fun s => 1 + (sc s).length)).sum
def ovl (s t : Sh) : Prop := sx s ≤ sx2 t ∧ sx t ≤ sx2 s ∧ sy s ≤ sy2 t ∧ sy t ≤ sy2 s
def lyOk (v : Ly) : Prop := v.1.length ≤ 10 ∧ (∀ s ∈ v.1, shOk s) ∧ np v.1 ≤ 14 ∧ (∀ (i j : Nat) (s t : Sh), v.1[i]? = some s → v.1[j]? = some t → i ≠ j → ¬ ovl s t) ∧ 1 ≤ lD v ∧ lD v ≤ 8 ∧ lST v ≤ 9 ∧ lCL v ≤ 99 ∧ (∀ p, lfx v p ≤ 2) ∧ (∀ p, np v.1 ≤ p → lfx v p = 0)
/-- the class's picture of a layout at b -/
def zCLy (I : zMI) (b : Nat) (v : Ly) : Prop := I b 5 = nI v.1.length ∧ (∀ (k : Nat) (s : Sh), v.1[k]? = some s → I (b + 1) k = nI (sx s) ∧ I (b + 2) k = nI (sy s) ∧ I (b + 3) k = nI (sx2 s) ∧ I (b + 4) k = nI (sy2 s) ∧ I (b + 5) k = nI (cm (sc s))) ∧ I b 6 = nI (lD v) ∧ I b 7 = nI (lST v) ∧ I b 8 = nI (lCL v) ∧ I b 9 = nI (fm (lfx v)) ∧ I b 10 = nI (fo (lfx v))
theorem zCLy.frame {I I2 : zMI} {b : Nat} {v : Ly} (h : zCLy I b v) (hf : ∀ p, b ≤ p → p ≤ b + 5 → I2 p = I p) : zCLy I2 b v := by
  obtain ⟨h0, h1, h2⟩ := h
  unfold zCLy
  rw [hf b (by omega) (by omega), hf (b + 1) (by omega) (by omega), hf (b + 2) (by omega) (by omega), hf (b + 3) (by omega) (by omega), hf (b + 4) (by omega) (by omega), hf (b + 5) (by omega) (by omega)]
  exact ⟨h0, h1, h2⟩
/-! ===== where the cells are ===== -/
def zLay (S : zS) (R : zMR) (b : Nat) : Prop := (S[b]? = some (2 + 3, 0)) ∧ (R b 0 = some (b + 1)) ∧ (R b 1 = some (b + 2)) ∧ (R b 2 = some (b + 3)) ∧ (R b 3 = some (b + 4)) ∧ (R b 4 = some (b + 5)) ∧ (S[b + 1]? = some (0, 10)) ∧ (S[b + 2]? = some (0, 10)) ∧ (S[b + 3]? = some (0, 10)) ∧ (S[b + 4]? = some (0, 10)) ∧ (S[b + 5]? = some (0, 10))
theorem zLay.o {S : zS} {R : zMR} {b : Nat} (h : zLay S R b) : S[b]? = some (2 + 3, 0) := h.1
theorem zLay.r0 {S : zS} {R : zMR} {b : Nat} (h : zLay S R b) : R b 0 = some (b + 1) := h.2.1
theorem zLay.r1 {S : zS} {R : zMR} {b : Nat} (h : zLay S R b) : R b 1 = some (b + 2) := h.2.2.1
theorem zLay.r2 {S : zS} {R : zMR} {b : Nat} (h : zLay S R b) : R b 2 = some (b + 3) := h.2.2.2.1
theorem zLay.r3 {S : zS} {R : zMR} {b : Nat} (h : zLay S R b) : R b 3 = some (b + 4) := h.2.2.2.2.1
theorem zLay.r4 {S : zS} {R : zMR} {b : Nat} (h : zLay S R b) : R b 4 = some (b + 5) := h.2.2.2.2.2.1
theorem zLay.a0 {S : zS} {R : zMR} {b : Nat} (h : zLay S R b) : S[b + 1]? = some (0, 10) := h.2.2.2.2.2.2.1
theorem zLay.a1 {S : zS} {R : zMR} {b : Nat} (h : zLay S R b) : S[b + 2]? = some (0, 10) := h.2.2.2.2.2.2.2.1
theorem zLay.a2 {S : zS} {R : zMR} {b : Nat} (h : zLay S R b) : S[b + 3]? = some (0, 10) := h.2.2.2.2.2.2.2.2.1
theorem zLay.a3 {S : zS} {R : zMR} {b : Nat} (h : zLay S R b) : S[b + 4]? = some (0, 10) := h.2.2.2.2.2.2.2.2.2.1
theorem zLay.a4 {S : zS} {R : zMR} {b : Nat} (h : zLay S R b) : S[b + 5]? = some (0, 10) := h.2.2.2.2.2.2.2.2.2.2
def zPcs (S : zS) (R : zMR) (b : Nat) : Prop := (S[b]? = some (4 + 3, 0)) ∧ (R b 0 = some (b + 1)) ∧ (R b 1 = some (b + 2)) ∧ (R b 2 = some (b + 3)) ∧ (R b 3 = some (b + 4)) ∧ (R b 4 = some (b + 5)) ∧ (R b 5 = some (b + 6)) ∧ (R b 6 = some (b + 7)) ∧ (R b 7 = some (b + 8)) ∧ (S[b + 1]? = some (0, 14)) ∧ (S[b + 2]? = some (0, 14)) ∧ (S[b + 3]? = some (0, 14)) ∧ (S[b + 4]? = some (0, 14)) ∧ (S[b + 5]? = some (0, 14)) ∧ (S[b + 6]? = some (0, 14)) ∧ (S[b + 7]? = some (0, 14)) ∧ (S[b + 8]? = some (0, 14))
theorem zPcs.o {S : zS} {R : zMR} {b : Nat} (h : zPcs S R b) : S[b]? = some (4 + 3, 0) := h.1
theorem zPcs.r0 {S : zS} {R : zMR} {b : Nat} (h : zPcs S R b) : R b 0 = some (b + 1) := h.2.1
theorem zPcs.r1 {S : zS} {R : zMR} {b : Nat} (h : zPcs S R b) : R b 1 = some (b + 2) := h.2.2.1
theorem zPcs.r2 {S : zS} {R : zMR} {b : Nat} (h : zPcs S R b) : R b 2 = some (b + 3) := h.2.2.2.1
theorem zPcs.r3 {S : zS} {R : zMR} {b : Nat} (h : zPcs S R b) : R b 3 = some (b + 4) := h.2.2.2.2.1
theorem zPcs.r4 {S : zS} {R : zMR} {b : Nat} (h : zPcs S R b) : R b 4 = some (b + 5) := h.2.2.2.2.2.1
theorem zPcs.r5 {S : zS} {R : zMR} {b : Nat} (h : zPcs S R b) : R b 5 = some (b + 6) := h.2.2.2.2.2.2.1
theorem zPcs.r6 {S : zS} {R : zMR} {b : Nat} (h : zPcs S R b) : R b 6 = some (b + 7) := h.2.2.2.2.2.2.2.1
theorem zPcs.r7 {S : zS} {R : zMR} {b : Nat} (h : zPcs S R b) : R b 7 = some (b + 8) := h.2.2.2.2.2.2.2.2.1
theorem zPcs.a0 {S : zS} {R : zMR} {b : Nat} (h : zPcs S R b) : S[b + 1]? = some (0, 14) := h.2.2.2.2.2.2.2.2.2.1
theorem zPcs.a1 {S : zS} {R : zMR} {b : Nat} (h : zPcs S R b) : S[b + 2]? = some (0, 14) := h.2.2.2.2.2.2.2.2.2.2.1
theorem zPcs.a2 {S : zS} {R : zMR} {b : Nat} (h : zPcs S R b) : S[b + 3]? = some (0, 14) := h.2.2.2.2.2.2.2.2.2.2.2.1
theorem zPcs.a3 {S : zS} {R : zMR} {b : Nat} (h : zPcs S R b) : S[b + 4]? = some (0, 14) := h.2.2.2.2.2.2.2.2.2.2.2.2.1
theorem zPcs.a4 {S : zS} {R : zMR} {b : Nat} (h : zPcs S R b) : S[b + 5]? = some (0, 14) := h.2.2.2.2.2.2.2.2.2.2.2.2.2.1
theorem zPcs.a5 {S : zS} {R : zMR} {b : Nat} (h : zPcs S R b) : S[b + 6]? = some (0, 14) := h.2.2.2.2.2.2.2.2.2.2.2.2.2.2.1
theorem zPcs.a6 {S : zS} {R : zMR} {b : Nat} (h : zPcs S R b) : S[b + 7]? = some (0, 14) := h.2.2.2.2.2.2.2.2.2.2.2.2.2.2.2.1
theorem zPcs.a7 {S : zS} {R : zMR} {b : Nat} (h : zPcs S R b) : S[b + 8]? = some (0, 14) := h.2.2.2.2.2.2.2.2.2.2.2.2.2.2.2.2
def zBst (S : zS) (R : zMR) (b pb : Nat) : Prop := (S[b]? = some (0 + 3, 0)) ∧ (R b 0 = some pb) ∧ (zPcs S R pb)
theorem zBst.o {S : zS} {R : zMR} {b pb : Nat} (h : zBst S R b pb) : S[b]? = some (0 + 3, 0) := h.1
theorem zBst.r0 {S : zS} {R : zMR} {b pb : Nat} (h : zBst S R b pb) : R b 0 = some pb := h.2.1
theorem zBst.p {S : zS} {R : zMR} {b pb : Nat} (h : zBst S R b pb) : zPcs S R pb := h.2.2
def zLnk (S : zS) (R : zMR) (b pb : Nat) : Prop := (S[b]? = some (3 + 3, 0)) ∧ (R b 0 = some pb) ∧ (zPcs S R pb)
theorem zLnk.o {S : zS} {R : zMR} {b pb : Nat} (h : zLnk S R b pb) : S[b]? = some (3 + 3, 0) := h.1
theorem zLnk.r0 {S : zS} {R : zMR} {b pb : Nat} (h : zLnk S R b pb) : R b 0 = some pb := h.2.1
theorem zLnk.p {S : zS} {R : zMR} {b pb : Nat} (h : zLnk S R b pb) : zPcs S R pb := h.2.2
def zHis (S : zS) (R : zMR) (b rb lb : Nat) : Prop := (S[b]? = some (1 + 3, 0)) ∧ (R b 0 = some rb) ∧ (S[rb]? = some (2, 8)) ∧ (∀ j, j < 8 → R rb j = some (lb + 6 * j)) ∧ (∀ j, j < 8 → zLay S R (lb + 6 * j))
theorem zHis.o {S : zS} {R : zMR} {b rb lb : Nat} (h : zHis S R b rb lb) : S[b]? = some (1 + 3, 0) := h.1
theorem zHis.r0 {S : zS} {R : zMR} {b rb lb : Nat} (h : zHis S R b rb lb) : R b 0 = some rb := h.2.1
theorem zHis.ra {S : zS} {R : zMR} {b rb lb : Nat} (h : zHis S R b rb lb) : S[rb]? = some (2, 8) := h.2.2.1
theorem zHis.rr {S : zS} {R : zMR} {b rb lb : Nat} (h : zHis S R b rb lb) : ∀ j, j < 8 → R rb j = some (lb + 6 * j) := h.2.2.2.1
theorem zHis.ly {S : zS} {R : zMR} {b rb lb : Nat} (h : zHis S R b rb lb) : ∀ j, j < 8 → zLay S R (lb + 6 * j) := h.2.2.2.2
def zTM (S : zS) (R : zMR) : Prop := (S[0]? = some (5 + 3, 0)) ∧ (R 0 0 = some 1) ∧ (R 0 1 = some 7) ∧ (R 0 2 = some 16) ∧ (R 0 3 = some 17) ∧ (R 0 5 = some 18) ∧ (R 0 6 = some 24) ∧ (R 0 7 = some 33) ∧ (R 0 8 = some 34) ∧ (R 0 9 = some 84) ∧ (R 0 10 = some 90) ∧ (zLay S R 1) ∧ (zPcs S R 7) ∧ (zLnk S R 16 7) ∧ (zBst S R 17 7) ∧ (zLay S R 18) ∧ (zPcs S R 24) ∧ (zBst S R 33 24) ∧ (zHis S R 34 35 36) ∧ (zLay S R 84) ∧ (zLay S R 90)
theorem zTM.o {S : zS} {R : zMR} (h : zTM S R) : S[0]? = some (5 + 3, 0) := h.1
theorem zTM.r0 {S : zS} {R : zMR} (h : zTM S R) : R 0 0 = some 1 := h.2.1
theorem zTM.q0 {S : zS} {R : zMR} (h : zTM S R) : zLay S R 1 := h.2.2.2.2.2.2.2.2.2.2.2.1
theorem zTM.r1 {S : zS} {R : zMR} (h : zTM S R) : R 0 1 = some 7 := h.2.2.1
theorem zTM.q1 {S : zS} {R : zMR} (h : zTM S R) : zPcs S R 7 := h.2.2.2.2.2.2.2.2.2.2.2.2.1
theorem zTM.r2 {S : zS} {R : zMR} (h : zTM S R) : R 0 2 = some 16 := h.2.2.2.1
theorem zTM.q2 {S : zS} {R : zMR} (h : zTM S R) : zLnk S R 16 7 := h.2.2.2.2.2.2.2.2.2.2.2.2.2.1
theorem zTM.r3 {S : zS} {R : zMR} (h : zTM S R) : R 0 3 = some 17 := h.2.2.2.2.1
theorem zTM.q3 {S : zS} {R : zMR} (h : zTM S R) : zBst S R 17 7 := h.2.2.2.2.2.2.2.2.2.2.2.2.2.2.1
theorem zTM.r5 {S : zS} {R : zMR} (h : zTM S R) : R 0 5 = some 18 := h.2.2.2.2.2.1
theorem zTM.q5 {S : zS} {R : zMR} (h : zTM S R) : zLay S R 18 := h.2.2.2.2.2.2.2.2.2.2.2.2.2.2.2.1
theorem zTM.r6 {S : zS} {R : zMR} (h : zTM S R) : R 0 6 = some 24 := h.2.2.2.2.2.2.1
theorem zTM.q6 {S : zS} {R : zMR} (h : zTM S R) : zPcs S R 24 := h.2.2.2.2.2.2.2.2.2.2.2.2.2.2.2.2.1
theorem zTM.r7 {S : zS} {R : zMR} (h : zTM S R) : R 0 7 = some 33 := h.2.2.2.2.2.2.2.1
theorem zTM.q7 {S : zS} {R : zMR} (h : zTM S R) : zBst S R 33 24 := h.2.2.2.2.2.2.2.2.2.2.2.2.2.2.2.2.2.1
theorem zTM.r8 {S : zS} {R : zMR} (h : zTM S R) : R 0 8 = some 34 := h.2.2.2.2.2.2.2.2.1
theorem zTM.q8 {S : zS} {R : zMR} (h : zTM S R) : zHis S R 34 35 36 := h.2.2.2.2.2.2.2.2.2.2.2.2.2.2.2.2.2.2.1
theorem zTM.r9 {S : zS} {R : zMR} (h : zTM S R) : R 0 9 = some 84 := h.2.2.2.2.2.2.2.2.2.1
theorem zTM.q9 {S : zS} {R : zMR} (h : zTM S R) : zLay S R 84 := h.2.2.2.2.2.2.2.2.2.2.2.2.2.2.2.2.2.2.2.1
theorem zTM.r10 {S : zS} {R : zMR} (h : zTM S R) : R 0 10 = some 90 := h.2.2.2.2.2.2.2.2.2.2.1
theorem zTM.q10 {S : zS} {R : zMR} (h : zTM S R) : zLay S R 90 := h.2.2.2.2.2.2.2.2.2.2.2.2.2.2.2.2.2.2.2.2
def zMod (S : zS) (R : zMR) (b : Nat) : Prop := (S[b]? = some (6 + 3, 0)) ∧ (R b 0 = some (b + 1)) ∧ (R b 1 = some (b + 2)) ∧ (R b 3 = some (b + 3)) ∧ (R b 4 = some (b + 4)) ∧ (R b 6 = some (b + 5)) ∧ (R b 7 = some (b + 6)) ∧ (R b 8 = some (b + 7)) ∧ (R b 9 = some (b + 8)) ∧ (R b 10 = some (b + 9)) ∧ (R b 15 = some (b + 10)) ∧ (S[b + 1]? = some (0, 78)) ∧ (S[b + 2]? = some (0, 624)) ∧ (S[b + 3]? = some (0, 156)) ∧ (S[b + 4]? = some (1, 2)) ∧ (S[b + 5]? = some (0, 14)) ∧ (S[b + 6]? = some (0, 14)) ∧ (S[b + 7]? = some (0, 14)) ∧ (S[b + 8]? = some (0, 14)) ∧ (S[b + 9]? = some (0, 14)) ∧ (S[b + 10]? = some (0, 78))
theorem zMod.o {S : zS} {R : zMR} {b : Nat} (h : zMod S R b) : S[b]? = some (6 + 3, 0) := h.1
theorem zMod.r0 {S : zS} {R : zMR} {b : Nat} (h : zMod S R b) : R b 0 = some (b + 1) := h.2.1
theorem zMod.r1 {S : zS} {R : zMR} {b : Nat} (h : zMod S R b) : R b 1 = some (b + 2) := h.2.2.1
theorem zMod.r3 {S : zS} {R : zMR} {b : Nat} (h : zMod S R b) : R b 3 = some (b + 3) := h.2.2.2.1
theorem zMod.r4 {S : zS} {R : zMR} {b : Nat} (h : zMod S R b) : R b 4 = some (b + 4) := h.2.2.2.2.1
theorem zMod.r6 {S : zS} {R : zMR} {b : Nat} (h : zMod S R b) : R b 6 = some (b + 5) := h.2.2.2.2.2.1
theorem zMod.r7 {S : zS} {R : zMR} {b : Nat} (h : zMod S R b) : R b 7 = some (b + 6) := h.2.2.2.2.2.2.1
theorem zMod.r8 {S : zS} {R : zMR} {b : Nat} (h : zMod S R b) : R b 8 = some (b + 7) := h.2.2.2.2.2.2.2.1
theorem zMod.r9 {S : zS} {R : zMR} {b : Nat} (h : zMod S R b) : R b 9 = some (b + 8) := h.2.2.2.2.2.2.2.2.1
theorem zMod.r10 {S : zS} {R : zMR} {b : Nat} (h : zMod S R b) : R b 10 = some (b + 9) := h.2.2.2.2.2.2.2.2.2.1
theorem zMod.r15 {S : zS} {R : zMR} {b : Nat} (h : zMod S R b) : R b 15 = some (b + 10) := h.2.2.2.2.2.2.2.2.2.2.1
theorem zMod.a0 {S : zS} {R : zMR} {b : Nat} (h : zMod S R b) : S[b + 1]? = some (0, 78) := h.2.2.2.2.2.2.2.2.2.2.2.1
theorem zMod.a1 {S : zS} {R : zMR} {b : Nat} (h : zMod S R b) : S[b + 2]? = some (0, 624) := h.2.2.2.2.2.2.2.2.2.2.2.2.1
theorem zMod.a3 {S : zS} {R : zMR} {b : Nat} (h : zMod S R b) : S[b + 3]? = some (0, 156) := h.2.2.2.2.2.2.2.2.2.2.2.2.2.1
theorem zMod.a4 {S : zS} {R : zMR} {b : Nat} (h : zMod S R b) : S[b + 4]? = some (1, 2) := h.2.2.2.2.2.2.2.2.2.2.2.2.2.2.1
theorem zMod.a6 {S : zS} {R : zMR} {b : Nat} (h : zMod S R b) : S[b + 5]? = some (0, 14) := h.2.2.2.2.2.2.2.2.2.2.2.2.2.2.2.1
theorem zMod.a7 {S : zS} {R : zMR} {b : Nat} (h : zMod S R b) : S[b + 6]? = some (0, 14) := h.2.2.2.2.2.2.2.2.2.2.2.2.2.2.2.2.1
theorem zMod.a8 {S : zS} {R : zMR} {b : Nat} (h : zMod S R b) : S[b + 7]? = some (0, 14) := h.2.2.2.2.2.2.2.2.2.2.2.2.2.2.2.2.2.1
theorem zMod.a9 {S : zS} {R : zMR} {b : Nat} (h : zMod S R b) : S[b + 8]? = some (0, 14) := h.2.2.2.2.2.2.2.2.2.2.2.2.2.2.2.2.2.2.1
theorem zMod.a10 {S : zS} {R : zMR} {b : Nat} (h : zMod S R b) : S[b + 9]? = some (0, 14) := h.2.2.2.2.2.2.2.2.2.2.2.2.2.2.2.2.2.2.2.1
theorem zMod.a15 {S : zS} {R : zMR} {b : Nat} (h : zMod S R b) : S[b + 10]? = some (0, 78) := h.2.2.2.2.2.2.2.2.2.2.2.2.2.2.2.2.2.2.2.2
section ZS3
variable {g : zG} {Post : zPost} {u : Nat × Nat} {S : zS} {I : zMI} {L : zML} {R : zMR} {pc pc2 : Nat} {lv : List (Option Value)} {st : List Value}
theorem z_shl1 {k : Nat} (hd : zD g.2.1 pc .ishl 1 pc2) (hk : k < 31) (kk : zV g Post u S I L R pc2 lv (.int (nI (2 ^ k)) :: st)) : zV g Post u S I L R pc lv (.int (nI k) :: .int (nI 1) :: st) := by
  refine z_ishlN hd (by omega) ?_ ?_
  · have := pow_lt31 (n := k) (by omega)
    omega
  · rw [Nat.one_mul]; exact kk
end ZS3
theorem zM0_of {y : MethodName} {own : String} {cc : ByteArray} {nL : Nat} {rt : Option FieldType} {d : Nat} {av : List Value} {S : zS} {I : zMI} {L : zML} {R : zMR} {PostM : zMI → zML → Option Value → Prop} {lv : List (Option Value)} (hown : y.cls = own) (hy : plainName own = true) (ha : zArg nL av = lv) (hn : lv.length = nL)
    (h : zV (zMt own cc nL rt d) (fun S2 I2 L2 R2 r => S2 = S ∧ R2 = R ∧ PostM I2 L2 r) (0, 0) S I L R 0 lv []) : zM0 y cc nL rt d av S I L R PostM := by
  subst hown
  exact zMet_of (ini := false) hy (fun h => absurd h (by decide)) ha hn h
end
section
/-! ===== counting bits ===== -/
def popc : Nat → Nat → Nat
  | 0, _ => 0
  | n + 1, a => popc n a + (a.testBit n).toNat
def allB : Nat → (Nat → Bool) → Nat → Bool
  | 0, f, lo => f lo
  | n + 1, f, lo => allB n f lo && allB n f (lo + 2 ^ n)
theorem allB_spec : ∀ (n : Nat) (f : Nat → Bool) (lo : Nat), allB n f lo = true → ∀ a, lo ≤ a → a < lo + 2 ^ n → f a = true
  | 0, f, lo, h, a, h1, h2 => by
    have : a = lo := by simp at h2; omega
    rw [this]; exact h
  | n + 1, f, lo, h, a, h1, h2 => by
    simp only [allB, Bool.and_eq_true] at h
    rw [Nat.pow_succ] at h2
    by_cases hl : a < lo + 2 ^ n
    · exact allB_spec n f lo h.1 a h1 hl
    · exact allB_spec n f (lo + 2 ^ n) h.2 a (by omega) (by omega)
def bc1 (a : Nat) : Nat := a - (a / 2 ^ 1 &&& 1431655765)
def bc2 (a : Nat) : Nat := (a &&& 858993459) + (a / 2 ^ 2 &&& 858993459)
def bc3 (a : Nat) : Nat := (a + a / 2 ^ 4) &&& 252645135
def bc4 (a : Nat) : Nat := a + a / 2 ^ 8
def bc5 (a : Nat) : Nat := a + a / 2 ^ 16
def bcN (a : Nat) : Nat := bc5 (bc4 (bc3 (bc2 (bc1 a)))) &&& 63
def pcS (a : Nat) : Nat := a % 2 + a / 2 % 2 + a / 4 % 2 + a / 8 % 2 + a / 16 % 2 + a / 32 % 2 + a / 64 % 2 + a / 128 % 2 + a / 256 % 2 + a / 512 % 2 + a / 1024 % 2 + a / 2048 % 2 + a / 4096 % 2 + a / 8192 % 2
theorem bcN_all0 : allB 11 (fun a => Nat.beq (bcN a) (pcS a)) 0 = true := by decide +kernel
theorem bcN_all1 : allB 11 (fun a => Nat.beq (bcN a) (pcS a)) 2048 = true := by decide +kernel
theorem bcN_all2 : allB 11 (fun a => Nat.beq (bcN a) (pcS a)) 4096 = true := by decide +kernel
theorem bcN_all3 : allB 11 (fun a => Nat.beq (bcN a) (pcS a)) 6144 = true := by decide +kernel
theorem bcN_all4 : allB 11 (fun a => Nat.beq (bcN a) (pcS a)) 8192 = true := by decide +kernel
theorem bcN_all5 : allB 11 (fun a => Nat.beq (bcN a) (pcS a)) 10240 = true := by decide +kernel
theorem bcN_all6 : allB 11 (fun a => Nat.beq (bcN a) (pcS a)) 12288 = true := by decide +kernel
theorem bcN_all7 : allB 11 (fun a => Nat.beq (bcN a) (pcS a)) 14336 = true := by decide +kernel
theorem bit_mod (a i : Nat) : (a.testBit i).toNat = a / 2 ^ i % 2 := by
  rw [← bit_and, Nat.and_one_is_mod, Nat.shiftRight_eq_div_pow]
theorem popc_pcS (a : Nat) : popc 14 a = pcS a := by
  simp only [popc, bit_mod, pcS]
  simp
theorem bcN_eq {a : Nat} (h : a < 16384) : bcN a = popc 14 a := by
  rw [popc_pcS]
  apply Nat.eq_of_beq_eq_true
  by_cases h0 : a < 2048
  · exact allB_spec 11 _ 0 bcN_all0 a (by omega) (by omega)
  by_cases h1 : a < 4096
  · exact allB_spec 11 _ 2048 bcN_all1 a (by omega) (by omega)
  by_cases h2 : a < 6144
  · exact allB_spec 11 _ 4096 bcN_all2 a (by omega) (by omega)
  by_cases h3 : a < 8192
  · exact allB_spec 11 _ 6144 bcN_all3 a (by omega) (by omega)
  by_cases h4 : a < 10240
  · exact allB_spec 11 _ 8192 bcN_all4 a (by omega) (by omega)
  by_cases h5 : a < 12288
  · exact allB_spec 11 _ 10240 bcN_all5 a (by omega) (by omega)
  by_cases h6 : a < 14336
  · exact allB_spec 11 _ 12288 bcN_all6 a (by omega) (by omega)
  exact allB_spec 11 _ 14336 bcN_all7 a (by omega) (by omega)
theorem shcu : ∀ k, k < 32 → (((nI k).toUInt32 &&& Int32.toUInt32 31).toBitVec % 32).toNat = k := by decide +kernel
theorem nI_ushr {a k : Nat} (ha : a < 4294967296) (hk : k < 32) : ((nI a).toUInt32 >>> ((nI k).toUInt32 &&& Int32.toUInt32 31)).toInt32 = nI (a / 2 ^ k) := pk_ushrN (by omega) _ k (shcu k hk)
theorem popc_le (n a : Nat) : popc n a ≤ n := by
  induction n with
  | zero => simp [popc]
  | succ n ih =>
    have : (a.testBit n).toNat ≤ 1 := by cases a.testBit n <;> decide
    rw [popc]; omega
theorem popc_congr {n a b : Nat} (h : ∀ i, i < n → a.testBit i = b.testBit i) : popc n a = popc n b := by
  induction n with
  | zero => rfl
  | succ n ih => rw [popc, popc, ih (fun i hi => h i (by omega)), h n (by omega)]
/-! ===== cuts ===== -/
theorem cm_bit (c : List Nat) (i : Nat) : (cm c).testBit i = (decide (i < 15) && decide (i ∈ c)) := bm_bit 15 _ i
theorem cm_lt (c : List Nat) : cm c < 32768 := bm_lt 15 _
theorem popc_bm (n : Nat) (f : Nat → Bool) : popc n (bm n f) = ((List.range n).filter f).length := by
  have key : ∀ m, m ≤ n → popc m (bm n f) = ((List.range m).filter f).length := by
    intro m
    induction m with
    | zero => intro _; rfl
    | succ m ih =>
      intro hm
      rw [popc, ih (by omega), List.range_succ, List.filter_append, List.length_append, bm_bit]
      have : decide (m < n) = true := by simp; omega
      rw [this, Bool.true_and]
      cases hf : f m
      · simp [hf]
      · simp [hf]
  exact key n (Nat.le_refl n)
theorem bcN_cm1 : ∀ a, a < 15 → bcN (cm [a]) = 1 := by decide +kernel
theorem bcN_cm2 : ∀ b, b < 15 → ∀ a, a < b → bcN (cm [a, b]) = 2 := by decide +kernel
theorem bcN_cm {x x2 : Nat} {c : List Nat} (h : cOk x x2 c) (hx : x2 ≤ 15) : bcN (cm c) = c.length := by
  rcases h with rfl | ⟨a, rfl, h1, h2⟩ | ⟨a, b, rfl, h1, h2, h3⟩
  · decide +kernel
  · exact bcN_cm1 a (by omega)
  · exact bcN_cm2 b (by omega) a h2
theorem cOk_len {x x2 : Nat} {c : List Nat} (h : cOk x x2 c) : c.length ≤ 2 := by
  rcases h with rfl | ⟨a, rfl, h1, h2⟩ | ⟨a, b, rfl, h1, h2, h3⟩ <;> simp
theorem cOk_mem {x x2 : Nat} {c : List Nat} (h : cOk x x2 c) {i : Nat} (hi : i ∈ c) : x ≤ i ∧ i < x2 := by
  rcases h with rfl | ⟨a, rfl, h1, h2⟩ | ⟨a, b, rfl, h1, h2, h3⟩
  · simp at hi
  · simp at hi; omega
  · simp at hi; omega
/-! ===== how many pieces ===== -/
theorem np_nil : np [] = 0 := rfl
theorem np_cons (s : Sh) (l : List Sh) : np (s :: l) = 1 + (sc s).length + np l := by simp [np]
theorem np_append (a b : List Sh) : np (a ++ b) = np a + np b := by simp [np]
theorem np_take_succ {l : List Sh} {i : Nat} {s : Sh} (h : l[i]? = some s) : np (l.take (i + 1)) = np (l.take i) + (1 + (sc s).length) := by
  rw [List.take_succ, h, np_append]
  simp [np]
theorem np_take_le (l : List Sh) (i : Nat) : np (l.take i) ≤ np l := by
  have := np_append (l.take i) (l.drop i)
  rw [List.take_append_drop] at this
  omega
theorem np_take_all {l : List Sh} {i : Nat} (h : l.length ≤ i) : np (l.take i) = np l := by rw [List.take_of_length_le h]
theorem lyOk.sh {v : Ly} (h : lyOk v) {k : Nat} {s : Sh} (hk : v.1[k]? = some s) : shOk s := h.2.1 s (List.mem_of_getElem? hk)
theorem getS {l : List Sh} {i : Nat} (h : i < l.length) : ∃ s, l[i]? = some s := ⟨_, List.getElem?_eq_getElem h⟩
theorem getS_lt {l : List Sh} {i : Nat} {s : Sh} (h : l[i]? = some s) : i < l.length := (List.getElem?_eq_some_iff.mp h).1
/-! ===== refusals ===== -/
noncomputable def zif (P : Prop) (a b : Int32) : Int32 := @ite _ P (Classical.propDecidable P) a b
theorem zif_t {P : Prop} {a b : Int32} (h : P) : zif P a b = a := by unfold zif; exact if_pos h
theorem zif_f {P : Prop} {a b : Int32} (h : ¬ P) : zif P a b = b := by unfold zif; exact if_neg h
def onF (a b c d : Int) : Prop := 0 ≤ a ∧ a ≤ 15 ∧ 0 ≤ b ∧ b ≤ 15 ∧ 0 ≤ c ∧ c ≤ 15 ∧ 0 ≤ d ∧ d ≤ 15
/-- no place of these is of a shape but one -/
def isFr (l : List Sh) (a t c d : Int) (but : Int) : Prop := ∀ (k : Nat) (s : Sh), l[k]? = some s → (k : Int) ≠ but → ¬ (a ≤ sx2 s ∧ (sx s : Int) ≤ c ∧ t ≤ sy2 s ∧ (sy s : Int) ≤ d)
def full (l : List Sh) : Prop := 10 ≤ l.length ∨ 14 ≤ np l
def has (l : List Sh) (s : Int) : Prop := 0 ≤ s ∧ s < l.length
abbrev kUNK : Int32 := -1000000001
abbrev kOUT : Int32 := -1000000002
abbrev kNOT : Int32 := -1000000003
abbrev kFUL : Int32 := -1000000004
noncomputable def rNew (l : List Sh) (a t c d : Int) : Int32 := zif (onF a t c d ∧ a ≤ c ∧ t ≤ d) (zif (isFr l a t c d (-1)) (zif (full l) kFUL 0) kNOT) kOUT
def area (s : Sh) : Nat := (sx2 s - sx s + 1) * (sy2 s - sy s + 1)
def gt (l : List Sh) (s : Int) : Sh := l.getD s.toNat (0, 0, 0, 0, [])
def steps (dx dy : Int) : Prop := -15 ≤ dx ∧ dx ≤ 15 ∧ -15 ≤ dy ∧ dy ≤ 15
def canStep (l : List Sh) (s dx dy : Int) : Prop := onF (sx (gt l s) + dx) (sy (gt l s) + dy) (sx2 (gt l s) + dx) (sy2 (gt l s) + dy) ∧ isFr l (sx (gt l s) + dx) (sy (gt l s) + dy) (sx2 (gt l s) + dx) (sy2 (gt l s) + dy) s
noncomputable def rStep (l : List Sh) (s dx dy : Int) : Int32 := zif (has l s) (zif (steps dx dy) (zif (canStep l s dx dy) 0 kNOT) kOUT) kUNK
def canCut (l : List Sh) (s x : Int) : Prop := (sx (gt l s) : Int) ≤ x ∧ x < sx2 (gt l s) ∧ x.toNat ∉ sc (gt l s) ∧ (sc (gt l s)).length < 2
noncomputable def rCut (l : List Sh) (s x : Int) : Int32 := zif (has l s) (zif (0 ≤ x ∧ x ≤ 14) (zif (canCut l s x) (zif (14 ≤ np l) kFUL 0) kNOT) kOUT) kUNK
noncomputable def rHeal (l : List Sh) (s x : Int) : Int32 := zif (has l s) (zif (0 ≤ x ∧ x ≤ 14) (zif (x.toNat ∈ sc (gt l s)) 0 kNOT) kOUT) kUNK
theorem gt_nat {l : List Sh} {j : Nat} {s : Sh} (h : l[j]? = some s) : gt l (j : Int) = s := by simp [gt, List.getD_eq_getElem?_getD, h]
end
section
set_option maxRecDepth 100000 in
set_option maxHeartbeats 4000000 in
theorem c_isPlace {S : zS} {R : zMR} (I : zMI) (L : zML) (v : Int32) : zM0 yX5_isPlace cX5_isPlace 1 (some .boolean) 1 [.int v] S I L R (zPure I L (zb (0 ≤ v.toInt ∧ v.toInt ≤ 15))) := by
  refine zM0_of (own := RX5) (lv := [some (.int v)]) rfl (by decide) rfl rfl ?_
  refine z_iload_n dX5_isPlace_0 rfl ?_
  refine z_if_lt (tgt := 14) dX5_isPlace_1 (by decide) (fun h1 => ?_) (fun h1 => ?_)
  · refine z_iconst (nI 0) dX5_isPlace_14 (by decide) ?_
    exact z_iret dX5_isPlace_15 ⟨Nat.le_refl _, Nat.le_refl _⟩ (by first | exact zb_nar _ | rfl) ⟨rfl, rfl, rfl, rfl, congrArg (fun z => some (Value.int z)) (by first | exact zb_1 (by omega) | exact zb_0 (by omega) | exact zb_c (by omega))⟩
  · refine z_iload_n dX5_isPlace_4 rfl ?_
    refine z_bipush (nI 15) dX5_isPlace_5 (by decide) ?_
    refine z_icmp_gtIN (tgt := 14) dX5_isPlace_7 (by decide) (by omega) (fun h7 => ?_) (fun h7 => ?_)
    · refine z_iconst (nI 0) dX5_isPlace_14 (by decide) ?_
      exact z_iret dX5_isPlace_15 ⟨Nat.le_refl _, Nat.le_refl _⟩ (by first | exact zb_nar _ | rfl) ⟨rfl, rfl, rfl, rfl, congrArg (fun z => some (Value.int z)) (by first | exact zb_1 (by omega) | exact zb_0 (by omega) | exact zb_c (by omega))⟩
    · refine z_iconst (nI 1) dX5_isPlace_10 (by decide) ?_
      refine z_goto (tgt := 15) dX5_isPlace_11 (by decide) ?_
      exact z_iret dX5_isPlace_15 ⟨Nat.le_refl _, Nat.le_refl _⟩ (by first | exact zb_nar _ | rfl) ⟨rfl, rfl, rfl, rfl, congrArg (fun z => some (Value.int z)) (by first | exact zb_1 (by omega) | exact zb_0 (by omega) | exact zb_c (by omega))⟩
set_option maxRecDepth 100000 in
set_option maxHeartbeats 4000000 in
theorem c_isStep {S : zS} {R : zMR} (I : zMI) (L : zML) (v : Int32) : zM0 yX2_isStep cX2_isStep 1 (some .boolean) 1 [.int v] S I L R (zPure I L (zb (-15 ≤ v.toInt ∧ v.toInt ≤ 15))) := by
  refine zM0_of (own := RX2) (lv := [some (.int v)]) rfl (by decide) rfl rfl ?_
  have q15 : ((-15 : Int32)).toInt = -15 := by decide
  refine z_iload_n dX2_isStep_0 rfl ?_
  refine z_bipush (-15) dX2_isStep_1 (by decide) ?_
  refine z_icmp_lt (tgt := 16) dX2_isStep_3 (by decide) (fun h3 => ?_) (fun h3 => ?_)
  · refine z_iconst (nI 0) dX2_isStep_16 (by decide) ?_
    exact z_iret dX2_isStep_17 ⟨Nat.le_refl _, Nat.le_refl _⟩ (by first | exact zb_nar _ | rfl) ⟨rfl, rfl, rfl, rfl, congrArg (fun z => some (Value.int z)) (by first | exact zb_1 (by omega) | exact zb_0 (by omega) | exact zb_c (by omega))⟩
  · refine z_iload_n dX2_isStep_6 rfl ?_
    refine z_bipush (nI 15) dX2_isStep_7 (by decide) ?_
    refine z_icmp_gtIN (tgt := 16) dX2_isStep_9 (by decide) (by omega) (fun h9 => ?_) (fun h9 => ?_)
    · refine z_iconst (nI 0) dX2_isStep_16 (by decide) ?_
      exact z_iret dX2_isStep_17 ⟨Nat.le_refl _, Nat.le_refl _⟩ (by first | exact zb_nar _ | rfl) ⟨rfl, rfl, rfl, rfl, congrArg (fun z => some (Value.int z)) (by first | exact zb_1 (by omega) | exact zb_0 (by omega) | exact zb_c (by omega))⟩
    · refine z_iconst (nI 1) dX2_isStep_12 (by decide) ?_
      refine z_goto (tgt := 17) dX2_isStep_13 (by decide) ?_
      exact z_iret dX2_isStep_17 ⟨Nat.le_refl _, Nat.le_refl _⟩ (by first | exact zb_nar _ | rfl) ⟨rfl, rfl, rfl, rfl, congrArg (fun z => some (Value.int z)) (by first | exact zb_1 (by omega) | exact zb_0 (by omega) | exact zb_c (by omega))⟩
set_option maxRecDepth 100000 in
set_option maxHeartbeats 4000000 in
theorem c_isCutPlace {S : zS} {R : zMR} (I : zMI) (L : zML) (v : Int32) : zM0 yX2_isCutPlace cX2_isCutPlace 1 (some .boolean) 1 [.int v] S I L R (zPure I L (zb (0 ≤ v.toInt ∧ v.toInt ≤ 14))) := by
  refine zM0_of (own := RX2) (lv := [some (.int v)]) rfl (by decide) rfl rfl ?_
  refine z_iload_n dX2_isCutPlace_0 rfl ?_
  refine z_if_lt (tgt := 14) dX2_isCutPlace_1 (by decide) (fun h1 => ?_) (fun h1 => ?_)
  · refine z_iconst (nI 0) dX2_isCutPlace_14 (by decide) ?_
    exact z_iret dX2_isCutPlace_15 ⟨Nat.le_refl _, Nat.le_refl _⟩ (by first | exact zb_nar _ | rfl) ⟨rfl, rfl, rfl, rfl, congrArg (fun z => some (Value.int z)) (by first | exact zb_1 (by omega) | exact zb_0 (by omega) | exact zb_c (by omega))⟩
  · refine z_iload_n dX2_isCutPlace_4 rfl ?_
    refine z_bipush (nI 14) dX2_isCutPlace_5 (by decide) ?_
    refine z_icmp_gtIN (tgt := 14) dX2_isCutPlace_7 (by decide) (by omega) (fun h7 => ?_) (fun h7 => ?_)
    · refine z_iconst (nI 0) dX2_isCutPlace_14 (by decide) ?_
      exact z_iret dX2_isCutPlace_15 ⟨Nat.le_refl _, Nat.le_refl _⟩ (by first | exact zb_nar _ | rfl) ⟨rfl, rfl, rfl, rfl, congrArg (fun z => some (Value.int z)) (by first | exact zb_1 (by omega) | exact zb_0 (by omega) | exact zb_c (by omega))⟩
    · refine z_iconst (nI 1) dX2_isCutPlace_10 (by decide) ?_
      refine z_goto (tgt := 15) dX2_isCutPlace_11 (by decide) ?_
      exact z_iret dX2_isCutPlace_15 ⟨Nat.le_refl _, Nat.le_refl _⟩ (by first | exact zb_nar _ | rfl) ⟨rfl, rfl, rfl, rfl, congrArg (fun z => some (Value.int z)) (by first | exact zb_1 (by omega) | exact zb_0 (by omega) | exact zb_c (by omega))⟩
set_option maxRecDepth 100000 in
set_option maxHeartbeats 4000000 in
theorem c_bitCount0 {S : zS} {R : zMR} (I : zMI) (L : zML) (a : Nat) (ha : a < 32768) : zM0 yJ6_bitCount_0f7a4 cJ6_bitCount_0f7a4 1 (some .int) 1 [.int (nI a)] S I L R (zPure I L (nI (bcN a))) := by
  refine zM0_of (own := RJ6) (lv := [some (.int (nI a))]) rfl (by decide) rfl rfl ?_
  have h1 : (a / 2 ^ 1 &&& 1431655765) ≤ a := Nat.le_trans Nat.and_le_left (Nat.div_le_self _ _)
  obtain ⟨r, hr⟩ : ∃ r, r = bcN a := ⟨_, rfl⟩
  rw [← hr]
  unfold bcN at hr
  refine z_iload_n dJ6_bitCount_0f7a4_0 rfl ?_
  refine z_iload_n dJ6_bitCount_0f7a4_1 rfl ?_
  refine z_iconst (nI 1) dJ6_bitCount_0f7a4_2 (by decide) ?_
  refine z_iushr (nI (a / 2 ^ 1)) dJ6_bitCount_0f7a4_3 (nI_ushr (by omega) (by decide)) ?_
  refine z_ldcw dJ6_bitCount_0f7a4_4 kJ6_265 (z_top (y := nI 1431655765) (by decide) ?_)
  refine z_iandN dJ6_bitCount_0f7a4_7 ?_
  refine z_isubN dJ6_bitCount_0f7a4_8 h1 ?_
  have b1 : bc1 a ≤ a := Nat.sub_le _ _
  change zV _ _ _ _ _ _ _ _ _ (.int (nI (bc1 a)) :: []) 
  generalize bc1 a = a1 at b1 hr ⊢
  refine z_ist0 dJ6_bitCount_0f7a4_9 rfl ?_
  refine z_iload_n dJ6_bitCount_0f7a4_10 rfl ?_
  refine z_ldcw dJ6_bitCount_0f7a4_11 kJ6_266 (z_top (y := nI 858993459) (by decide) ?_)
  refine z_iandN dJ6_bitCount_0f7a4_14 ?_
  refine z_iload_n dJ6_bitCount_0f7a4_15 rfl ?_
  refine z_iconst (nI 2) dJ6_bitCount_0f7a4_16 (by decide) ?_
  refine z_iushr (nI (a1 / 2 ^ 2)) dJ6_bitCount_0f7a4_17 (nI_ushr (by omega) (by decide)) ?_
  refine z_ldcw dJ6_bitCount_0f7a4_18 kJ6_266 (z_top (y := nI 858993459) (by decide) ?_)
  refine z_iandN dJ6_bitCount_0f7a4_21 ?_
  refine z_iaddN dJ6_bitCount_0f7a4_22 ?_
  have b2 : bc2 a1 ≤ a1 + a1 := Nat.add_le_add Nat.and_le_left (Nat.le_trans Nat.and_le_left (Nat.div_le_self _ _))
  change zV _ _ _ _ _ _ _ _ _ (.int (nI (bc2 a1)) :: []) 
  generalize bc2 a1 = a2 at b2 hr ⊢
  refine z_ist0 dJ6_bitCount_0f7a4_23 rfl ?_
  refine z_iload_n dJ6_bitCount_0f7a4_24 rfl ?_
  refine z_iload_n dJ6_bitCount_0f7a4_25 rfl ?_
  refine z_iconst (nI 4) dJ6_bitCount_0f7a4_26 (by decide) ?_
  refine z_iushr (nI (a2 / 2 ^ 4)) dJ6_bitCount_0f7a4_27 (nI_ushr (by omega) (by decide)) ?_
  refine z_iaddN dJ6_bitCount_0f7a4_28 ?_
  refine z_ldcw dJ6_bitCount_0f7a4_29 kJ6_267 (z_top (y := nI 252645135) (by decide) ?_)
  refine z_iandN dJ6_bitCount_0f7a4_32 ?_
  have b3 : bc3 a2 ≤ a2 + a2 := Nat.le_trans Nat.and_le_left (Nat.add_le_add_left (Nat.div_le_self _ _) _)
  change zV _ _ _ _ _ _ _ _ _ (.int (nI (bc3 a2)) :: []) 
  generalize bc3 a2 = a3 at b3 hr ⊢
  refine z_ist0 dJ6_bitCount_0f7a4_33 rfl ?_
  refine z_iload_n dJ6_bitCount_0f7a4_34 rfl ?_
  refine z_iload_n dJ6_bitCount_0f7a4_35 rfl ?_
  refine z_bipush (nI 8) dJ6_bitCount_0f7a4_36 (by decide) ?_
  refine z_iushr (nI (a3 / 2 ^ 8)) dJ6_bitCount_0f7a4_38 (nI_ushr (by omega) (by decide)) ?_
  refine z_iaddN dJ6_bitCount_0f7a4_39 ?_
  have b4 : bc4 a3 ≤ a3 + a3 := Nat.add_le_add_left (Nat.div_le_self _ _) _
  change zV _ _ _ _ _ _ _ _ _ (.int (nI (bc4 a3)) :: []) 
  generalize bc4 a3 = a4 at b4 hr ⊢
  refine z_ist0 dJ6_bitCount_0f7a4_40 rfl ?_
  refine z_iload_n dJ6_bitCount_0f7a4_41 rfl ?_
  refine z_iload_n dJ6_bitCount_0f7a4_42 rfl ?_
  refine z_bipush (nI 16) dJ6_bitCount_0f7a4_43 (by decide) ?_
  refine z_iushr (nI (a4 / 2 ^ 16)) dJ6_bitCount_0f7a4_45 (nI_ushr (by omega) (by decide)) ?_
  refine z_iaddN dJ6_bitCount_0f7a4_46 ?_
  refine z_ist0 dJ6_bitCount_0f7a4_47 rfl ?_
  refine z_iload_n dJ6_bitCount_0f7a4_48 rfl ?_
  refine z_bipush (nI 63) dJ6_bitCount_0f7a4_49 (by decide) ?_
  refine z_iandN dJ6_bitCount_0f7a4_51 ?_
  exact z_iret dJ6_bitCount_0f7a4_52 ⟨Nat.le_refl _, Nat.le_refl _⟩ rfl ⟨rfl, rfl, rfl, rfl, congrArg (fun z => some (Value.int z)) (congrArg nI hr.symm)⟩
theorem c_bitCount {S : zS} {R : zMR} (I : zMI) (L : zML) (a : Nat) (ha : a < 16384) : zM0 yJ6_bitCount_0f7a4 cJ6_bitCount_0f7a4 1 (some .int) 1 [.int (nI a)] S I L R (zPure I L (nI (popc 14 a))) := by
  rw [← bcN_eq ha]
  exact c_bitCount0 I L a (by omega)
theorem c_bitCountC {S : zS} {R : zMR} (I : zMI) (L : zML) {x x2 : Nat} {c : List Nat} (h : cOk x x2 c) (hx : x2 ≤ 15) : zM0 yJ6_bitCount_0f7a4 cJ6_bitCount_0f7a4 1 (some .int) 1 [.int (nI (cm c))] S I L R (zPure I L (nI c.length)) := by
  rw [← bcN_cm h hx]
  exact c_bitCount0 I L _ (cm_lt c)
set_option maxRecDepth 100000 in
set_option maxHeartbeats 4000000 in
theorem c_hasShape {S : zS} {R : zMR} (I : zMI) (L : zML) {b : Nat} {v : Ly} (hb : zLay S R b) (hv : zCLy I b v) (ho : lyOk v) (s : Int32) : zM0 yX2_hasShape cX2_hasShape 2 (some .boolean) 1 [.ref b, .int s] S I L R (zPure I L (zb (has v.1 s.toInt))) := by
  refine zM0_of (own := RX2) (lv := [some (.ref b), some (.int s)]) rfl (by decide) rfl rfl ?_
  have hl := ho.1
  refine z_iload_n dX2_hasShape_0 rfl ?_
  refine z_if_lt (tgt := 22) dX2_hasShape_1 (by decide) (fun h1 => ?_) (fun h1 => ?_)
  · refine z_iconst (nI 0) dX2_hasShape_22 (by decide) ?_
    exact z_iret dX2_hasShape_23 ⟨Nat.le_refl _, Nat.le_refl _⟩ (by first | exact zb_nar _ | rfl) ⟨rfl, rfl, rfl, rfl, congrArg (fun z => some (Value.int z)) (by first | exact zb_1 (by unfold has; omega) | exact zb_0 (by unfold has; omega) | exact zb_c (by unfold has; omega))⟩
  · refine z_iload_n dX2_hasShape_4 rfl ?_
    refine z_aload_n dX2_hasShape_5 rfl ?_
    refine z_geti dX2_hasShape_6 fX2_27 hb.o ?_
    refine z_top (hv.1) ?_
    refine z_icmp_geIN (tgt := 22) dX2_hasShape_9 (by decide) (by omega) (fun h9 => ?_) (fun h9 => ?_)
    · refine z_iconst (nI 0) dX2_hasShape_22 (by decide) ?_
      exact z_iret dX2_hasShape_23 ⟨Nat.le_refl _, Nat.le_refl _⟩ (by first | exact zb_nar _ | rfl) ⟨rfl, rfl, rfl, rfl, congrArg (fun z => some (Value.int z)) (by first | exact zb_1 (by unfold has; omega) | exact zb_0 (by unfold has; omega) | exact zb_c (by unfold has; omega))⟩
    · refine z_iload_n dX2_hasShape_12 rfl ?_
      refine z_bipush (nI 10) dX2_hasShape_13 (by decide) ?_
      refine z_icmp_geIN (tgt := 22) dX2_hasShape_15 (by decide) (by omega) (fun h15 => ?_) (fun h15 => ?_)
      · refine z_iconst (nI 0) dX2_hasShape_22 (by decide) ?_
        exact z_iret dX2_hasShape_23 ⟨Nat.le_refl _, Nat.le_refl _⟩ (by first | exact zb_nar _ | rfl) ⟨rfl, rfl, rfl, rfl, congrArg (fun z => some (Value.int z)) (by first | exact zb_1 (by unfold has; omega) | exact zb_0 (by unfold has; omega) | exact zb_c (by unfold has; omega))⟩
      · refine z_iconst (nI 1) dX2_hasShape_18 (by decide) ?_
        refine z_goto (tgt := 23) dX2_hasShape_19 (by decide) ?_
        exact z_iret dX2_hasShape_23 ⟨Nat.le_refl _, Nat.le_refl _⟩ (by first | exact zb_nar _ | rfl) ⟨rfl, rfl, rfl, rfl, congrArg (fun z => some (Value.int z)) (by first | exact zb_1 (by unfold has; omega) | exact zb_0 (by unfold has; omega) | exact zb_c (by unfold has; omega))⟩
set_option maxRecDepth 100000 in
set_option maxHeartbeats 4000000 in
theorem c_isOnField {S : zS} {R : zMR} (I : zMI) (L : zML) (a b c d : Int32) : zM0 yX2_isOnField cX2_isOnField 4 (some .boolean) 2 [.int a, .int b, .int c, .int d] S I L R (zPure I L (zb (onF a.toInt b.toInt c.toInt d.toInt))) := by
  refine zM0_of (own := RX2) (lv := [some (.int a), some (.int b), some (.int c), some (.int d)]) rfl (by decide) rfl rfl ?_
  refine z_iload_n dX2_isOnField_0 rfl ?_
  refine z_callSN1p dX2_isOnField_1 mX2_97 mX2_97_s (c_isPlace I L _) (by decide) (Nat.le_of_ble_eq_true rfl) ⟨Nat.le_refl _, Nat.le_refl _⟩ ?_
  refine z_if_eqB (tgt := 32) dX2_isOnField_4 (by decide) (fun h4 => ?_) (fun h4 => ?_)
  · refine z_iconst (nI 0) dX2_isOnField_32 (by decide) ?_
    exact z_iret dX2_isOnField_33 ⟨Nat.le_refl _, Nat.le_refl _⟩ (by first | exact zb_nar _ | rfl) ⟨rfl, rfl, rfl, rfl, congrArg (fun z => some (Value.int z)) (by first | exact zb_1 (by unfold onF; omega) | exact zb_0 (by unfold onF; omega) | exact zb_c (by unfold onF; omega))⟩
  · refine z_iload_n dX2_isOnField_7 rfl ?_
    refine z_callSN1p dX2_isOnField_8 mX2_97 mX2_97_s (c_isPlace I L _) (by decide) (Nat.le_of_ble_eq_true rfl) ⟨Nat.le_refl _, Nat.le_refl _⟩ ?_
    refine z_if_eqB (tgt := 32) dX2_isOnField_11 (by decide) (fun h11 => ?_) (fun h11 => ?_)
    · refine z_iconst (nI 0) dX2_isOnField_32 (by decide) ?_
      exact z_iret dX2_isOnField_33 ⟨Nat.le_refl _, Nat.le_refl _⟩ (by first | exact zb_nar _ | rfl) ⟨rfl, rfl, rfl, rfl, congrArg (fun z => some (Value.int z)) (by first | exact zb_1 (by unfold onF; omega) | exact zb_0 (by unfold onF; omega) | exact zb_c (by unfold onF; omega))⟩
    · refine z_iload_n dX2_isOnField_14 rfl ?_
      refine z_callSN1p dX2_isOnField_15 mX2_97 mX2_97_s (c_isPlace I L _) (by decide) (Nat.le_of_ble_eq_true rfl) ⟨Nat.le_refl _, Nat.le_refl _⟩ ?_
      refine z_if_eqB (tgt := 32) dX2_isOnField_18 (by decide) (fun h18 => ?_) (fun h18 => ?_)
      · refine z_iconst (nI 0) dX2_isOnField_32 (by decide) ?_
        exact z_iret dX2_isOnField_33 ⟨Nat.le_refl _, Nat.le_refl _⟩ (by first | exact zb_nar _ | rfl) ⟨rfl, rfl, rfl, rfl, congrArg (fun z => some (Value.int z)) (by first | exact zb_1 (by unfold onF; omega) | exact zb_0 (by unfold onF; omega) | exact zb_c (by unfold onF; omega))⟩
      · refine z_iload_n dX2_isOnField_21 rfl ?_
        refine z_callSN1p dX2_isOnField_22 mX2_97 mX2_97_s (c_isPlace I L _) (by decide) (Nat.le_of_ble_eq_true rfl) ⟨Nat.le_refl _, Nat.le_refl _⟩ ?_
        refine z_if_eqB (tgt := 32) dX2_isOnField_25 (by decide) (fun h25 => ?_) (fun h25 => ?_)
        · refine z_iconst (nI 0) dX2_isOnField_32 (by decide) ?_
          exact z_iret dX2_isOnField_33 ⟨Nat.le_refl _, Nat.le_refl _⟩ (by first | exact zb_nar _ | rfl) ⟨rfl, rfl, rfl, rfl, congrArg (fun z => some (Value.int z)) (by first | exact zb_1 (by unfold onF; omega) | exact zb_0 (by unfold onF; omega) | exact zb_c (by unfold onF; omega))⟩
        · refine z_iconst (nI 1) dX2_isOnField_28 (by decide) ?_
          refine z_goto (tgt := 33) dX2_isOnField_29 (by decide) ?_
          exact z_iret dX2_isOnField_33 ⟨Nat.le_refl _, Nat.le_refl _⟩ (by first | exact zb_nar _ | rfl) ⟨rfl, rfl, rfl, rfl, congrArg (fun z => some (Value.int z)) (by first | exact zb_1 (by unfold onF; omega) | exact zb_0 (by unfold onF; omega) | exact zb_c (by unfold onF; omega))⟩
set_option maxRecDepth 100000 in
set_option maxHeartbeats 4000000 in
theorem piecesAhead_loop {S : zS} {R : zMR} (I : zMI) (L : zML) {b : Nat} {v : Ly} (hb : zLay S R b) (hv : zCLy I b v) (ho : lyOk v) (s : Int32) : ∀ (n i : Nat), v.1.length + 1 ≤ i + n → i ≤ v.1.length → ((i : Int) ≤ s.toInt ∨ i = 0) → zV (zMt RX2 cX2_piecesAhead 4 (some .int) 2) (fun S2 I2 L2 R2 r => S2 = S ∧ R2 = R ∧ (zPure I L (nI (np (v.1.take s.toInt.toNat)))) I2 L2 r) (0, 0) S I L R 4 [some (.ref b), some (.int s), some (.int (nI (np (v.1.take i)))), some (.int (nI i))] [] := by
  intro n
  induction n with
  | zero => intro i h1 h2; omega
  | succ n ih =>
    intro i h1 h2 h3
    have hl := ho.1
    have hnp := np_take_le v.1 i
    have hn14 := ho.2.2.1
    refine z_iload_n dX2_piecesAhead_4 rfl ?_
    refine z_iload_n dX2_piecesAhead_5 rfl ?_
    refine z_icmp_geNI (tgt := 37) dX2_piecesAhead_6 (by decide) (by omega) (fun h6 => ?_) (fun h6 => ?_)
    · refine z_iload_n dX2_piecesAhead_37 rfl ?_
      have e : v.1.take i = v.1.take s.toInt.toNat := by
        by_cases q : v.1.length ≤ i
        · rw [List.take_of_length_le q, List.take_of_length_le (by omega)]
        · congr 1; omega
      exact z_iret dX2_piecesAhead_38 ⟨Nat.le_refl _, Nat.le_refl _⟩ rfl ⟨rfl, rfl, rfl, rfl, congrArg (fun z => some (Value.int z)) (by rw [e])⟩
    · refine z_iload_n dX2_piecesAhead_9 rfl ?_
      refine z_aload_n dX2_piecesAhead_10 rfl ?_
      refine z_geti dX2_piecesAhead_11 fX2_27 hb.o ?_
      refine z_top (hv.1) ?_
      refine z_icmp_geNN (tgt := 37) dX2_piecesAhead_14 (by decide) (by omega) (by omega) (fun h14 => ?_) (fun h14 => ?_)
      · refine z_iload_n dX2_piecesAhead_37 rfl ?_
        have e : v.1.take i = v.1.take s.toInt.toNat := by
          by_cases q : v.1.length ≤ i
          · rw [List.take_of_length_le q, List.take_of_length_le (by omega)]
          · congr 1; omega
        exact z_iret dX2_piecesAhead_38 ⟨Nat.le_refl _, Nat.le_refl _⟩ rfl ⟨rfl, rfl, rfl, rfl, congrArg (fun z => some (Value.int z)) (by rw [e])⟩
      · obtain ⟨sh, hsh⟩ := getS h14
        have hso := ho.sh hsh
        refine z_iload_n dX2_piecesAhead_17 rfl ?_
        refine z_iconst (nI 1) dX2_piecesAhead_18 (by decide) ?_
        refine z_aload_n dX2_piecesAhead_19 rfl ?_
        refine z_getr dX2_piecesAhead_20 fX2_24 hb.o hb.r4 ?_
        refine z_iload_n dX2_piecesAhead_23 rfl ?_
        refine z_iaN dX2_piecesAhead_24 hb.a4 (by omega) (by decide) ?_
        refine z_top ((hv.2.1 i sh hsh).2.2.2.2) ?_
        refine z_callS1p dX2_piecesAhead_25 mX2_52 (c_bitCountC I L hso.2.2.2.2 hso.2.1) (by decide) (Nat.le_of_ble_eq_true rfl) ⟨Nat.le_refl _, Nat.le_refl _⟩ ?_
        refine z_iaddN dX2_piecesAhead_28 ?_
        refine z_iaddN dX2_piecesAhead_29 ?_
        refine z_ist2 dX2_piecesAhead_30 rfl ?_
        refine z_iincN3 (n := 1) dX2_piecesAhead_31 rfl ?_
        refine z_goto (tgt := 4) dX2_piecesAhead_34 (by decide) ?_
        rw [← np_take_succ hsh]
        exact ih (i + 1) (by omega) (by omega) (by omega)
set_option maxRecDepth 100000 in
set_option maxHeartbeats 4000000 in
theorem c_piecesAhead {S : zS} {R : zMR} (I : zMI) (L : zML) {b : Nat} {v : Ly} (hb : zLay S R b) (hv : zCLy I b v) (ho : lyOk v) (s : Int32) : zM0 yX2_piecesAhead cX2_piecesAhead 4 (some .int) 2 [.ref b, .int s] S I L R (zPure I L (nI (np (v.1.take s.toInt.toNat)))) := by
  refine zM0_of (own := RX2) (lv := [some (.ref b), some (.int s), none, none]) rfl (by decide) rfl rfl ?_
  refine z_iconst (nI 0) dX2_piecesAhead_0 (by decide) ?_
  refine z_ist2 dX2_piecesAhead_1 rfl ?_
  refine z_iconst (nI 0) dX2_piecesAhead_2 (by decide) ?_
  refine z_ist3 dX2_piecesAhead_3 rfl ?_
  exact piecesAhead_loop I L hb hv ho s (v.1.length + 1) 0 (by omega) (by omega) (Or.inr rfl)
set_option maxRecDepth 100000 in
set_option maxHeartbeats 4000000 in
theorem c_isFull {S : zS} {R : zMR} (I : zMI) (L : zML) {b : Nat} {v : Ly} (hb : zLay S R b) (hv : zCLy I b v) (ho : lyOk v) : zM0 yX2_isFull cX2_isFull 1 (some .boolean) 3 [.ref b] S I L R (zPure I L (zb (full v.1))) := by
  refine zM0_of (own := RX2) (lv := [some (.ref b)]) rfl (by decide) rfl rfl ?_
  have hl := ho.1
  have hn := ho.2.2.1
  have e : v.1.take (nI v.1.length).toInt.toNat = v.1 := by
    rw [nI_T (by omega)]
    exact List.take_of_length_le (by omega)
  refine z_aload_n dX2_isFull_0 rfl ?_
  refine z_geti dX2_isFull_1 fX2_27 hb.o ?_
  refine z_top (hv.1) ?_
  refine z_bipush (nI 10) dX2_isFull_4 (by decide) ?_
  refine z_icmp_geNN (tgt := 22) dX2_isFull_6 (by decide) (by omega) (by omega) (fun h6 => ?_) (fun h6 => ?_)
  · refine z_iconst (nI 1) dX2_isFull_22 (by decide) ?_
    refine z_goto (tgt := 27) dX2_isFull_23 (by decide) ?_
    exact z_iret dX2_isFull_27 ⟨Nat.le_refl _, Nat.le_refl _⟩ (by first | exact zb_nar _ | rfl) ⟨rfl, rfl, rfl, rfl, congrArg (fun z => some (Value.int z)) (by first | exact zb_1 (by unfold full; omega) | exact zb_0 (by unfold full; omega) | exact zb_c (by unfold full; omega))⟩
  · refine z_aload_n dX2_isFull_9 rfl ?_
    refine z_aload_n dX2_isFull_10 rfl ?_
    refine z_geti dX2_isFull_11 fX2_27 hb.o ?_
    refine z_top (hv.1) ?_
    refine z_callV1p dX2_isFull_14 mX2_58 hb.o (c_piecesAhead I L hb hv ho _) (by decide) (Nat.le_of_ble_eq_true rfl) ⟨Nat.le_refl _, Nat.le_refl _⟩ ?_
    rw [e]
    refine z_bipush (nI 14) dX2_isFull_17 (by decide) ?_
    refine z_icmp_ltNN (tgt := 26) dX2_isFull_19 (by decide) (by omega) (by omega) (fun h19 => ?_) (fun h19 => ?_)
    · refine z_iconst (nI 0) dX2_isFull_26 (by decide) ?_
      exact z_iret dX2_isFull_27 ⟨Nat.le_refl _, Nat.le_refl _⟩ (by first | exact zb_nar _ | rfl) ⟨rfl, rfl, rfl, rfl, congrArg (fun z => some (Value.int z)) (by first | exact zb_1 (by unfold full; omega) | exact zb_0 (by unfold full; omega) | exact zb_c (by unfold full; omega))⟩
    · refine z_iconst (nI 1) dX2_isFull_22 (by decide) ?_
      refine z_goto (tgt := 27) dX2_isFull_23 (by decide) ?_
      exact z_iret dX2_isFull_27 ⟨Nat.le_refl _, Nat.le_refl _⟩ (by first | exact zb_nar _ | rfl) ⟨rfl, rfl, rfl, rfl, congrArg (fun z => some (Value.int z)) (by first | exact zb_1 (by unfold full; omega) | exact zb_0 (by unfold full; omega) | exact zb_c (by unfold full; omega))⟩
end
