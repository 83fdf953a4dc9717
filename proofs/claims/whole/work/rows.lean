section
-- ===== PART A: goes FIRST, ahead of the names: the tables' words, and 'selects' of the private methods out of them =====
/-- a private method of a class that the tables say can be made, by its rows of tables_1 -/
def lw_okq (q : MethodName × Nat) : Prop := (q.1.cls ≠ "java/lang/invoke/MethodHandle" ∧ q.1.cls ≠ "java/lang/invoke/VarHandle") ∧ Cond.instantiable q.1.cls q.2 ∈ tables_1 ∧ Cond.privateMethod q.1 ∈ tables_1 ∧ Cond.instanceMethod q.1 ∈ tables_1
theorem lw_p0 : lw_okq (⟨"JoinedSketches", "takeThings", "(LJoinedSketches$Sketch;II)I"⟩, 6) := ⟨⟨by decide +kernel, by decide +kernel⟩, List.mem_of_getElem? (i := 12) (by decide +kernel), List.mem_of_getElem? (i := 189) (by decide +kernel), List.mem_of_getElem? (i := 190) (by decide +kernel)⟩
theorem lw_p1 : lw_okq (⟨"JoinedSketches$Sketch", "raise", "(II)Z"⟩, 5) := ⟨⟨by decide +kernel, by decide +kernel⟩, List.mem_of_getElem? (i := 27) (by decide +kernel), List.mem_of_getElem? (i := 220) (by decide +kernel), List.mem_of_getElem? (i := 221) (by decide +kernel)⟩
theorem lw_p2 : lw_okq (⟨"JoinedSketches$Sketch", "isListed", "(I)Z"⟩, 5) := ⟨⟨by decide +kernel, by decide +kernel⟩, List.mem_of_getElem? (i := 27) (by decide +kernel), List.mem_of_getElem? (i := 232) (by decide +kernel), List.mem_of_getElem? (i := 233) (by decide +kernel)⟩
theorem lw_p3 : lw_okq (⟨"JoinedSketches$Sketch", "fillList", "()V"⟩, 5) := ⟨⟨by decide +kernel, by decide +kernel⟩, List.mem_of_getElem? (i := 27) (by decide +kernel), List.mem_of_getElem? (i := 236) (by decide +kernel), List.mem_of_getElem? (i := 237) (by decide +kernel)⟩
theorem lw_p4 : lw_okq (⟨"JoinedSketches$Sketch", "estimateByEmpty", "(I)I"⟩, 5) := ⟨⟨by decide +kernel, by decide +kernel⟩, List.mem_of_getElem? (i := 27) (by decide +kernel), List.mem_of_getElem? (i := 295) (by decide +kernel), List.mem_of_getElem? (i := 296) (by decide +kernel)⟩
theorem lw_p5 : lw_okq (⟨"JoinedSketches$Sketch", "rootOfBuckets", "()I"⟩, 5) := ⟨⟨by decide +kernel, by decide +kernel⟩, List.mem_of_getElem? (i := 27) (by decide +kernel), List.mem_of_getElem? (i := 351) (by decide +kernel), List.mem_of_getElem? (i := 352) (by decide +kernel)⟩
theorem lw_p6 : lw_okq (⟨"JoinedSketches", "distanceBySalt", "(LJoinedSketches$Sketch;I)I"⟩, 6) := ⟨⟨by decide +kernel, by decide +kernel⟩, List.mem_of_getElem? (i := 12) (by decide +kernel), List.mem_of_getElem? (i := 419) (by decide +kernel), List.mem_of_getElem? (i := 420) (by decide +kernel)⟩
theorem lw_p7 : lw_okq (⟨"JoinedSketches$Pad", "standsAtSketch", "()Z"⟩, 7) := ⟨⟨by decide +kernel, by decide +kernel⟩, List.mem_of_getElem? (i := 83) (by decide +kernel), List.mem_of_getElem? (i := 462) (by decide +kernel), List.mem_of_getElem? (i := 463) (by decide +kernel)⟩
theorem lw_p8 : lw_okq (⟨"JoinedSketches$Pad", "digit", "()I"⟩, 7) := ⟨⟨by decide +kernel, by decide +kernel⟩, List.mem_of_getElem? (i := 83) (by decide +kernel), List.mem_of_getElem? (i := 466) (by decide +kernel), List.mem_of_getElem? (i := 467) (by decide +kernel)⟩
theorem lw_p9 : lw_okq (⟨"JoinedSketches$Pad", "sign", "()C"⟩, 7) := ⟨⟨by decide +kernel, by decide +kernel⟩, List.mem_of_getElem? (i := 83) (by decide +kernel), List.mem_of_getElem? (i := 470) (by decide +kernel), List.mem_of_getElem? (i := 471) (by decide +kernel)⟩
theorem lw_p10 : lw_okq (⟨"JoinedSketches$Pad", "readThings", "()Z"⟩, 7) := ⟨⟨by decide +kernel, by decide +kernel⟩, List.mem_of_getElem? (i := 83) (by decide +kernel), List.mem_of_getElem? (i := 474) (by decide +kernel), List.mem_of_getElem? (i := 475) (by decide +kernel)⟩
theorem lw_p11 : lw_okq (⟨"JoinedSketches$Pad", "readNumber", "()Z"⟩, 7) := ⟨⟨by decide +kernel, by decide +kernel⟩, List.mem_of_getElem? (i := 83) (by decide +kernel), List.mem_of_getElem? (i := 478) (by decide +kernel), List.mem_of_getElem? (i := 479) (by decide +kernel)⟩
theorem lw_p12 : lw_okq (⟨"JoinedSketches$Pad", "keepNumber", "(I)V"⟩, 7) := ⟨⟨by decide +kernel, by decide +kernel⟩, List.mem_of_getElem? (i := 83) (by decide +kernel), List.mem_of_getElem? (i := 483) (by decide +kernel), List.mem_of_getElem? (i := 484) (by decide +kernel)⟩
theorem lw_p13 : lw_okq (⟨"JoinedSketches$Pad", "readOther", "()Z"⟩, 7) := ⟨⟨by decide +kernel, by decide +kernel⟩, List.mem_of_getElem? (i := 83) (by decide +kernel), List.mem_of_getElem? (i := 491) (by decide +kernel), List.mem_of_getElem? (i := 492) (by decide +kernel)⟩
theorem lw_p14 : lw_okq (⟨"JoinedSketches", "carryOrderOut", "()Z"⟩, 6) := ⟨⟨by decide +kernel, by decide +kernel⟩, List.mem_of_getElem? (i := 12) (by decide +kernel), List.mem_of_getElem? (i := 501) (by decide +kernel), List.mem_of_getElem? (i := 502) (by decide +kernel)⟩
theorem lw_p15 : lw_okq (⟨"JoinedSketches", "carryThingsOut", "(LJoinedSketches$Sketch;)Z"⟩, 6) := ⟨⟨by decide +kernel, by decide +kernel⟩, List.mem_of_getElem? (i := 12) (by decide +kernel), List.mem_of_getElem? (i := 505) (by decide +kernel), List.mem_of_getElem? (i := 506) (by decide +kernel)⟩
def lw_privs_1 : List (MethodName × Nat) := [(⟨"JoinedSketches", "takeThings", "(LJoinedSketches$Sketch;II)I"⟩, 6), (⟨"JoinedSketches$Sketch", "raise", "(II)Z"⟩, 5), (⟨"JoinedSketches$Sketch", "isListed", "(I)Z"⟩, 5), (⟨"JoinedSketches$Sketch", "fillList", "()V"⟩, 5), (⟨"JoinedSketches$Sketch", "estimateByEmpty", "(I)I"⟩, 5), (⟨"JoinedSketches$Sketch", "rootOfBuckets", "()I"⟩, 5), (⟨"JoinedSketches", "distanceBySalt", "(LJoinedSketches$Sketch;I)I"⟩, 6), (⟨"JoinedSketches$Pad", "standsAtSketch", "()Z"⟩, 7), (⟨"JoinedSketches$Pad", "digit", "()I"⟩, 7), (⟨"JoinedSketches$Pad", "sign", "()C"⟩, 7), (⟨"JoinedSketches$Pad", "readThings", "()Z"⟩, 7), (⟨"JoinedSketches$Pad", "readNumber", "()Z"⟩, 7), (⟨"JoinedSketches$Pad", "keepNumber", "(I)V"⟩, 7), (⟨"JoinedSketches$Pad", "readOther", "()Z"⟩, 7), (⟨"JoinedSketches", "carryOrderOut", "()Z"⟩, 6), (⟨"JoinedSketches", "carryThingsOut", "(LJoinedSketches$Sketch;)Z"⟩, 6)]
theorem lw_r1 : ∀ q ∈ lw_privs_1, lw_okq q := List.forall_mem_cons.mpr ⟨lw_p0, List.forall_mem_cons.mpr ⟨lw_p1, List.forall_mem_cons.mpr ⟨lw_p2, List.forall_mem_cons.mpr ⟨lw_p3, List.forall_mem_cons.mpr ⟨lw_p4, List.forall_mem_cons.mpr ⟨lw_p5, List.forall_mem_cons.mpr ⟨lw_p6, List.forall_mem_cons.mpr ⟨lw_p7, List.forall_mem_cons.mpr ⟨lw_p8, List.forall_mem_cons.mpr ⟨lw_p9, List.forall_mem_cons.mpr ⟨lw_p10, List.forall_mem_cons.mpr ⟨lw_p11, List.forall_mem_cons.mpr ⟨lw_p12, List.forall_mem_cons.mpr ⟨lw_p13, List.forall_mem_cons.mpr ⟨lw_p14, List.forall_mem_cons.mpr ⟨lw_p15, fun _ h => absurd h List.not_mem_nil⟩⟩⟩⟩⟩⟩⟩⟩⟩⟩⟩⟩⟩⟩⟩⟩
theorem lw_p16 : lw_okq (⟨"JoinedSketches", "carryJoinOut", "(LJoinedSketches$Sketch;)Z"⟩, 6) := ⟨⟨by decide +kernel, by decide +kernel⟩, List.mem_of_getElem? (i := 12) (by decide +kernel), List.mem_of_getElem? (i := 513) (by decide +kernel), List.mem_of_getElem? (i := 514) (by decide +kernel)⟩
theorem lw_p17 : lw_okq (⟨"JoinedSketches", "carryRangeOut", "(LJoinedSketches$Sketch;)Z"⟩, 6) := ⟨⟨by decide +kernel, by decide +kernel⟩, List.mem_of_getElem? (i := 12) (by decide +kernel), List.mem_of_getElem? (i := 517) (by decide +kernel), List.mem_of_getElem? (i := 518) (by decide +kernel)⟩
theorem lw_p18 : lw_okq (⟨"JoinedSketchesModel", "setPart", "(III)V"⟩, 13) := ⟨⟨by decide +kernel, by decide +kernel⟩, List.mem_of_getElem? (i := 542) (by decide +kernel), List.mem_of_getElem? (i := 548) (by decide +kernel), List.mem_of_getElem? (i := 549) (by decide +kernel)⟩
theorem lw_p19 : lw_okq (⟨"JoinedSketchesModel", "record", "()V"⟩, 13) := ⟨⟨by decide +kernel, by decide +kernel⟩, List.mem_of_getElem? (i := 542) (by decide +kernel), List.mem_of_getElem? (i := 600) (by decide +kernel), List.mem_of_getElem? (i := 601) (by decide +kernel)⟩
theorem lw_p20 : lw_okq (⟨"JoinedSketchesModel", "empties", "(I)I"⟩, 13) := ⟨⟨by decide +kernel, by decide +kernel⟩, List.mem_of_getElem? (i := 542) (by decide +kernel), List.mem_of_getElem? (i := 607) (by decide +kernel), List.mem_of_getElem? (i := 608) (by decide +kernel)⟩
theorem lw_p21 : lw_okq (⟨"JoinedSketchesModel", "filled", "(I)I"⟩, 13) := ⟨⟨by decide +kernel, by decide +kernel⟩, List.mem_of_getElem? (i := 542) (by decide +kernel), List.mem_of_getElem? (i := 611) (by decide +kernel), List.mem_of_getElem? (i := 612) (by decide +kernel)⟩
theorem lw_p22 : lw_okq (⟨"JoinedSketchesModel", "bucketsOf", "(I)I"⟩, 13) := ⟨⟨by decide +kernel, by decide +kernel⟩, List.mem_of_getElem? (i := 542) (by decide +kernel), List.mem_of_getElem? (i := 615) (by decide +kernel), List.mem_of_getElem? (i := 616) (by decide +kernel)⟩
theorem lw_p23 : lw_okq (⟨"JoinedSketchesModel", "part", "(II)I"⟩, 13) := ⟨⟨by decide +kernel, by decide +kernel⟩, List.mem_of_getElem? (i := 542) (by decide +kernel), List.mem_of_getElem? (i := 619) (by decide +kernel), List.mem_of_getElem? (i := 620) (by decide +kernel)⟩
theorem lw_p24 : lw_okq (⟨"JoinedSketchesModel", "adds", "(II)I"⟩, 13) := ⟨⟨by decide +kernel, by decide +kernel⟩, List.mem_of_getElem? (i := 542) (by decide +kernel), List.mem_of_getElem? (i := 638) (by decide +kernel), List.mem_of_getElem? (i := 639) (by decide +kernel)⟩
theorem lw_p25 : lw_okq (⟨"JoinedSketchesModel", "wouldChange", "(II)Z"⟩, 13) := ⟨⟨by decide +kernel, by decide +kernel⟩, List.mem_of_getElem? (i := 542) (by decide +kernel), List.mem_of_getElem? (i := 642) (by decide +kernel), List.mem_of_getElem? (i := 643) (by decide +kernel)⟩
theorem lw_p26 : lw_okq (⟨"JoinedSketchesModel", "rankIn", "(II)I"⟩, 13) := ⟨⟨by decide +kernel, by decide +kernel⟩, List.mem_of_getElem? (i := 542) (by decide +kernel), List.mem_of_getElem? (i := 646) (by decide +kernel), List.mem_of_getElem? (i := 647) (by decide +kernel)⟩
theorem lw_p27 : lw_okq (⟨"JoinedSketchesModel", "bucketOf", "(II)I"⟩, 13) := ⟨⟨by decide +kernel, by decide +kernel⟩, List.mem_of_getElem? (i := 542) (by decide +kernel), List.mem_of_getElem? (i := 658) (by decide +kernel), List.mem_of_getElem? (i := 659) (by decide +kernel)⟩
theorem lw_p28 : lw_okq (⟨"JoinedSketchesModel", "lists", "(II)V"⟩, 13) := ⟨⟨by decide +kernel, by decide +kernel⟩, List.mem_of_getElem? (i := 542) (by decide +kernel), List.mem_of_getElem? (i := 662) (by decide +kernel), List.mem_of_getElem? (i := 663) (by decide +kernel)⟩
theorem lw_p29 : lw_okq (⟨"JoinedSketchesModel", "isFull", "(I)Z"⟩, 13) := ⟨⟨by decide +kernel, by decide +kernel⟩, List.mem_of_getElem? (i := 542) (by decide +kernel), List.mem_of_getElem? (i := 666) (by decide +kernel), List.mem_of_getElem? (i := 667) (by decide +kernel)⟩
theorem lw_p30 : lw_okq (⟨"JoinedSketchesModel", "isListed", "(II)Z"⟩, 13) := ⟨⟨by decide +kernel, by decide +kernel⟩, List.mem_of_getElem? (i := 542) (by decide +kernel), List.mem_of_getElem? (i := 670) (by decide +kernel), List.mem_of_getElem? (i := 671) (by decide +kernel)⟩
theorem lw_p31 : lw_okq (⟨"JoinedSketchesModel", "becomesFull", "(I)V"⟩, 13) := ⟨⟨by decide +kernel, by decide +kernel⟩, List.mem_of_getElem? (i := 542) (by decide +kernel), List.mem_of_getElem? (i := 674) (by decide +kernel), List.mem_of_getElem? (i := 675) (by decide +kernel)⟩
def lw_privs_2 : List (MethodName × Nat) := [(⟨"JoinedSketches", "carryJoinOut", "(LJoinedSketches$Sketch;)Z"⟩, 6), (⟨"JoinedSketches", "carryRangeOut", "(LJoinedSketches$Sketch;)Z"⟩, 6), (⟨"JoinedSketchesModel", "setPart", "(III)V"⟩, 13), (⟨"JoinedSketchesModel", "record", "()V"⟩, 13), (⟨"JoinedSketchesModel", "empties", "(I)I"⟩, 13), (⟨"JoinedSketchesModel", "filled", "(I)I"⟩, 13), (⟨"JoinedSketchesModel", "bucketsOf", "(I)I"⟩, 13), (⟨"JoinedSketchesModel", "part", "(II)I"⟩, 13), (⟨"JoinedSketchesModel", "adds", "(II)I"⟩, 13), (⟨"JoinedSketchesModel", "wouldChange", "(II)Z"⟩, 13), (⟨"JoinedSketchesModel", "rankIn", "(II)I"⟩, 13), (⟨"JoinedSketchesModel", "bucketOf", "(II)I"⟩, 13), (⟨"JoinedSketchesModel", "lists", "(II)V"⟩, 13), (⟨"JoinedSketchesModel", "isFull", "(I)Z"⟩, 13), (⟨"JoinedSketchesModel", "isListed", "(II)Z"⟩, 13), (⟨"JoinedSketchesModel", "becomesFull", "(I)V"⟩, 13)]
theorem lw_r2 : ∀ q ∈ lw_privs_2, lw_okq q := List.forall_mem_cons.mpr ⟨lw_p16, List.forall_mem_cons.mpr ⟨lw_p17, List.forall_mem_cons.mpr ⟨lw_p18, List.forall_mem_cons.mpr ⟨lw_p19, List.forall_mem_cons.mpr ⟨lw_p20, List.forall_mem_cons.mpr ⟨lw_p21, List.forall_mem_cons.mpr ⟨lw_p22, List.forall_mem_cons.mpr ⟨lw_p23, List.forall_mem_cons.mpr ⟨lw_p24, List.forall_mem_cons.mpr ⟨lw_p25, List.forall_mem_cons.mpr ⟨lw_p26, List.forall_mem_cons.mpr ⟨lw_p27, List.forall_mem_cons.mpr ⟨lw_p28, List.forall_mem_cons.mpr ⟨lw_p29, List.forall_mem_cons.mpr ⟨lw_p30, List.forall_mem_cons.mpr ⟨lw_p31, fun _ h => absurd h List.not_mem_nil⟩⟩⟩⟩⟩⟩⟩⟩⟩⟩⟩⟩⟩⟩⟩⟩
theorem lw_p32 : lw_okq (⟨"JoinedSketchesModel", "addsRange", "(III)I"⟩, 13) := ⟨⟨by decide +kernel, by decide +kernel⟩, List.mem_of_getElem? (i := 542) (by decide +kernel), List.mem_of_getElem? (i := 686) (by decide +kernel), List.mem_of_getElem? (i := 687) (by decide +kernel)⟩
theorem lw_p33 : lw_okq (⟨"JoinedSketchesModel", "whyNotJoined", "(II)I"⟩, 13) := ⟨⟨by decide +kernel, by decide +kernel⟩, List.mem_of_getElem? (i := 542) (by decide +kernel), List.mem_of_getElem? (i := 694) (by decide +kernel), List.mem_of_getElem? (i := 695) (by decide +kernel)⟩
theorem lw_p34 : lw_okq (⟨"JoinedSketchesModel", "joins", "(II)I"⟩, 13) := ⟨⟨by decide +kernel, by decide +kernel⟩, List.mem_of_getElem? (i := 542) (by decide +kernel), List.mem_of_getElem? (i := 698) (by decide +kernel), List.mem_of_getElem? (i := 699) (by decide +kernel)⟩
theorem lw_p35 : lw_okq (⟨"JoinedSketchesModel", "estimateOf", "(I)I"⟩, 13) := ⟨⟨by decide +kernel, by decide +kernel⟩, List.mem_of_getElem? (i := 542) (by decide +kernel), List.mem_of_getElem? (i := 702) (by decide +kernel), List.mem_of_getElem? (i := 703) (by decide +kernel)⟩
theorem lw_p36 : lw_okq (⟨"JoinedSketchesModel", "takeRanks", "(I)V"⟩, 13) := ⟨⟨by decide +kernel, by decide +kernel⟩, List.mem_of_getElem? (i := 542) (by decide +kernel), List.mem_of_getElem? (i := 706) (by decide +kernel), List.mem_of_getElem? (i := 707) (by decide +kernel)⟩
theorem lw_p37 : lw_okq (⟨"JoinedSketchesModel", "estimateBy", "(I)I"⟩, 13) := ⟨⟨by decide +kernel, by decide +kernel⟩, List.mem_of_getElem? (i := 542) (by decide +kernel), List.mem_of_getElem? (i := 710) (by decide +kernel), List.mem_of_getElem? (i := 711) (by decide +kernel)⟩
theorem lw_p38 : lw_okq (⟨"JoinedSketchesModel", "rawBy", "(I)I"⟩, 13) := ⟨⟨by decide +kernel, by decide +kernel⟩, List.mem_of_getElem? (i := 542) (by decide +kernel), List.mem_of_getElem? (i := 714) (by decide +kernel), List.mem_of_getElem? (i := 715) (by decide +kernel)⟩
theorem lw_p39 : lw_okq (⟨"JoinedSketchesModel", "sumBy", "(I)I"⟩, 13) := ⟨⟨by decide +kernel, by decide +kernel⟩, List.mem_of_getElem? (i := 542) (by decide +kernel), List.mem_of_getElem? (i := 720) (by decide +kernel), List.mem_of_getElem? (i := 721) (by decide +kernel)⟩
theorem lw_p40 : lw_okq (⟨"JoinedSketchesModel", "emptyBy", "(I)I"⟩, 13) := ⟨⟨by decide +kernel, by decide +kernel⟩, List.mem_of_getElem? (i := 542) (by decide +kernel), List.mem_of_getElem? (i := 725) (by decide +kernel), List.mem_of_getElem? (i := 726) (by decide +kernel)⟩
theorem lw_p41 : lw_okq (⟨"JoinedSketchesModel", "whyNotFolded", "(I)I"⟩, 13) := ⟨⟨by decide +kernel, by decide +kernel⟩, List.mem_of_getElem? (i := 542) (by decide +kernel), List.mem_of_getElem? (i := 733) (by decide +kernel), List.mem_of_getElem? (i := 734) (by decide +kernel)⟩
theorem lw_p42 : lw_okq (⟨"JoinedSketchesModel", "folds", "(I)I"⟩, 13) := ⟨⟨by decide +kernel, by decide +kernel⟩, List.mem_of_getElem? (i := 542) (by decide +kernel), List.mem_of_getElem? (i := 737) (by decide +kernel), List.mem_of_getElem? (i := 738) (by decide +kernel)⟩
theorem lw_p43 : lw_okq (⟨"JoinedSketchesModel", "greatestRank", "(I)I"⟩, 13) := ⟨⟨by decide +kernel, by decide +kernel⟩, List.mem_of_getElem? (i := 542) (by decide +kernel), List.mem_of_getElem? (i := 757) (by decide +kernel), List.mem_of_getElem? (i := 758) (by decide +kernel)⟩
theorem lw_p44 : lw_okq (⟨"JoinedSketchesModel", "errorOf", "(I)I"⟩, 13) := ⟨⟨by decide +kernel, by decide +kernel⟩, List.mem_of_getElem? (i := 542) (by decide +kernel), List.mem_of_getElem? (i := 761) (by decide +kernel), List.mem_of_getElem? (i := 762) (by decide +kernel)⟩
theorem lw_p45 : lw_okq (⟨"JoinedSketchesModel", "sketchesFilled", "()I"⟩, 13) := ⟨⟨by decide +kernel, by decide +kernel⟩, List.mem_of_getElem? (i := 542) (by decide +kernel), List.mem_of_getElem? (i := 779) (by decide +kernel), List.mem_of_getElem? (i := 780) (by decide +kernel)⟩
theorem lw_p46 : lw_okq (⟨"JoinedSketchesModel", "allFilled", "()I"⟩, 13) := ⟨⟨by decide +kernel, by decide +kernel⟩, List.mem_of_getElem? (i := 542) (by decide +kernel), List.mem_of_getElem? (i := 783) (by decide +kernel), List.mem_of_getElem? (i := 784) (by decide +kernel)⟩
theorem lw_p47 : lw_okq (⟨"JoinedSketchesModel", "fullLists", "()I"⟩, 13) := ⟨⟨by decide +kernel, by decide +kernel⟩, List.mem_of_getElem? (i := 542) (by decide +kernel), List.mem_of_getElem? (i := 787) (by decide +kernel), List.mem_of_getElem? (i := 788) (by decide +kernel)⟩
def lw_privs_3 : List (MethodName × Nat) := [(⟨"JoinedSketchesModel", "addsRange", "(III)I"⟩, 13), (⟨"JoinedSketchesModel", "whyNotJoined", "(II)I"⟩, 13), (⟨"JoinedSketchesModel", "joins", "(II)I"⟩, 13), (⟨"JoinedSketchesModel", "estimateOf", "(I)I"⟩, 13), (⟨"JoinedSketchesModel", "takeRanks", "(I)V"⟩, 13), (⟨"JoinedSketchesModel", "estimateBy", "(I)I"⟩, 13), (⟨"JoinedSketchesModel", "rawBy", "(I)I"⟩, 13), (⟨"JoinedSketchesModel", "sumBy", "(I)I"⟩, 13), (⟨"JoinedSketchesModel", "emptyBy", "(I)I"⟩, 13), (⟨"JoinedSketchesModel", "whyNotFolded", "(I)I"⟩, 13), (⟨"JoinedSketchesModel", "folds", "(I)I"⟩, 13), (⟨"JoinedSketchesModel", "greatestRank", "(I)I"⟩, 13), (⟨"JoinedSketchesModel", "errorOf", "(I)I"⟩, 13), (⟨"JoinedSketchesModel", "sketchesFilled", "()I"⟩, 13), (⟨"JoinedSketchesModel", "allFilled", "()I"⟩, 13), (⟨"JoinedSketchesModel", "fullLists", "()I"⟩, 13)]
theorem lw_r3 : ∀ q ∈ lw_privs_3, lw_okq q := List.forall_mem_cons.mpr ⟨lw_p32, List.forall_mem_cons.mpr ⟨lw_p33, List.forall_mem_cons.mpr ⟨lw_p34, List.forall_mem_cons.mpr ⟨lw_p35, List.forall_mem_cons.mpr ⟨lw_p36, List.forall_mem_cons.mpr ⟨lw_p37, List.forall_mem_cons.mpr ⟨lw_p38, List.forall_mem_cons.mpr ⟨lw_p39, List.forall_mem_cons.mpr ⟨lw_p40, List.forall_mem_cons.mpr ⟨lw_p41, List.forall_mem_cons.mpr ⟨lw_p42, List.forall_mem_cons.mpr ⟨lw_p43, List.forall_mem_cons.mpr ⟨lw_p44, List.forall_mem_cons.mpr ⟨lw_p45, List.forall_mem_cons.mpr ⟨lw_p46, List.forall_mem_cons.mpr ⟨lw_p47, fun _ h => absurd h List.not_mem_nil⟩⟩⟩⟩⟩⟩⟩⟩⟩⟩⟩⟩⟩⟩⟩⟩
theorem lw_p48 : lw_okq (⟨"JoinedSketchesModel", "takeRanksBy", "(II)V"⟩, 13) := ⟨⟨by decide +kernel, by decide +kernel⟩, List.mem_of_getElem? (i := 542) (by decide +kernel), List.mem_of_getElem? (i := 814) (by decide +kernel), List.mem_of_getElem? (i := 815) (by decide +kernel)⟩
theorem lw_p49 : lw_okq (⟨"JoinedSketchesModel", "findFault", "()I"⟩, 13) := ⟨⟨by decide +kernel, by decide +kernel⟩, List.mem_of_getElem? (i := 542) (by decide +kernel), List.mem_of_getElem? (i := 831) (by decide +kernel), List.mem_of_getElem? (i := 832) (by decide +kernel)⟩
theorem lw_p50 : lw_okq (⟨"JoinedSketchesModel", "readsOrder", "()Z"⟩, 13) := ⟨⟨by decide +kernel, by decide +kernel⟩, List.mem_of_getElem? (i := 542) (by decide +kernel), List.mem_of_getElem? (i := 835) (by decide +kernel), List.mem_of_getElem? (i := 836) (by decide +kernel)⟩
theorem lw_p51 : lw_okq (⟨"JoinedSketchesModel", "takeDigit", "(I)I"⟩, 13) := ⟨⟨by decide +kernel, by decide +kernel⟩, List.mem_of_getElem? (i := 542) (by decide +kernel), List.mem_of_getElem? (i := 839) (by decide +kernel), List.mem_of_getElem? (i := 840) (by decide +kernel)⟩
theorem lw_p52 : lw_okq (⟨"JoinedSketchesModel", "character", "(I)I"⟩, 13) := ⟨⟨by decide +kernel, by decide +kernel⟩, List.mem_of_getElem? (i := 542) (by decide +kernel), List.mem_of_getElem? (i := 843) (by decide +kernel), List.mem_of_getElem? (i := 844) (by decide +kernel)⟩
theorem lw_p53 : lw_okq (⟨"JoinedSketchesModel", "readsRest", "()Z"⟩, 13) := ⟨⟨by decide +kernel, by decide +kernel⟩, List.mem_of_getElem? (i := 542) (by decide +kernel), List.mem_of_getElem? (i := 847) (by decide +kernel), List.mem_of_getElem? (i := 848) (by decide +kernel)⟩
theorem lw_p54 : lw_okq (⟨"JoinedSketchesModel", "takesNumber", "()Z"⟩, 13) := ⟨⟨by decide +kernel, by decide +kernel⟩, List.mem_of_getElem? (i := 542) (by decide +kernel), List.mem_of_getElem? (i := 851) (by decide +kernel), List.mem_of_getElem? (i := 852) (by decide +kernel)⟩
theorem lw_p55 : lw_okq (⟨"JoinedSketchesModel", "isNext", "(I)Z"⟩, 13) := ⟨⟨by decide +kernel, by decide +kernel⟩, List.mem_of_getElem? (i := 542) (by decide +kernel), List.mem_of_getElem? (i := 855) (by decide +kernel), List.mem_of_getElem? (i := 856) (by decide +kernel)⟩
theorem lw_p56 : lw_okq (⟨"JoinedSketchesModel", "canDo", "()Z"⟩, 13) := ⟨⟨by decide +kernel, by decide +kernel⟩, List.mem_of_getElem? (i := 542) (by decide +kernel), List.mem_of_getElem? (i := 863) (by decide +kernel), List.mem_of_getElem? (i := 864) (by decide +kernel)⟩
theorem lw_p57 : lw_okq (⟨"JoinedSketchesModel", "does", "()V"⟩, 13) := ⟨⟨by decide +kernel, by decide +kernel⟩, List.mem_of_getElem? (i := 542) (by decide +kernel), List.mem_of_getElem? (i := 867) (by decide +kernel), List.mem_of_getElem? (i := 868) (by decide +kernel)⟩
def lw_privs_4 : List (MethodName × Nat) := [(⟨"JoinedSketchesModel", "takeRanksBy", "(II)V"⟩, 13), (⟨"JoinedSketchesModel", "findFault", "()I"⟩, 13), (⟨"JoinedSketchesModel", "readsOrder", "()Z"⟩, 13), (⟨"JoinedSketchesModel", "takeDigit", "(I)I"⟩, 13), (⟨"JoinedSketchesModel", "character", "(I)I"⟩, 13), (⟨"JoinedSketchesModel", "readsRest", "()Z"⟩, 13), (⟨"JoinedSketchesModel", "takesNumber", "()Z"⟩, 13), (⟨"JoinedSketchesModel", "isNext", "(I)Z"⟩, 13), (⟨"JoinedSketchesModel", "canDo", "()Z"⟩, 13), (⟨"JoinedSketchesModel", "does", "()V"⟩, 13)]
theorem lw_r4 : ∀ q ∈ lw_privs_4, lw_okq q := List.forall_mem_cons.mpr ⟨lw_p48, List.forall_mem_cons.mpr ⟨lw_p49, List.forall_mem_cons.mpr ⟨lw_p50, List.forall_mem_cons.mpr ⟨lw_p51, List.forall_mem_cons.mpr ⟨lw_p52, List.forall_mem_cons.mpr ⟨lw_p53, List.forall_mem_cons.mpr ⟨lw_p54, List.forall_mem_cons.mpr ⟨lw_p55, List.forall_mem_cons.mpr ⟨lw_p56, List.forall_mem_cons.mpr ⟨lw_p57, fun _ h => absurd h List.not_mem_nil⟩⟩⟩⟩⟩⟩⟩⟩⟩⟩
def lw_privs : List (MethodName × Nat) := lw_privs_1 ++ (lw_privs_2 ++ (lw_privs_3 ++ (lw_privs_4)))
def lw_tbl : List Cond := k2_sels lw_privs ++ tables_1
theorem lw_privs_ok : ∀ q ∈ lw_privs, lw_okq q := by
  show ∀ q ∈ lw_privs_1 ++ (lw_privs_2 ++ (lw_privs_3 ++ (lw_privs_4))), lw_okq q
  exact List.forall_mem_append.mpr ⟨lw_r1, List.forall_mem_append.mpr ⟨lw_r2, List.forall_mem_append.mpr ⟨lw_r3, lw_r4⟩⟩⟩
-- ===== end of PART A; then your names; then what follows =====
end
section
/-! ===== BEGIN words of one list among another's, by their places ===== -/
theorem goodIn_r {big : List Cond} (ws : List Cond) (ps : List Nat) (hp : ws = ps.filterMap (fun i => big[i]?)) (h : ws.all goodWord = true) : GoodIn big ws := by
  intro w hw
  have h1 := List.all_eq_true.mp h w hw
  rw [hp] at hw
  obtain ⟨i, -, hi⟩ := List.mem_filterMap.mp hw
  have hm : w ∈ big := by first | exact List.mem_of_getElem? hi | exact List.getElem?_mem hi
  exact ⟨hm, good_of_word h1⟩
theorem goodIn_app {big a b : List Cond} (ha : GoodIn big a) (hb : GoodIn big b) : GoodIn big (a ++ b) := fun w h => (List.mem_append.mp h).elim (ha w) (hb w)
theorem goodIn_ca {big a b : List Cond} {c : Cond} (ha : GoodIn big (c :: a)) (hb : GoodIn big b) : GoodIn big (c :: (a ++ b)) := fun w h => (List.mem_cons.mp h).elim (fun e => ha w (List.mem_cons.mpr (Or.inl e))) (fun h => (List.mem_append.mp h).elim (fun h => ha w (List.mem_cons.mpr (Or.inr h))) (hb w))
theorem goodIn_sub {big ws : List Cond} (hm : ∀ w ∈ ws, w ∈ big) (h : ws.all goodWord = true) : GoodIn big ws := fun w hw => ⟨hm w hw, good_of_word (List.all_eq_true.mp h w hw)⟩
/-! ===== END ===== -/

/-! ===== BEGIN printed: names, fields, word lists, decode rows ===== -/
def RX0 : String := "JoinedSketches$History"
def TX0 : u_T := fun k => match k with
  | 0 => ("JoinedSketches$History", "ring", "[LJoinedSketches$State;", true)
  | 1 => ("JoinedSketches$History", "oldest", "I", false)
  | _ => ("JoinedSketches$History", "size", "I", false)
def tyX0 : Nat → FieldType := fun k => match k with
  | 0 => .array (.object "JoinedSketches$State")
  | 1 => .int
  | _ => .int
abbrev wsX00 : List Cond := u_ws RX0 TX0 3
theorem nmX0 : ∀ a, a < 3 → ∀ b, b < 3 → a ≠ b → (TX0 a).2.1 ≠ (TX0 b).2.1 := by decide +kernel
theorem tyX0_ok : ∀ k, k < 3 → parseFieldDescriptor (TX0 k).2.2.1 = some (tyX0 k) := by decide +kernel
abbrev cX0_init : ByteArray := prog_2_method_1_code
def yX0_init : MethodName := ⟨RX0, "<init>", "()V"⟩
abbrev cX0_record : ByteArray := prog_2_method_2_code
def yX0_record : MethodName := ⟨RX0, "record", "(LJoinedSketches$State;)V"⟩
abbrev cX0_takeBack : ByteArray := prog_2_method_3_code
def yX0_takeBack : MethodName := ⟨RX0, "takeBack", "(LJoinedSketches$State;)V"⟩
def RX1 : String := "JoinedSketches$Pad"
def TX1 : u_T := fun k => match k with
  | 0 => ("JoinedSketches$Pad", "signs", "[C", true)
  | 1 => ("JoinedSketches$Pad", "length", "I", false)
  | 2 => ("JoinedSketches$Pad", "at", "I", false)
  | 3 => ("JoinedSketches$Pad", "sketch", "I", false)
  | 4 => ("JoinedSketches$Pad", "verb", "I", false)
  | 5 => ("JoinedSketches$Pad", "numbers", "[I", true)
  | _ => ("JoinedSketches$Pad", "many", "I", false)
def tyX1 : Nat → FieldType := fun k => match k with
  | 0 => .array .char
  | 1 => .int
  | 2 => .int
  | 3 => .int
  | 4 => .int
  | 5 => .array .int
  | _ => .int
abbrev wsX10 : List Cond := u_ws RX1 TX1 7
theorem nmX1 : ∀ a, a < 7 → ∀ b, b < 7 → a ≠ b → (TX1 a).2.1 ≠ (TX1 b).2.1 := by decide +kernel
theorem tyX1_ok : ∀ k, k < 7 → parseFieldDescriptor (TX1 k).2.2.1 = some (tyX1 k) := by decide +kernel
abbrev cX1_init : ByteArray := prog_3_method_1_code
def yX1_init : MethodName := ⟨RX1, "<init>", "()V"⟩
abbrev cX1_append : ByteArray := prog_3_method_2_code
def yX1_append : MethodName := ⟨RX1, "append", "(C)V"⟩
abbrev cX1_clear : ByteArray := prog_3_method_3_code
def yX1_clear : MethodName := ⟨RX1, "clear", "()V"⟩
abbrev cX1_goToStart : ByteArray := prog_3_method_4_code
def yX1_goToStart : MethodName := ⟨RX1, "goToStart", "()V"⟩
abbrev cX1_faultPlace : ByteArray := prog_3_method_5_code
def yX1_faultPlace : MethodName := ⟨RX1, "faultPlace", "()I"⟩
abbrev cX1_readOrder : ByteArray := prog_3_method_6_code
def yX1_readOrder : MethodName := ⟨RX1, "readOrder", "()Z"⟩
abbrev cX1_accept : ByteArray := prog_3_method_7_code
def yX1_accept : MethodName := ⟨RX1, "accept", "(C)Z"⟩
abbrev cX1_readThings : ByteArray := prog_3_method_8_code
def yX1_readThings : MethodName := ⟨RX1, "readThings", "()Z"⟩
abbrev cX1_readOther : ByteArray := prog_3_method_9_code
def yX1_readOther : MethodName := ⟨RX1, "readOther", "()Z"⟩
abbrev cX1_standsAtSketch : ByteArray := prog_3_method_10_code
def yX1_standsAtSketch : MethodName := ⟨RX1, "standsAtSketch", "()Z"⟩
abbrev cX1_readNumber : ByteArray := prog_3_method_11_code
def yX1_readNumber : MethodName := ⟨RX1, "readNumber", "()Z"⟩
abbrev cX1_digit : ByteArray := prog_3_method_12_code
def yX1_digit : MethodName := ⟨RX1, "digit", "()I"⟩
abbrev cX1_sign : ByteArray := prog_3_method_13_code
def yX1_sign : MethodName := ⟨RX1, "sign", "()C"⟩
abbrev cX1_keepNumber : ByteArray := prog_3_method_14_code
def yX1_keepNumber : MethodName := ⟨RX1, "keepNumber", "(I)V"⟩
abbrev cX1_numberAt : ByteArray := prog_3_method_15_code
def yX1_numberAt : MethodName := ⟨RX1, "numberAt", "(I)I"⟩
def RX2 : String := "JoinedSketches$Sketch"
def TX2 : u_T := fun k => match k with
  | 0 => ("JoinedSketches$Sketch", "bits", "I", false)
  | 1 => ("JoinedSketches$Sketch", "ranks", "[I", true)
  | 2 => ("JoinedSketches$Sketch", "things", "[I", true)
  | 3 => ("JoinedSketches$Sketch", "listLength", "I", false)
  | _ => ("JoinedSketches$Sketch", "full", "Z", false)
def tyX2 : Nat → FieldType := fun k => match k with
  | 0 => .int
  | 1 => .array .int
  | 2 => .array .int
  | 3 => .int
  | _ => .boolean
abbrev wsX20 : List Cond := u_ws RX2 TX2 5
theorem nmX2 : ∀ a, a < 5 → ∀ b, b < 5 → a ≠ b → (TX2 a).2.1 ≠ (TX2 b).2.1 := by decide +kernel
theorem tyX2_ok : ∀ k, k < 5 → parseFieldDescriptor (TX2 k).2.2.1 = some (tyX2 k) := by decide +kernel
abbrev cX2_init : ByteArray := prog_4_method_1_code
def yX2_init : MethodName := ⟨RX2, "<init>", "()V"⟩
abbrev cX2_buckets : ByteArray := prog_4_method_2_code
def yX2_buckets : MethodName := ⟨RX2, "buckets", "()I"⟩
abbrev cX2_hasBucket : ByteArray := prog_4_method_3_code
def yX2_hasBucket : MethodName := ⟨RX2, "hasBucket", "(I)Z"⟩
abbrev cX2_rankIn : ByteArray := prog_4_method_4_code
def yX2_rankIn : MethodName := ⟨RX2, "rankIn", "(I)I"⟩
abbrev cX2_bucketOf : ByteArray := prog_4_method_5_code
def yX2_bucketOf : MethodName := ⟨RX2, "bucketOf", "(I)I"⟩
abbrev cX2_rankOf : ByteArray := prog_4_method_6_code
def yX2_rankOf : MethodName := ⟨RX2, "rankOf", "(I)I"⟩
abbrev cX2_wouldChangeBy : ByteArray := prog_4_method_7_code
def yX2_wouldChangeBy : MethodName := ⟨RX2, "wouldChangeBy", "(I)Z"⟩
abbrev cX2_takeHash : ByteArray := prog_4_method_8_code
def yX2_takeHash : MethodName := ⟨RX2, "takeHash", "(I)Z"⟩
abbrev cX2_raise : ByteArray := prog_4_method_9_code
def yX2_raise : MethodName := ⟨RX2, "raise", "(II)Z"⟩
abbrev cX2_list : ByteArray := prog_4_method_10_code
def yX2_list : MethodName := ⟨RX2, "list", "(I)V"⟩
abbrev cX2_fillList : ByteArray := prog_4_method_11_code
def yX2_fillList : MethodName := ⟨RX2, "fillList", "()V"⟩
abbrev cX2_isListed : ByteArray := prog_4_method_12_code
def yX2_isListed : MethodName := ⟨RX2, "isListed", "(I)Z"⟩
abbrev cX2_hasPlace : ByteArray := prog_4_method_13_code
def yX2_hasPlace : MethodName := ⟨RX2, "hasPlace", "(I)Z"⟩
abbrev cX2_thingAt : ByteArray := prog_4_method_14_code
def yX2_thingAt : MethodName := ⟨RX2, "thingAt", "(I)I"⟩
abbrev cX2_takeAll : ByteArray := prog_4_method_15_code
def yX2_takeAll : MethodName := ⟨RX2, "takeAll", "(LJoinedSketches$Sketch;)V"⟩
abbrev cX2_halve : ByteArray := prog_4_method_16_code
def yX2_halve : MethodName := ⟨RX2, "halve", "()V"⟩
abbrev cX2_startAgain : ByteArray := prog_4_method_17_code
def yX2_startAgain : MethodName := ⟨RX2, "startAgain", "(I)V"⟩
abbrev cX2_copyFrom : ByteArray := prog_4_method_18_code
def yX2_copyFrom : MethodName := ⟨RX2, "copyFrom", "(LJoinedSketches$Sketch;)V"⟩
abbrev cX2_emptyBuckets : ByteArray := prog_4_method_19_code
def yX2_emptyBuckets : MethodName := ⟨RX2, "emptyBuckets", "()I"⟩
abbrev cX2_filledBuckets : ByteArray := prog_4_method_20_code
def yX2_filledBuckets : MethodName := ⟨RX2, "filledBuckets", "()I"⟩
abbrev cX2_greatestRank : ByteArray := prog_4_method_21_code
def yX2_greatestRank : MethodName := ⟨RX2, "greatestRank", "()I"⟩
abbrev cX2_rankSum : ByteArray := prog_4_method_22_code
def yX2_rankSum : MethodName := ⟨RX2, "rankSum", "()I"⟩
abbrev cX2_rawEstimate : ByteArray := prog_4_method_23_code
def yX2_rawEstimate : MethodName := ⟨RX2, "rawEstimate", "()I"⟩
abbrev cX2_estimate : ByteArray := prog_4_method_24_code
def yX2_estimate : MethodName := ⟨RX2, "estimate", "()I"⟩
abbrev cX2_estimateByEmpty : ByteArray := prog_4_method_25_code
def yX2_estimateByEmpty : MethodName := ⟨RX2, "estimateByEmpty", "(I)I"⟩
abbrev cX2_toldError : ByteArray := prog_4_method_26_code
def yX2_toldError : MethodName := ⟨RX2, "toldError", "()I"⟩
abbrev cX2_rootOfBuckets : ByteArray := prog_4_method_27_code
def yX2_rootOfBuckets : MethodName := ⟨RX2, "rootOfBuckets", "()I"⟩
abbrev cX2_bucketsWithRank : ByteArray := prog_4_method_28_code
def yX2_bucketsWithRank : MethodName := ⟨RX2, "bucketsWithRank", "(I)J"⟩
abbrev cX2_sameBuckets : ByteArray := prog_4_method_29_code
def yX2_sameBuckets : MethodName := ⟨RX2, "sameBuckets", "(LJoinedSketches$Sketch;)I"⟩
def RX3 : String := "JoinedSketches$State"
def TX3 : u_T := fun k => match k with
  | 0 => ("JoinedSketches$State", "salt", "I", false)
  | _ => ("JoinedSketches$State", "sketches", "[LJoinedSketches$Sketch;", true)
def tyX3 : Nat → FieldType := fun k => match k with
  | 0 => .int
  | _ => .array (.object "JoinedSketches$Sketch")
abbrev wsX30 : List Cond := u_ws RX3 TX3 2
theorem nmX3 : ∀ a, a < 2 → ∀ b, b < 2 → a ≠ b → (TX3 a).2.1 ≠ (TX3 b).2.1 := by decide +kernel
theorem tyX3_ok : ∀ k, k < 2 → parseFieldDescriptor (TX3 k).2.2.1 = some (tyX3 k) := by decide +kernel
abbrev cX3_init : ByteArray := prog_5_method_1_code
def yX3_init : MethodName := ⟨RX3, "<init>", "()V"⟩
abbrev cX3_sketchAt : ByteArray := prog_5_method_2_code
def yX3_sketchAt : MethodName := ⟨RX3, "sketchAt", "(I)LJoinedSketches$Sketch;"⟩
abbrev cX3_changeSalt : ByteArray := prog_5_method_3_code
def yX3_changeSalt : MethodName := ⟨RX3, "changeSalt", "(I)V"⟩
abbrev cX3_copyFrom : ByteArray := prog_5_method_4_code
def yX3_copyFrom : MethodName := ⟨RX3, "copyFrom", "(LJoinedSketches$State;)V"⟩
abbrev cX3_filledSketches : ByteArray := prog_5_method_5_code
def yX3_filledSketches : MethodName := ⟨RX3, "filledSketches", "()I"⟩
abbrev cX3_filledBuckets : ByteArray := prog_5_method_6_code
def yX3_filledBuckets : MethodName := ⟨RX3, "filledBuckets", "()I"⟩
abbrev cX3_fullLists : ByteArray := prog_5_method_7_code
def yX3_fullLists : MethodName := ⟨RX3, "fullLists", "()I"⟩
def RX4 : String := "JoinedSketches"
def TX4 : u_T := fun k => match k with
  | 0 => ("JoinedSketches", "now", "LJoinedSketches$State;", true)
  | 1 => ("JoinedSketches", "history", "LJoinedSketches$History;", true)
  | 2 => ("JoinedSketches", "slots", "[LJoinedSketches$State;", true)
  | 3 => ("JoinedSketches", "saved", "[Z", true)
  | 4 => ("JoinedSketches", "pad", "LJoinedSketches$Pad;", true)
  | _ => ("JoinedSketches", "trial", "LJoinedSketches$Sketch;", true)
def tyX4 : Nat → FieldType := fun k => match k with
  | 0 => .object "JoinedSketches$State"
  | 1 => .object "JoinedSketches$History"
  | 2 => .array (.object "JoinedSketches$State")
  | 3 => .array .boolean
  | 4 => .object "JoinedSketches$Pad"
  | _ => .object "JoinedSketches$Sketch"
abbrev wsX40 : List Cond := u_ws RX4 TX4 6
theorem nmX4 : ∀ a, a < 6 → ∀ b, b < 6 → a ≠ b → (TX4 a).2.1 ≠ (TX4 b).2.1 := by decide +kernel
theorem tyX4_ok : ∀ k, k < 6 → parseFieldDescriptor (TX4 k).2.2.1 = some (tyX4 k) := by decide +kernel
abbrev cX4_init : ByteArray := prog_1_method_1_code
def yX4_init : MethodName := ⟨RX4, "<init>", "()V"⟩
abbrev cX4_salt : ByteArray := prog_1_method_2_code
def yX4_salt : MethodName := ⟨RX4, "salt", "(I)I"⟩
abbrev cX4_bits : ByteArray := prog_1_method_3_code
def yX4_bits : MethodName := ⟨RX4, "bits", "(II)I"⟩
abbrev cX4_add : ByteArray := prog_1_method_4_code
def yX4_add : MethodName := ⟨RX4, "add", "(II)I"⟩
abbrev cX4_addRange : ByteArray := prog_1_method_5_code
def yX4_addRange : MethodName := ⟨RX4, "addRange", "(III)I"⟩
abbrev cX4_join : ByteArray := prog_1_method_6_code
def yX4_join : MethodName := ⟨RX4, "join", "(II)I"⟩
abbrev cX4_fold : ByteArray := prog_1_method_7_code
def yX4_fold : MethodName := ⟨RX4, "fold", "(I)I"⟩
abbrev cX4_empty : ByteArray := prog_1_method_8_code
def yX4_empty : MethodName := ⟨RX4, "empty", "(I)I"⟩
abbrev cX4_thing : ByteArray := prog_1_method_9_code
def yX4_thing : MethodName := ⟨RX4, "thing", "(III)I"⟩
abbrev cX4_bucket : ByteArray := prog_1_method_10_code
def yX4_bucket : MethodName := ⟨RX4, "bucket", "(II)I"⟩
abbrev cX4_ofSketch : ByteArray := prog_1_method_11_code
def yX4_ofSketch : MethodName := ⟨RX4, "ofSketch", "(II)I"⟩
abbrev cX4_withRank : ByteArray := prog_1_method_12_code
def yX4_withRank : MethodName := ⟨RX4, "withRank", "(II)J"⟩
abbrev cX4_listed : ByteArray := prog_1_method_13_code
def yX4_listed : MethodName := ⟨RX4, "listed", "(II)I"⟩
abbrev cX4_count : ByteArray := prog_1_method_14_code
def yX4_count : MethodName := ⟨RX4, "count", "(I)I"⟩
abbrev cX4_together : ByteArray := prog_1_method_15_code
def yX4_together : MethodName := ⟨RX4, "together", "(II)I"⟩
abbrev cX4_alike : ByteArray := prog_1_method_16_code
def yX4_alike : MethodName := ⟨RX4, "alike", "(II)I"⟩
abbrev cX4_off : ByteArray := prog_1_method_17_code
def yX4_off : MethodName := ⟨RX4, "off", "(I)I"⟩
abbrev cX4_nextNew : ByteArray := prog_1_method_18_code
def yX4_nextNew : MethodName := ⟨RX4, "nextNew", "(II)I"⟩
abbrev cX4_bestSalt : ByteArray := prog_1_method_19_code
def yX4_bestSalt : MethodName := ⟨RX4, "bestSalt", "(I)I"⟩
abbrev cX4_put : ByteArray := prog_1_method_20_code
def yX4_put : MethodName := ⟨RX4, "put", "(J)I"⟩
abbrev cX4_wipe : ByteArray := prog_1_method_21_code
def yX4_wipe : MethodName := ⟨RX4, "wipe", "()I"⟩
abbrev cX4_fault : ByteArray := prog_1_method_22_code
def yX4_fault : MethodName := ⟨RX4, "fault", "()I"⟩
abbrev cX4_carryOut : ByteArray := prog_1_method_23_code
def yX4_carryOut : MethodName := ⟨RX4, "carryOut", "()I"⟩
abbrev cX4_undo : ByteArray := prog_1_method_24_code
def yX4_undo : MethodName := ⟨RX4, "undo", "()I"⟩
abbrev cX4_save : ByteArray := prog_1_method_25_code
def yX4_save : MethodName := ⟨RX4, "save", "(I)I"⟩
abbrev cX4_restore : ByteArray := prog_1_method_26_code
def yX4_restore : MethodName := ⟨RX4, "restore", "(I)I"⟩
abbrev cX4_isThing : ByteArray := prog_1_method_27_code
def yX4_isThing : MethodName := ⟨RX4, "isThing", "(I)Z"⟩
abbrev cX4_isRange : ByteArray := prog_1_method_28_code
def yX4_isRange : MethodName := ⟨RX4, "isRange", "(II)Z"⟩
abbrev cX4_areToJoin : ByteArray := prog_1_method_29_code
def yX4_areToJoin : MethodName := ⟨RX4, "areToJoin", "(LJoinedSketches$Sketch;LJoinedSketches$Sketch;)Z"⟩
abbrev cX4_isToFold : ByteArray := prog_1_method_30_code
def yX4_isToFold : MethodName := ⟨RX4, "isToFold", "(LJoinedSketches$Sketch;)Z"⟩
abbrev cX4_hashOf : ByteArray := prog_1_method_31_code
def yX4_hashOf : MethodName := ⟨RX4, "hashOf", "(II)I"⟩
abbrev cX4_takeThings : ByteArray := prog_1_method_32_code
def yX4_takeThings : MethodName := ⟨RX4, "takeThings", "(LJoinedSketches$Sketch;II)I"⟩
abbrev cX4_distanceBySalt : ByteArray := prog_1_method_33_code
def yX4_distanceBySalt : MethodName := ⟨RX4, "distanceBySalt", "(LJoinedSketches$Sketch;I)I"⟩
abbrev cX4_bitsOfShare : ByteArray := prog_1_method_34_code
def yX4_bitsOfShare : MethodName := ⟨RX4, "bitsOfShare", "(II)I"⟩
abbrev cX4_charactersIn : ByteArray := prog_1_method_35_code
def yX4_charactersIn : MethodName := ⟨RX4, "charactersIn", "(J)I"⟩
abbrev cX4_carryOrderOut : ByteArray := prog_1_method_36_code
def yX4_carryOrderOut : MethodName := ⟨RX4, "carryOrderOut", "()Z"⟩
abbrev cX4_carryThingsOut : ByteArray := prog_1_method_37_code
def yX4_carryThingsOut : MethodName := ⟨RX4, "carryThingsOut", "(LJoinedSketches$Sketch;)Z"⟩
abbrev cX4_carryJoinOut : ByteArray := prog_1_method_38_code
def yX4_carryJoinOut : MethodName := ⟨RX4, "carryJoinOut", "(LJoinedSketches$Sketch;)Z"⟩
abbrev cX4_carryRangeOut : ByteArray := prog_1_method_39_code
def yX4_carryRangeOut : MethodName := ⟨RX4, "carryRangeOut", "(LJoinedSketches$Sketch;)Z"⟩
abbrev cX4_carryFoldOut : ByteArray := prog_1_method_40_code
def yX4_carryFoldOut : MethodName := ⟨RX4, "carryFoldOut", "(LJoinedSketches$Sketch;)Z"⟩
def RX5 : String := "JoinedSketchesModel"
def TX5 : u_T := fun k => match k with
  | 0 => ("JoinedSketchesModel", "state", "[I", true)
  | 1 => ("JoinedSketchesModel", "history", "[I", true)
  | 2 => ("JoinedSketchesModel", "recorded", "I", false)
  | 3 => ("JoinedSketchesModel", "slots", "[I", true)
  | 4 => ("JoinedSketchesModel", "isSaved", "[I", true)
  | 5 => ("JoinedSketchesModel", "pad", "[I", true)
  | 6 => ("JoinedSketchesModel", "padLength", "I", false)
  | 7 => ("JoinedSketchesModel", "ranks", "[I", true)
  | 8 => ("JoinedSketchesModel", "at", "I", false)
  | 9 => ("JoinedSketchesModel", "sketch", "I", false)
  | 10 => ("JoinedSketchesModel", "letter", "I", false)
  | 11 => ("JoinedSketchesModel", "numbers", "[I", true)
  | _ => ("JoinedSketchesModel", "numbersMany", "I", false)
def tyX5 : Nat → FieldType := fun k => match k with
  | 0 => .array .int
  | 1 => .array .int
  | 2 => .int
  | 3 => .array .int
  | 4 => .array .int
  | 5 => .array .int
  | 6 => .int
  | 7 => .array .int
  | 8 => .int
  | 9 => .int
  | 10 => .int
  | 11 => .array .int
  | _ => .int
abbrev wsX50 : List Cond := u_ws RX5 TX5 13
theorem nmX5 : ∀ a, a < 13 → ∀ b, b < 13 → a ≠ b → (TX5 a).2.1 ≠ (TX5 b).2.1 := by decide +kernel
theorem tyX5_ok : ∀ k, k < 13 → parseFieldDescriptor (TX5 k).2.2.1 = some (tyX5 k) := by decide +kernel
abbrev cX5_init : ByteArray := prog_7_method_1_code
def yX5_init : MethodName := ⟨RX5, "<init>", "()V"⟩
abbrev cX5_moves : ByteArray := prog_7_method_3_code
def yX5_moves : MethodName := ⟨RX5, "moves", "([II[II)V"⟩
abbrev cX5_within : ByteArray := prog_7_method_4_code
def yX5_within : MethodName := ⟨RX5, "within", "(III)Z"⟩
abbrev cX5_record : ByteArray := prog_7_method_5_code
def yX5_record : MethodName := ⟨RX5, "record", "()V"⟩
abbrev cX5_isSketch : ByteArray := prog_7_method_6_code
def yX5_isSketch : MethodName := ⟨RX5, "isSketch", "(I)Z"⟩
abbrev cX5_isThing : ByteArray := prog_7_method_7_code
def yX5_isThing : MethodName := ⟨RX5, "isThing", "(I)Z"⟩
abbrev cX5_part : ByteArray := prog_7_method_8_code
def yX5_part : MethodName := ⟨RX5, "part", "(II)I"⟩
abbrev cX5_setPart : ByteArray := prog_7_method_9_code
def yX5_setPart : MethodName := ⟨RX5, "setPart", "(III)V"⟩
abbrev cX5_bucketsOf : ByteArray := prog_7_method_10_code
def yX5_bucketsOf : MethodName := ⟨RX5, "bucketsOf", "(I)I"⟩
abbrev cX5_hashOf : ByteArray := prog_7_method_11_code
def yX5_hashOf : MethodName := ⟨RX5, "hashOf", "(II)I"⟩
abbrev cX5_rankOf : ByteArray := prog_7_method_12_code
def yX5_rankOf : MethodName := ⟨RX5, "rankOf", "(II)I"⟩
abbrev cX5_bucketOf : ByteArray := prog_7_method_13_code
def yX5_bucketOf : MethodName := ⟨RX5, "bucketOf", "(II)I"⟩
abbrev cX5_rankIn : ByteArray := prog_7_method_14_code
def yX5_rankIn : MethodName := ⟨RX5, "rankIn", "(II)I"⟩
abbrev cX5_wouldChange : ByteArray := prog_7_method_15_code
def yX5_wouldChange : MethodName := ⟨RX5, "wouldChange", "(II)Z"⟩
abbrev cX5_filled : ByteArray := prog_7_method_16_code
def yX5_filled : MethodName := ⟨RX5, "filled", "(I)I"⟩
abbrev cX5_allFilled : ByteArray := prog_7_method_17_code
def yX5_allFilled : MethodName := ⟨RX5, "allFilled", "()I"⟩
abbrev cX5_takeRanks : ByteArray := prog_7_method_18_code
def yX5_takeRanks : MethodName := ⟨RX5, "takeRanks", "(I)V"⟩
abbrev cX5_sumBy : ByteArray := prog_7_method_19_code
def yX5_sumBy : MethodName := ⟨RX5, "sumBy", "(I)I"⟩
abbrev cX5_emptyBy : ByteArray := prog_7_method_20_code
def yX5_emptyBy : MethodName := ⟨RX5, "emptyBy", "(I)I"⟩
abbrev cX5_rawBy : ByteArray := prog_7_method_21_code
def yX5_rawBy : MethodName := ⟨RX5, "rawBy", "(I)I"⟩
abbrev cX5_estimateBy : ByteArray := prog_7_method_22_code
def yX5_estimateBy : MethodName := ⟨RX5, "estimateBy", "(I)I"⟩
abbrev cX5_estimateOf : ByteArray := prog_7_method_23_code
def yX5_estimateOf : MethodName := ⟨RX5, "estimateOf", "(I)I"⟩
abbrev cX5_errorOf : ByteArray := prog_7_method_24_code
def yX5_errorOf : MethodName := ⟨RX5, "errorOf", "(I)I"⟩
abbrev cX5_isFull : ByteArray := prog_7_method_25_code
def yX5_isFull : MethodName := ⟨RX5, "isFull", "(I)Z"⟩
abbrev cX5_isListed : ByteArray := prog_7_method_26_code
def yX5_isListed : MethodName := ⟨RX5, "isListed", "(II)Z"⟩
abbrev cX5_becomesFull : ByteArray := prog_7_method_27_code
def yX5_becomesFull : MethodName := ⟨RX5, "becomesFull", "(I)V"⟩
abbrev cX5_lists : ByteArray := prog_7_method_28_code
def yX5_lists : MethodName := ⟨RX5, "lists", "(II)V"⟩
abbrev cX5_empties : ByteArray := prog_7_method_29_code
def yX5_empties : MethodName := ⟨RX5, "empties", "(I)I"⟩
abbrev cX5_adds : ByteArray := prog_7_method_30_code
def yX5_adds : MethodName := ⟨RX5, "adds", "(II)I"⟩
abbrev cX5_salt : ByteArray := prog_7_method_31_code
def yX5_salt : MethodName := ⟨RX5, "salt", "(I)I"⟩
abbrev cX5_bits : ByteArray := prog_7_method_32_code
def yX5_bits : MethodName := ⟨RX5, "bits", "(II)I"⟩
abbrev cX5_add : ByteArray := prog_7_method_33_code
def yX5_add : MethodName := ⟨RX5, "add", "(II)I"⟩
abbrev cX5_isRange : ByteArray := prog_7_method_34_code
def yX5_isRange : MethodName := ⟨RX5, "isRange", "(II)Z"⟩
abbrev cX5_addsRange : ByteArray := prog_7_method_35_code
def yX5_addsRange : MethodName := ⟨RX5, "addsRange", "(III)I"⟩
abbrev cX5_addRange : ByteArray := prog_7_method_36_code
def yX5_addRange : MethodName := ⟨RX5, "addRange", "(III)I"⟩
abbrev cX5_whyNotJoined : ByteArray := prog_7_method_37_code
def yX5_whyNotJoined : MethodName := ⟨RX5, "whyNotJoined", "(II)I"⟩
abbrev cX5_joins : ByteArray := prog_7_method_38_code
def yX5_joins : MethodName := ⟨RX5, "joins", "(II)I"⟩
abbrev cX5_join : ByteArray := prog_7_method_39_code
def yX5_join : MethodName := ⟨RX5, "join", "(II)I"⟩
abbrev cX5_whyNotFolded : ByteArray := prog_7_method_40_code
def yX5_whyNotFolded : MethodName := ⟨RX5, "whyNotFolded", "(I)I"⟩
abbrev cX5_folds : ByteArray := prog_7_method_41_code
def yX5_folds : MethodName := ⟨RX5, "folds", "(I)I"⟩
abbrev cX5_fold : ByteArray := prog_7_method_42_code
def yX5_fold : MethodName := ⟨RX5, "fold", "(I)I"⟩
abbrev cX5_empty : ByteArray := prog_7_method_43_code
def yX5_empty : MethodName := ⟨RX5, "empty", "(I)I"⟩
abbrev cX5_thing : ByteArray := prog_7_method_44_code
def yX5_thing : MethodName := ⟨RX5, "thing", "(III)I"⟩
abbrev cX5_bucket : ByteArray := prog_7_method_45_code
def yX5_bucket : MethodName := ⟨RX5, "bucket", "(II)I"⟩
abbrev cX5_greatestRank : ByteArray := prog_7_method_46_code
def yX5_greatestRank : MethodName := ⟨RX5, "greatestRank", "(I)I"⟩
abbrev cX5_ofSketch : ByteArray := prog_7_method_47_code
def yX5_ofSketch : MethodName := ⟨RX5, "ofSketch", "(II)I"⟩
abbrev cX5_withRank : ByteArray := prog_7_method_48_code
def yX5_withRank : MethodName := ⟨RX5, "withRank", "(II)J"⟩
abbrev cX5_listed : ByteArray := prog_7_method_49_code
def yX5_listed : MethodName := ⟨RX5, "listed", "(II)I"⟩
abbrev cX5_sketchesFilled : ByteArray := prog_7_method_50_code
def yX5_sketchesFilled : MethodName := ⟨RX5, "sketchesFilled", "()I"⟩
abbrev cX5_fullLists : ByteArray := prog_7_method_51_code
def yX5_fullLists : MethodName := ⟨RX5, "fullLists", "()I"⟩
abbrev cX5_count : ByteArray := prog_7_method_52_code
def yX5_count : MethodName := ⟨RX5, "count", "(I)I"⟩
abbrev cX5_together : ByteArray := prog_7_method_53_code
def yX5_together : MethodName := ⟨RX5, "together", "(II)I"⟩
abbrev cX5_shareBits : ByteArray := prog_7_method_54_code
def yX5_shareBits : MethodName := ⟨RX5, "shareBits", "(II)I"⟩
abbrev cX5_alike : ByteArray := prog_7_method_55_code
def yX5_alike : MethodName := ⟨RX5, "alike", "(II)I"⟩
abbrev cX5_off : ByteArray := prog_7_method_56_code
def yX5_off : MethodName := ⟨RX5, "off", "(I)I"⟩
abbrev cX5_nextNew : ByteArray := prog_7_method_57_code
def yX5_nextNew : MethodName := ⟨RX5, "nextNew", "(II)I"⟩
abbrev cX5_takeRanksBy : ByteArray := prog_7_method_58_code
def yX5_takeRanksBy : MethodName := ⟨RX5, "takeRanksBy", "(II)V"⟩
abbrev cX5_bestSalt : ByteArray := prog_7_method_59_code
def yX5_bestSalt : MethodName := ⟨RX5, "bestSalt", "(I)I"⟩
abbrev cX5_put : ByteArray := prog_7_method_60_code
def yX5_put : MethodName := ⟨RX5, "put", "(J)I"⟩
abbrev cX5_wipe : ByteArray := prog_7_method_61_code
def yX5_wipe : MethodName := ⟨RX5, "wipe", "()I"⟩
abbrev cX5_character : ByteArray := prog_7_method_62_code
def yX5_character : MethodName := ⟨RX5, "character", "(I)I"⟩
abbrev cX5_isNext : ByteArray := prog_7_method_63_code
def yX5_isNext : MethodName := ⟨RX5, "isNext", "(I)Z"⟩
abbrev cX5_takeDigit : ByteArray := prog_7_method_64_code
def yX5_takeDigit : MethodName := ⟨RX5, "takeDigit", "(I)I"⟩
abbrev cX5_takesNumber : ByteArray := prog_7_method_65_code
def yX5_takesNumber : MethodName := ⟨RX5, "takesNumber", "()Z"⟩
abbrev cX5_readsRest : ByteArray := prog_7_method_66_code
def yX5_readsRest : MethodName := ⟨RX5, "readsRest", "()Z"⟩
abbrev cX5_readsOrder : ByteArray := prog_7_method_67_code
def yX5_readsOrder : MethodName := ⟨RX5, "readsOrder", "()Z"⟩
abbrev cX5_findFault : ByteArray := prog_7_method_68_code
def yX5_findFault : MethodName := ⟨RX5, "findFault", "()I"⟩
abbrev cX5_fault : ByteArray := prog_7_method_69_code
def yX5_fault : MethodName := ⟨RX5, "fault", "()I"⟩
abbrev cX5_canDo : ByteArray := prog_7_method_70_code
def yX5_canDo : MethodName := ⟨RX5, "canDo", "()Z"⟩
abbrev cX5_does : ByteArray := prog_7_method_71_code
def yX5_does : MethodName := ⟨RX5, "does", "()V"⟩
abbrev cX5_carryOut : ByteArray := prog_7_method_72_code
def yX5_carryOut : MethodName := ⟨RX5, "carryOut", "()I"⟩
abbrev cX5_undo : ByteArray := prog_7_method_73_code
def yX5_undo : MethodName := ⟨RX5, "undo", "()I"⟩
abbrev cX5_save : ByteArray := prog_7_method_74_code
def yX5_save : MethodName := ⟨RX5, "save", "(I)I"⟩
abbrev cX5_restore : ByteArray := prog_7_method_75_code
def yX5_restore : MethodName := ⟨RX5, "restore", "(I)I"⟩
def RJ6 : String := "java/lang/Integer"
def TJ6 : u_T := fun k => match k with
  | _ => ("", "", "", false)
def tyJ6 : Nat → FieldType := fun k => match k with
  | _ => .int
abbrev wsJ60 : List Cond := u_ws RJ6 TJ6 0
theorem nmJ6 : ∀ a, a < 0 → ∀ b, b < 0 → a ≠ b → (TJ6 a).2.1 ≠ (TJ6 b).2.1 := by decide +kernel
theorem tyJ6_ok : ∀ k, k < 0 → parseFieldDescriptor (TJ6 k).2.2.1 = some (tyJ6 k) := by decide +kernel
abbrev cJ6_bitCount_0f7a4 : ByteArray := prog_8_method_49_code
def yJ6_bitCount_0f7a4 : MethodName := ⟨RJ6, "bitCount", "(I)I"⟩
def RJ9 : String := "java/lang/Math"
def TJ9 : u_T := fun k => match k with
  | _ => ("", "", "", false)
def tyJ9 : Nat → FieldType := fun k => match k with
  | _ => .int
abbrev wsJ90 : List Cond := u_ws RJ9 TJ9 0
theorem nmJ9 : ∀ a, a < 0 → ∀ b, b < 0 → a ≠ b → (TJ9 a).2.1 ≠ (TJ9 b).2.1 := by decide +kernel
theorem tyJ9_ok : ∀ k, k < 0 → parseFieldDescriptor (TJ9 k).2.2.1 = some (tyJ9 k) := by decide +kernel
abbrev cJ9_floorMod_7cf53 : ByteArray := prog_9_method_50_code
def yJ9_floorMod_7cf53 : MethodName := ⟨RJ9, "floorMod", "(II)I"⟩
abbrev cJ9_abs_0f7a4 : ByteArray := prog_9_method_59_code
def yJ9_abs_0f7a4 : MethodName := ⟨RJ9, "abs", "(I)I"⟩
abbrev cJ9_max_7cf53 : ByteArray := prog_9_method_65_code
def yJ9_max_7cf53 : MethodName := ⟨RJ9, "max", "(II)I"⟩
def RJ10 : String := "java/lang/System"
def TJ10 : u_T := fun k => match k with
  | _ => ("", "", "", false)
def tyJ10 : Nat → FieldType := fun k => match k with
  | _ => .int
abbrev wsJ100 : List Cond := u_ws RJ10 TJ10 0
theorem nmJ10 : ∀ a, a < 0 → ∀ b, b < 0 → a ≠ b → (TJ10 a).2.1 ≠ (TJ10 b).2.1 := by decide +kernel
theorem tyJ10_ok : ∀ k, k < 0 → parseFieldDescriptor (TJ10 k).2.2.1 = some (tyJ10 k) := by decide +kernel
def RJ7 : String := "java/util/Arrays"
def TJ7 : u_T := fun k => match k with
  | _ => ("", "", "", false)
def tyJ7 : Nat → FieldType := fun k => match k with
  | _ => .int
abbrev wsJ70 : List Cond := u_ws RJ7 TJ7 0
theorem nmJ7 : ∀ a, a < 0 → ∀ b, b < 0 → a ≠ b → (TJ7 a).2.1 ≠ (TJ7 b).2.1 := by decide +kernel
theorem tyJ7_ok : ∀ k, k < 0 → parseFieldDescriptor (TJ7 k).2.2.1 = some (tyJ7 k) := by decide +kernel
abbrev cJ7_fill_53178 : ByteArray := prog_11_method_103_code
def yJ7_fill_53178 : MethodName := ⟨RJ7, "fill", "([II)V"⟩
def RL : String := "JoinedSketchesLaw"
abbrev cL_law : ByteArray := code
def yL_law : MethodName := ⟨RL, "law", "([I)Z"⟩
def wsX2_init : List Cond := .code yX2_init cX2_init 1 none :: ([.methodLink RX2 3 objectInit, .instanceMethod objectInit, .code objectInit ⟨#[0xb1]⟩ 1 none, .fieldLink RX2 9 "JoinedSketches$Sketch" "bits" "I", .arrayClass .int, .fieldLink RX2 15 "JoinedSketches$Sketch" "ranks" "[I", .fieldLink RX2 19 "JoinedSketches$Sketch" "things" "[I", .fieldLink RX2 22 "JoinedSketches$Sketch" "listLength" "I", .fieldLink RX2 25 "JoinedSketches$Sketch" "full" "Z"] ++ wsX20)
def wsX3_init : List Cond := .code yX3_init cX3_init 2 none :: ([.methodLink RX3 3 objectInit, .instanceMethod objectInit, .code objectInit ⟨#[0xb1]⟩ 1 none, .fieldLink RX3 9 "JoinedSketches$State" "salt" "I", .classLink RX3 15 RX2, .fieldLink RX3 17 "JoinedSketches$State" "sketches" "[LJoinedSketches$Sketch;", .instantiable RX2 5, .initialized RX2, .instanceMethod yX2_init, .code yX2_init cX2_init 1 none, .methodLink RX2 3 objectInit, .fieldLink RX2 9 "JoinedSketches$Sketch" "bits" "I", .arrayClass .int, .fieldLink RX2 15 "JoinedSketches$Sketch" "ranks" "[I", .fieldLink RX2 19 "JoinedSketches$Sketch" "things" "[I", .fieldLink RX2 22 "JoinedSketches$Sketch" "listLength" "I", .fieldLink RX2 25 "JoinedSketches$Sketch" "full" "Z"] ++ wsX30 ++ wsX20)
def wsX0_init_r1 : List Cond := [Cond.methodLink RX0 3 objectInit, Cond.instanceMethod objectInit, Cond.code objectInit ⟨#[0xb1]⟩ 1 none, Cond.classLink RX0 9 RX3, Cond.fieldLink RX0 11 "JoinedSketches$History" "ring" "[LJoinedSketches$State;", Cond.fieldLink RX0 17 "JoinedSketches$History" "oldest" "I", Cond.fieldLink RX0 21 "JoinedSketches$History" "size" "I", Cond.instantiable RX3 2, Cond.initialized RX3, Cond.methodLink RX0 24 yX3_init, Cond.instanceMethod yX3_init, Cond.code yX3_init cX3_init 2 none, Cond.methodLink RX3 3 objectInit, Cond.fieldLink RX3 9 "JoinedSketches$State" "salt" "I", Cond.classLink RX3 15 RX2, Cond.fieldLink RX3 17 "JoinedSketches$State" "sketches" "[LJoinedSketches$Sketch;", Cond.instantiable RX2 5, Cond.initialized RX2, Cond.instanceMethod yX2_init, Cond.code yX2_init cX2_init 1 none, Cond.methodLink RX2 3 objectInit, Cond.fieldLink RX2 9 "JoinedSketches$Sketch" "bits" "I", Cond.arrayClass .int, Cond.fieldLink RX2 15 "JoinedSketches$Sketch" "ranks" "[I"]
def wsX0_init_r2 : List Cond := [Cond.fieldLink RX2 19 "JoinedSketches$Sketch" "things" "[I", Cond.fieldLink RX2 22 "JoinedSketches$Sketch" "listLength" "I", Cond.fieldLink RX2 25 "JoinedSketches$Sketch" "full" "Z"]
def wsX0_init : List Cond := .code yX0_init cX0_init 2 none :: ((wsX0_init_r1 ++ wsX0_init_r2) ++ wsX00 ++ wsX30 ++ wsX20)
def wsJ9_floorMod_7cf53 : List Cond := .code yJ9_floorMod_7cf53 cJ9_floorMod_7cf53 3 (some .int) :: ([])
def wsX2_copyFrom : List Cond := .code yX2_copyFrom cX2_copyFrom 2 none :: ([.fieldLink RX2 9 "JoinedSketches$Sketch" "bits" "I", .fieldLink RX2 15 "JoinedSketches$Sketch" "ranks" "[I", .methodLink RX2 84 arraycopyName, .native arraycopyName, .static arraycopyName, .initialized "java/lang/System", .fieldLink RX2 19 "JoinedSketches$Sketch" "things" "[I", .fieldLink RX2 22 "JoinedSketches$Sketch" "listLength" "I", .fieldLink RX2 25 "JoinedSketches$Sketch" "full" "Z"] ++ wsX20)
def wsX3_copyFrom : List Cond := .code yX3_copyFrom cX3_copyFrom 3 none :: ([.fieldLink RX3 9 "JoinedSketches$State" "salt" "I", .fieldLink RX3 17 "JoinedSketches$State" "sketches" "[LJoinedSketches$Sketch;", .methodLink RX3 29 yX2_copyFrom, .instanceMethod yX2_copyFrom, .selects RX2 yX2_copyFrom yX2_copyFrom, .initialized RX2, .code yX2_copyFrom cX2_copyFrom 2 none, .fieldLink RX2 9 "JoinedSketches$Sketch" "bits" "I", .fieldLink RX2 15 "JoinedSketches$Sketch" "ranks" "[I", .methodLink RX2 84 arraycopyName, .native arraycopyName, .static arraycopyName, .initialized "java/lang/System", .fieldLink RX2 19 "JoinedSketches$Sketch" "things" "[I", .fieldLink RX2 22 "JoinedSketches$Sketch" "listLength" "I", .fieldLink RX2 25 "JoinedSketches$Sketch" "full" "Z"] ++ wsX30 ++ wsX20)
def wsX0_record_r1 : List Cond := [Cond.fieldLink RX0 21 "JoinedSketches$History" "size" "I", Cond.fieldLink RX0 17 "JoinedSketches$History" "oldest" "I", Cond.fieldLink RX0 11 "JoinedSketches$History" "ring" "[LJoinedSketches$State;", Cond.methodLink RX0 25 yJ9_floorMod_7cf53, Cond.static yJ9_floorMod_7cf53, Cond.initialized RJ9, Cond.code yJ9_floorMod_7cf53 cJ9_floorMod_7cf53 3 (some .int), Cond.methodLink RX0 31 yX3_copyFrom, Cond.instanceMethod yX3_copyFrom, Cond.selects RX3 yX3_copyFrom yX3_copyFrom, Cond.initialized RX3, Cond.code yX3_copyFrom cX3_copyFrom 3 none, Cond.fieldLink RX3 9 "JoinedSketches$State" "salt" "I", Cond.fieldLink RX3 17 "JoinedSketches$State" "sketches" "[LJoinedSketches$Sketch;", Cond.methodLink RX3 29 yX2_copyFrom, Cond.instanceMethod yX2_copyFrom, Cond.selects RX2 yX2_copyFrom yX2_copyFrom, Cond.initialized RX2, Cond.code yX2_copyFrom cX2_copyFrom 2 none, Cond.fieldLink RX2 9 "JoinedSketches$Sketch" "bits" "I", Cond.fieldLink RX2 15 "JoinedSketches$Sketch" "ranks" "[I", Cond.methodLink RX2 84 arraycopyName, Cond.native arraycopyName, Cond.static arraycopyName]
def wsX0_record_r2 : List Cond := [Cond.initialized "java/lang/System", Cond.fieldLink RX2 19 "JoinedSketches$Sketch" "things" "[I", Cond.fieldLink RX2 22 "JoinedSketches$Sketch" "listLength" "I", Cond.fieldLink RX2 25 "JoinedSketches$Sketch" "full" "Z"]
def wsX0_record : List Cond := .code yX0_record cX0_record 2 none :: ((wsX0_record_r1 ++ wsX0_record_r2) ++ wsX00 ++ wsX30 ++ wsX20)
def wsX0_takeBack_r1 : List Cond := [Cond.fieldLink RX0 21 "JoinedSketches$History" "size" "I", Cond.fieldLink RX0 11 "JoinedSketches$History" "ring" "[LJoinedSketches$State;", Cond.fieldLink RX0 17 "JoinedSketches$History" "oldest" "I", Cond.methodLink RX0 25 yJ9_floorMod_7cf53, Cond.static yJ9_floorMod_7cf53, Cond.initialized RJ9, Cond.code yJ9_floorMod_7cf53 cJ9_floorMod_7cf53 3 (some .int), Cond.methodLink RX0 31 yX3_copyFrom, Cond.instanceMethod yX3_copyFrom, Cond.selects RX3 yX3_copyFrom yX3_copyFrom, Cond.initialized RX3, Cond.code yX3_copyFrom cX3_copyFrom 3 none, Cond.fieldLink RX3 9 "JoinedSketches$State" "salt" "I", Cond.fieldLink RX3 17 "JoinedSketches$State" "sketches" "[LJoinedSketches$Sketch;", Cond.methodLink RX3 29 yX2_copyFrom, Cond.instanceMethod yX2_copyFrom, Cond.selects RX2 yX2_copyFrom yX2_copyFrom, Cond.initialized RX2, Cond.code yX2_copyFrom cX2_copyFrom 2 none, Cond.fieldLink RX2 9 "JoinedSketches$Sketch" "bits" "I", Cond.fieldLink RX2 15 "JoinedSketches$Sketch" "ranks" "[I", Cond.methodLink RX2 84 arraycopyName, Cond.native arraycopyName, Cond.static arraycopyName]
def wsX0_takeBack_r2 : List Cond := [Cond.initialized "java/lang/System", Cond.fieldLink RX2 19 "JoinedSketches$Sketch" "things" "[I", Cond.fieldLink RX2 22 "JoinedSketches$Sketch" "listLength" "I", Cond.fieldLink RX2 25 "JoinedSketches$Sketch" "full" "Z"]
def wsX0_takeBack : List Cond := .code yX0_takeBack cX0_takeBack 2 none :: ((wsX0_takeBack_r1 ++ wsX0_takeBack_r2) ++ wsX00 ++ wsX30 ++ wsX20)
def wsX1_init : List Cond := .code yX1_init cX1_init 1 none :: ([.methodLink RX1 3 objectInit, .instanceMethod objectInit, .code objectInit ⟨#[0xb1]⟩ 1 none, .arrayClass .char, .fieldLink RX1 9 "JoinedSketches$Pad" "signs" "[C", .fieldLink RX1 15 "JoinedSketches$Pad" "length" "I", .fieldLink RX1 19 "JoinedSketches$Pad" "at" "I", .fieldLink RX1 22 "JoinedSketches$Pad" "sketch" "I", .fieldLink RX1 25 "JoinedSketches$Pad" "verb" "I", .arrayClass .int, .fieldLink RX1 28 "JoinedSketches$Pad" "numbers" "[I", .fieldLink RX1 32 "JoinedSketches$Pad" "many" "I"] ++ wsX10)
def wsX1_append : List Cond := .code yX1_append cX1_append 2 none :: ([.fieldLink RX1 15 "JoinedSketches$Pad" "length" "I", .fieldLink RX1 9 "JoinedSketches$Pad" "signs" "[C"] ++ wsX10)
def wsX1_clear : List Cond := .code yX1_clear cX1_clear 1 none :: ([.fieldLink RX1 15 "JoinedSketches$Pad" "length" "I"] ++ wsX10)
def wsX1_goToStart : List Cond := .code yX1_goToStart cX1_goToStart 1 none :: ([.fieldLink RX1 19 "JoinedSketches$Pad" "at" "I"] ++ wsX10)
def wsX1_sign : List Cond := .code yX1_sign cX1_sign 1 (some .char) :: ([.fieldLink RX1 19 "JoinedSketches$Pad" "at" "I", .fieldLink RX1 15 "JoinedSketches$Pad" "length" "I", .fieldLink RX1 9 "JoinedSketches$Pad" "signs" "[C"] ++ wsX10)
def wsX1_digit : List Cond := .code yX1_digit cX1_digit 2 (some .int) :: ([.methodLink RX1 53 yX1_sign, .instanceMethod yX1_sign, .selects RX1 yX1_sign yX1_sign, .initialized RX1, .code yX1_sign cX1_sign 1 (some .char), .fieldLink RX1 19 "JoinedSketches$Pad" "at" "I", .fieldLink RX1 15 "JoinedSketches$Pad" "length" "I", .fieldLink RX1 9 "JoinedSketches$Pad" "signs" "[C"] ++ wsX10)
def wsX1_standsAtSketch : List Cond := .code yX1_standsAtSketch cX1_standsAtSketch 2 (some .boolean) :: ([.methodLink RX1 49 yX1_digit, .instanceMethod yX1_digit, .selects RX1 yX1_digit yX1_digit, .initialized RX1, .code yX1_digit cX1_digit 2 (some .int), .methodLink RX1 53 yX1_sign, .instanceMethod yX1_sign, .selects RX1 yX1_sign yX1_sign, .code yX1_sign cX1_sign 1 (some .char), .fieldLink RX1 19 "JoinedSketches$Pad" "at" "I", .fieldLink RX1 15 "JoinedSketches$Pad" "length" "I", .fieldLink RX1 9 "JoinedSketches$Pad" "signs" "[C"] ++ wsX10)
def wsX1_keepNumber : List Cond := .code yX1_keepNumber cX1_keepNumber 2 none :: ([.fieldLink RX1 32 "JoinedSketches$Pad" "many" "I", .fieldLink RX1 28 "JoinedSketches$Pad" "numbers" "[I"] ++ wsX10)
def wsX1_readNumber : List Cond := .code yX1_readNumber cX1_readNumber 4 (some .boolean) :: ([.fieldLink RX1 19 "JoinedSketches$Pad" "at" "I", .constant RX1 70 (100000), .methodLink RX1 49 yX1_digit, .instanceMethod yX1_digit, .selects RX1 yX1_digit yX1_digit, .initialized RX1, .code yX1_digit cX1_digit 2 (some .int), .methodLink RX1 53 yX1_sign, .instanceMethod yX1_sign, .selects RX1 yX1_sign yX1_sign, .code yX1_sign cX1_sign 1 (some .char), .fieldLink RX1 15 "JoinedSketches$Pad" "length" "I", .fieldLink RX1 9 "JoinedSketches$Pad" "signs" "[C", .methodLink RX1 66 yX1_keepNumber, .instanceMethod yX1_keepNumber, .selects RX1 yX1_keepNumber yX1_keepNumber, .code yX1_keepNumber cX1_keepNumber 2 none, .fieldLink RX1 32 "JoinedSketches$Pad" "many" "I", .fieldLink RX1 28 "JoinedSketches$Pad" "numbers" "[I"] ++ wsX10)
def wsX1_accept : List Cond := .code yX1_accept cX1_accept 2 (some .boolean) :: ([.fieldLink RX1 19 "JoinedSketches$Pad" "at" "I", .methodLink RX1 53 yX1_sign, .instanceMethod yX1_sign, .selects RX1 yX1_sign yX1_sign, .initialized RX1, .code yX1_sign cX1_sign 1 (some .char), .fieldLink RX1 15 "JoinedSketches$Pad" "length" "I", .fieldLink RX1 9 "JoinedSketches$Pad" "signs" "[C"] ++ wsX10)
def wsX1_readThings_r1 : List Cond := [Cond.methodLink RX1 63 yX1_readNumber, Cond.instanceMethod yX1_readNumber, Cond.selects RX1 yX1_readNumber yX1_readNumber, Cond.initialized RX1, Cond.code yX1_readNumber cX1_readNumber 4 (some .boolean), Cond.fieldLink RX1 19 "JoinedSketches$Pad" "at" "I", Cond.constant RX1 70 (100000), Cond.methodLink RX1 49 yX1_digit, Cond.instanceMethod yX1_digit, Cond.selects RX1 yX1_digit yX1_digit, Cond.code yX1_digit cX1_digit 2 (some .int), Cond.methodLink RX1 53 yX1_sign, Cond.instanceMethod yX1_sign, Cond.selects RX1 yX1_sign yX1_sign, Cond.code yX1_sign cX1_sign 1 (some .char), Cond.fieldLink RX1 15 "JoinedSketches$Pad" "length" "I", Cond.fieldLink RX1 9 "JoinedSketches$Pad" "signs" "[C", Cond.methodLink RX1 66 yX1_keepNumber, Cond.instanceMethod yX1_keepNumber, Cond.selects RX1 yX1_keepNumber yX1_keepNumber, Cond.code yX1_keepNumber cX1_keepNumber 2 none, Cond.fieldLink RX1 32 "JoinedSketches$Pad" "many" "I", Cond.fieldLink RX1 28 "JoinedSketches$Pad" "numbers" "[I", Cond.methodLink RX1 42 yX1_accept]
def wsX1_readThings_r2 : List Cond := [Cond.instanceMethod yX1_accept, Cond.selects RX1 yX1_accept yX1_accept, Cond.code yX1_accept cX1_accept 2 (some .boolean)]
def wsX1_readThings : List Cond := .code yX1_readThings cX1_readThings 2 (some .boolean) :: ((wsX1_readThings_r1 ++ wsX1_readThings_r2) ++ wsX10)
def wsX1_readOther : List Cond := .code yX1_readOther cX1_readOther 1 (some .boolean) :: ([.fieldLink RX1 19 "JoinedSketches$Pad" "at" "I", .methodLink RX1 46 yX1_standsAtSketch, .instanceMethod yX1_standsAtSketch, .selects RX1 yX1_standsAtSketch yX1_standsAtSketch, .initialized RX1, .code yX1_standsAtSketch cX1_standsAtSketch 2 (some .boolean), .methodLink RX1 49 yX1_digit, .instanceMethod yX1_digit, .selects RX1 yX1_digit yX1_digit, .code yX1_digit cX1_digit 2 (some .int), .methodLink RX1 53 yX1_sign, .instanceMethod yX1_sign, .selects RX1 yX1_sign yX1_sign, .code yX1_sign cX1_sign 1 (some .char), .fieldLink RX1 15 "JoinedSketches$Pad" "length" "I", .fieldLink RX1 9 "JoinedSketches$Pad" "signs" "[C", .methodLink RX1 66 yX1_keepNumber, .instanceMethod yX1_keepNumber, .selects RX1 yX1_keepNumber yX1_keepNumber, .code yX1_keepNumber cX1_keepNumber 2 none, .fieldLink RX1 32 "JoinedSketches$Pad" "many" "I", .fieldLink RX1 28 "JoinedSketches$Pad" "numbers" "[I"] ++ wsX10)
def wsX1_readOrder_r1 : List Cond := [Cond.fieldLink RX1 32 "JoinedSketches$Pad" "many" "I", Cond.fieldLink RX1 22 "JoinedSketches$Pad" "sketch" "I", Cond.fieldLink RX1 19 "JoinedSketches$Pad" "at" "I", Cond.fieldLink RX1 25 "JoinedSketches$Pad" "verb" "I", Cond.methodLink RX1 46 yX1_standsAtSketch, Cond.instanceMethod yX1_standsAtSketch, Cond.selects RX1 yX1_standsAtSketch yX1_standsAtSketch, Cond.initialized RX1, Cond.code yX1_standsAtSketch cX1_standsAtSketch 2 (some .boolean), Cond.methodLink RX1 49 yX1_digit, Cond.instanceMethod yX1_digit, Cond.selects RX1 yX1_digit yX1_digit, Cond.code yX1_digit cX1_digit 2 (some .int), Cond.methodLink RX1 53 yX1_sign, Cond.instanceMethod yX1_sign, Cond.selects RX1 yX1_sign yX1_sign, Cond.code yX1_sign cX1_sign 1 (some .char), Cond.fieldLink RX1 15 "JoinedSketches$Pad" "length" "I", Cond.fieldLink RX1 9 "JoinedSketches$Pad" "signs" "[C", Cond.methodLink RX1 57 yX1_readThings, Cond.instanceMethod yX1_readThings, Cond.selects RX1 yX1_readThings yX1_readThings, Cond.code yX1_readThings cX1_readThings 2 (some .boolean), Cond.methodLink RX1 63 yX1_readNumber]
def wsX1_readOrder_r2 : List Cond := [Cond.instanceMethod yX1_readNumber, Cond.selects RX1 yX1_readNumber yX1_readNumber, Cond.code yX1_readNumber cX1_readNumber 4 (some .boolean), Cond.constant RX1 70 (100000), Cond.methodLink RX1 66 yX1_keepNumber, Cond.instanceMethod yX1_keepNumber, Cond.selects RX1 yX1_keepNumber yX1_keepNumber, Cond.code yX1_keepNumber cX1_keepNumber 2 none, Cond.fieldLink RX1 28 "JoinedSketches$Pad" "numbers" "[I", Cond.methodLink RX1 42 yX1_accept, Cond.instanceMethod yX1_accept, Cond.selects RX1 yX1_accept yX1_accept, Cond.code yX1_accept cX1_accept 2 (some .boolean), Cond.methodLink RX1 60 yX1_readOther, Cond.instanceMethod yX1_readOther, Cond.selects RX1 yX1_readOther yX1_readOther, Cond.code yX1_readOther cX1_readOther 1 (some .boolean)]
def wsX1_readOrder : List Cond := .code yX1_readOrder cX1_readOrder 1 (some .boolean) :: ((wsX1_readOrder_r1 ++ wsX1_readOrder_r2) ++ wsX10)
def wsX1_faultPlace_r1 : List Cond := [Cond.fieldLink RX1 19 "JoinedSketches$Pad" "at" "I", Cond.fieldLink RX1 15 "JoinedSketches$Pad" "length" "I", Cond.methodLink RX1 35 yX1_goToStart, Cond.instanceMethod yX1_goToStart, Cond.selects RX1 yX1_goToStart yX1_goToStart, Cond.initialized RX1, Cond.code yX1_goToStart cX1_goToStart 1 none, Cond.methodLink RX1 38 yX1_readOrder, Cond.instanceMethod yX1_readOrder, Cond.selects RX1 yX1_readOrder yX1_readOrder, Cond.code yX1_readOrder cX1_readOrder 1 (some .boolean), Cond.fieldLink RX1 32 "JoinedSketches$Pad" "many" "I", Cond.fieldLink RX1 22 "JoinedSketches$Pad" "sketch" "I", Cond.fieldLink RX1 25 "JoinedSketches$Pad" "verb" "I", Cond.methodLink RX1 46 yX1_standsAtSketch, Cond.instanceMethod yX1_standsAtSketch, Cond.selects RX1 yX1_standsAtSketch yX1_standsAtSketch, Cond.code yX1_standsAtSketch cX1_standsAtSketch 2 (some .boolean), Cond.methodLink RX1 49 yX1_digit, Cond.instanceMethod yX1_digit, Cond.selects RX1 yX1_digit yX1_digit, Cond.code yX1_digit cX1_digit 2 (some .int), Cond.methodLink RX1 53 yX1_sign, Cond.instanceMethod yX1_sign]
def wsX1_faultPlace_r2 : List Cond := [Cond.selects RX1 yX1_sign yX1_sign, Cond.code yX1_sign cX1_sign 1 (some .char), Cond.fieldLink RX1 9 "JoinedSketches$Pad" "signs" "[C", Cond.methodLink RX1 57 yX1_readThings, Cond.instanceMethod yX1_readThings, Cond.selects RX1 yX1_readThings yX1_readThings, Cond.code yX1_readThings cX1_readThings 2 (some .boolean), Cond.methodLink RX1 63 yX1_readNumber, Cond.instanceMethod yX1_readNumber, Cond.selects RX1 yX1_readNumber yX1_readNumber, Cond.code yX1_readNumber cX1_readNumber 4 (some .boolean), Cond.constant RX1 70 (100000), Cond.methodLink RX1 66 yX1_keepNumber, Cond.instanceMethod yX1_keepNumber, Cond.selects RX1 yX1_keepNumber yX1_keepNumber, Cond.code yX1_keepNumber cX1_keepNumber 2 none, Cond.fieldLink RX1 28 "JoinedSketches$Pad" "numbers" "[I", Cond.methodLink RX1 42 yX1_accept, Cond.instanceMethod yX1_accept, Cond.selects RX1 yX1_accept yX1_accept, Cond.code yX1_accept cX1_accept 2 (some .boolean), Cond.methodLink RX1 60 yX1_readOther, Cond.instanceMethod yX1_readOther, Cond.selects RX1 yX1_readOther yX1_readOther]
def wsX1_faultPlace_r3 : List Cond := [Cond.code yX1_readOther cX1_readOther 1 (some .boolean)]
def wsX1_faultPlace : List Cond := .code yX1_faultPlace cX1_faultPlace 2 (some .int) :: ((wsX1_faultPlace_r1 ++ (wsX1_faultPlace_r2 ++ wsX1_faultPlace_r3)) ++ wsX10)
def wsX1_numberAt : List Cond := .code yX1_numberAt cX1_numberAt 2 (some .int) :: ([.fieldLink RX1 32 "JoinedSketches$Pad" "many" "I", .fieldLink RX1 28 "JoinedSketches$Pad" "numbers" "[I"] ++ wsX10)
def wsX2_buckets : List Cond := .code yX2_buckets cX2_buckets 1 (some .int) :: ([.fieldLink RX2 9 "JoinedSketches$Sketch" "bits" "I"] ++ wsX20)
def wsX2_hasBucket : List Cond := .code yX2_hasBucket cX2_hasBucket 2 (some .boolean) :: ([.fieldLink RX2 9 "JoinedSketches$Sketch" "bits" "I", .fieldLink RX2 15 "JoinedSketches$Sketch" "ranks" "[I"] ++ wsX20)
def wsX2_rankIn : List Cond := .code yX2_rankIn cX2_rankIn 2 (some .int) :: ([.fieldLink RX2 15 "JoinedSketches$Sketch" "ranks" "[I", .methodLink RX2 29 yX2_hasBucket, .instanceMethod yX2_hasBucket, .selects RX2 yX2_hasBucket yX2_hasBucket, .initialized RX2, .code yX2_hasBucket cX2_hasBucket 2 (some .boolean), .fieldLink RX2 9 "JoinedSketches$Sketch" "bits" "I"] ++ wsX20)
def wsX2_bucketOf : List Cond := .code yX2_bucketOf cX2_bucketOf 2 (some .int) :: ([.methodLink RX2 33 yX2_buckets, .instanceMethod yX2_buckets, .selects RX2 yX2_buckets yX2_buckets, .initialized RX2, .code yX2_buckets cX2_buckets 1 (some .int), .fieldLink RX2 9 "JoinedSketches$Sketch" "bits" "I"] ++ wsX20)
def wsJ6_bitCount_0f7a4 : List Cond := .code yJ6_bitCount_0f7a4 cJ6_bitCount_0f7a4 1 (some .int) :: ([.constant RJ6 265 (1431655765), .constant RJ6 266 (858993459), .constant RJ6 267 (252645135)])
def wsX2_rankOf : List Cond := .code yX2_rankOf cX2_rankOf 4 (some .int) :: ([.fieldLink RX2 9 "JoinedSketches$Sketch" "bits" "I", .methodLink RX2 37 yJ6_bitCount_0f7a4, .static yJ6_bitCount_0f7a4, .initialized RJ6, .code yJ6_bitCount_0f7a4 cJ6_bitCount_0f7a4 1 (some .int), .constant RJ6 265 (1431655765), .constant RJ6 266 (858993459), .constant RJ6 267 (252645135)] ++ wsX20)
def wsX2_wouldChangeBy_r1 : List Cond := [Cond.methodLink RX2 43 yX2_rankOf, Cond.instanceMethod yX2_rankOf, Cond.selects RX2 yX2_rankOf yX2_rankOf, Cond.initialized RX2, Cond.code yX2_rankOf cX2_rankOf 4 (some .int), Cond.fieldLink RX2 9 "JoinedSketches$Sketch" "bits" "I", Cond.methodLink RX2 37 yJ6_bitCount_0f7a4, Cond.static yJ6_bitCount_0f7a4, Cond.initialized RJ6, Cond.code yJ6_bitCount_0f7a4 cJ6_bitCount_0f7a4 1 (some .int), Cond.constant RJ6 265 (1431655765), Cond.constant RJ6 266 (858993459), Cond.constant RJ6 267 (252645135), Cond.methodLink RX2 46 yX2_bucketOf, Cond.instanceMethod yX2_bucketOf, Cond.selects RX2 yX2_bucketOf yX2_bucketOf, Cond.code yX2_bucketOf cX2_bucketOf 2 (some .int), Cond.methodLink RX2 33 yX2_buckets, Cond.instanceMethod yX2_buckets, Cond.selects RX2 yX2_buckets yX2_buckets, Cond.code yX2_buckets cX2_buckets 1 (some .int), Cond.methodLink RX2 49 yX2_rankIn, Cond.instanceMethod yX2_rankIn, Cond.selects RX2 yX2_rankIn yX2_rankIn]
def wsX2_wouldChangeBy_r2 : List Cond := [Cond.code yX2_rankIn cX2_rankIn 2 (some .int), Cond.fieldLink RX2 15 "JoinedSketches$Sketch" "ranks" "[I", Cond.methodLink RX2 29 yX2_hasBucket, Cond.instanceMethod yX2_hasBucket, Cond.selects RX2 yX2_hasBucket yX2_hasBucket, Cond.code yX2_hasBucket cX2_hasBucket 2 (some .boolean)]
def wsX2_wouldChangeBy : List Cond := .code yX2_wouldChangeBy cX2_wouldChangeBy 2 (some .boolean) :: ((wsX2_wouldChangeBy_r1 ++ wsX2_wouldChangeBy_r2) ++ wsX20)
def wsX2_raise : List Cond := .code yX2_raise cX2_raise 3 (some .boolean) :: ([.fieldLink RX2 15 "JoinedSketches$Sketch" "ranks" "[I", .methodLink RX2 29 yX2_hasBucket, .instanceMethod yX2_hasBucket, .selects RX2 yX2_hasBucket yX2_hasBucket, .initialized RX2, .code yX2_hasBucket cX2_hasBucket 2 (some .boolean), .fieldLink RX2 9 "JoinedSketches$Sketch" "bits" "I"] ++ wsX20)
def wsX2_takeHash_r1 : List Cond := [Cond.methodLink RX2 46 yX2_bucketOf, Cond.instanceMethod yX2_bucketOf, Cond.selects RX2 yX2_bucketOf yX2_bucketOf, Cond.initialized RX2, Cond.code yX2_bucketOf cX2_bucketOf 2 (some .int), Cond.methodLink RX2 33 yX2_buckets, Cond.instanceMethod yX2_buckets, Cond.selects RX2 yX2_buckets yX2_buckets, Cond.code yX2_buckets cX2_buckets 1 (some .int), Cond.fieldLink RX2 9 "JoinedSketches$Sketch" "bits" "I", Cond.methodLink RX2 43 yX2_rankOf, Cond.instanceMethod yX2_rankOf, Cond.selects RX2 yX2_rankOf yX2_rankOf, Cond.code yX2_rankOf cX2_rankOf 4 (some .int), Cond.methodLink RX2 37 yJ6_bitCount_0f7a4, Cond.static yJ6_bitCount_0f7a4, Cond.initialized RJ6, Cond.code yJ6_bitCount_0f7a4 cJ6_bitCount_0f7a4 1 (some .int), Cond.constant RJ6 265 (1431655765), Cond.constant RJ6 266 (858993459), Cond.constant RJ6 267 (252645135), Cond.methodLink RX2 52 yX2_raise, Cond.instanceMethod yX2_raise, Cond.selects RX2 yX2_raise yX2_raise]
def wsX2_takeHash_r2 : List Cond := [Cond.code yX2_raise cX2_raise 3 (some .boolean), Cond.fieldLink RX2 15 "JoinedSketches$Sketch" "ranks" "[I", Cond.methodLink RX2 29 yX2_hasBucket, Cond.instanceMethod yX2_hasBucket, Cond.selects RX2 yX2_hasBucket yX2_hasBucket, Cond.code yX2_hasBucket cX2_hasBucket 2 (some .boolean)]
def wsX2_takeHash : List Cond := .code yX2_takeHash cX2_takeHash 2 (some .boolean) :: ((wsX2_takeHash_r1 ++ wsX2_takeHash_r2) ++ wsX20)
def wsX2_isListed : List Cond := .code yX2_isListed cX2_isListed 3 (some .boolean) :: ([.fieldLink RX2 22 "JoinedSketches$Sketch" "listLength" "I", .fieldLink RX2 19 "JoinedSketches$Sketch" "things" "[I"] ++ wsX20)
def wsX2_fillList : List Cond := .code yX2_fillList cX2_fillList 1 none :: ([.fieldLink RX2 25 "JoinedSketches$Sketch" "full" "Z", .fieldLink RX2 22 "JoinedSketches$Sketch" "listLength" "I"] ++ wsX20)
def wsX2_list : List Cond := .code yX2_list cX2_list 2 none :: ([.fieldLink RX2 25 "JoinedSketches$Sketch" "full" "Z", .fieldLink RX2 22 "JoinedSketches$Sketch" "listLength" "I", .fieldLink RX2 19 "JoinedSketches$Sketch" "things" "[I", .methodLink RX2 56 yX2_isListed, .instanceMethod yX2_isListed, .selects RX2 yX2_isListed yX2_isListed, .initialized RX2, .code yX2_isListed cX2_isListed 3 (some .boolean), .methodLink RX2 59 yX2_fillList, .instanceMethod yX2_fillList, .selects RX2 yX2_fillList yX2_fillList, .code yX2_fillList cX2_fillList 1 none] ++ wsX20)
def wsX2_hasPlace : List Cond := .code yX2_hasPlace cX2_hasPlace 2 (some .boolean) :: ([.fieldLink RX2 22 "JoinedSketches$Sketch" "listLength" "I", .fieldLink RX2 19 "JoinedSketches$Sketch" "things" "[I"] ++ wsX20)
def wsX2_thingAt : List Cond := .code yX2_thingAt cX2_thingAt 2 (some .int) :: ([.fieldLink RX2 19 "JoinedSketches$Sketch" "things" "[I", .methodLink RX2 62 yX2_hasPlace, .instanceMethod yX2_hasPlace, .selects RX2 yX2_hasPlace yX2_hasPlace, .initialized RX2, .code yX2_hasPlace cX2_hasPlace 2 (some .boolean), .fieldLink RX2 22 "JoinedSketches$Sketch" "listLength" "I"] ++ wsX20)
def wsX2_takeAll_r1 : List Cond := [Cond.fieldLink RX2 25 "JoinedSketches$Sketch" "full" "Z", Cond.fieldLink RX2 22 "JoinedSketches$Sketch" "listLength" "I", Cond.methodLink RX2 33 yX2_buckets, Cond.instanceMethod yX2_buckets, Cond.selects RX2 yX2_buckets yX2_buckets, Cond.initialized RX2, Cond.code yX2_buckets cX2_buckets 1 (some .int), Cond.fieldLink RX2 9 "JoinedSketches$Sketch" "bits" "I", Cond.methodLink RX2 49 yX2_rankIn, Cond.instanceMethod yX2_rankIn, Cond.selects RX2 yX2_rankIn yX2_rankIn, Cond.code yX2_rankIn cX2_rankIn 2 (some .int), Cond.fieldLink RX2 15 "JoinedSketches$Sketch" "ranks" "[I", Cond.methodLink RX2 29 yX2_hasBucket, Cond.instanceMethod yX2_hasBucket, Cond.selects RX2 yX2_hasBucket yX2_hasBucket, Cond.code yX2_hasBucket cX2_hasBucket 2 (some .boolean), Cond.methodLink RX2 52 yX2_raise, Cond.instanceMethod yX2_raise, Cond.selects RX2 yX2_raise yX2_raise, Cond.code yX2_raise cX2_raise 3 (some .boolean), Cond.methodLink RX2 59 yX2_fillList, Cond.instanceMethod yX2_fillList, Cond.selects RX2 yX2_fillList yX2_fillList]
def wsX2_takeAll_r2 : List Cond := [Cond.code yX2_fillList cX2_fillList 1 none, Cond.methodLink RX2 65 yX2_thingAt, Cond.instanceMethod yX2_thingAt, Cond.selects RX2 yX2_thingAt yX2_thingAt, Cond.code yX2_thingAt cX2_thingAt 2 (some .int), Cond.fieldLink RX2 19 "JoinedSketches$Sketch" "things" "[I", Cond.methodLink RX2 62 yX2_hasPlace, Cond.instanceMethod yX2_hasPlace, Cond.selects RX2 yX2_hasPlace yX2_hasPlace, Cond.code yX2_hasPlace cX2_hasPlace 2 (some .boolean), Cond.methodLink RX2 68 yX2_list, Cond.instanceMethod yX2_list, Cond.selects RX2 yX2_list yX2_list, Cond.code yX2_list cX2_list 2 none, Cond.methodLink RX2 56 yX2_isListed, Cond.instanceMethod yX2_isListed, Cond.selects RX2 yX2_isListed yX2_isListed, Cond.code yX2_isListed cX2_isListed 3 (some .boolean)]
def wsX2_takeAll : List Cond := .code yX2_takeAll cX2_takeAll 3 none :: ((wsX2_takeAll_r1 ++ wsX2_takeAll_r2) ++ wsX20)
def wsX2_halve : List Cond := .code yX2_halve cX2_halve 5 none :: ([.fieldLink RX2 15 "JoinedSketches$Sketch" "ranks" "[I", .methodLink RX2 72 Lib.Math.max.name, .static Lib.Math.max.name, .initialized "java/lang/Math", .code Lib.Math.max.name Lib.Math.max.code 2 (some .int), .fieldLink RX2 9 "JoinedSketches$Sketch" "bits" "I", .methodLink RX2 33 yX2_buckets, .instanceMethod yX2_buckets, .selects RX2 yX2_buckets yX2_buckets, .initialized RX2, .code yX2_buckets cX2_buckets 1 (some .int), .methodLink RX2 49 yX2_rankIn, .instanceMethod yX2_rankIn, .selects RX2 yX2_rankIn yX2_rankIn, .code yX2_rankIn cX2_rankIn 2 (some .int), .methodLink RX2 29 yX2_hasBucket, .instanceMethod yX2_hasBucket, .selects RX2 yX2_hasBucket yX2_hasBucket, .code yX2_hasBucket cX2_hasBucket 2 (some .boolean)] ++ wsX20)
def wsJ7_fill_53178 : List Cond := .code yJ7_fill_53178 cJ7_fill_53178 4 none :: ([])
def wsX2_startAgain : List Cond := .code yX2_startAgain cX2_startAgain 2 none :: ([.fieldLink RX2 9 "JoinedSketches$Sketch" "bits" "I", .fieldLink RX2 15 "JoinedSketches$Sketch" "ranks" "[I", .fieldLink RX2 22 "JoinedSketches$Sketch" "listLength" "I", .fieldLink RX2 25 "JoinedSketches$Sketch" "full" "Z", .methodLink RX2 78 yJ7_fill_53178, .static yJ7_fill_53178, .initialized RJ7, .code yJ7_fill_53178 cJ7_fill_53178 4 none] ++ wsX20)
def wsX2_filledBuckets : List Cond := .code yX2_filledBuckets cX2_filledBuckets 3 (some .int) :: ([.methodLink RX2 33 yX2_buckets, .instanceMethod yX2_buckets, .selects RX2 yX2_buckets yX2_buckets, .initialized RX2, .code yX2_buckets cX2_buckets 1 (some .int), .fieldLink RX2 9 "JoinedSketches$Sketch" "bits" "I", .methodLink RX2 49 yX2_rankIn, .instanceMethod yX2_rankIn, .selects RX2 yX2_rankIn yX2_rankIn, .code yX2_rankIn cX2_rankIn 2 (some .int), .fieldLink RX2 15 "JoinedSketches$Sketch" "ranks" "[I", .methodLink RX2 29 yX2_hasBucket, .instanceMethod yX2_hasBucket, .selects RX2 yX2_hasBucket yX2_hasBucket, .code yX2_hasBucket cX2_hasBucket 2 (some .boolean)] ++ wsX20)
def wsX2_emptyBuckets : List Cond := .code yX2_emptyBuckets cX2_emptyBuckets 1 (some .int) :: ([.methodLink RX2 33 yX2_buckets, .instanceMethod yX2_buckets, .selects RX2 yX2_buckets yX2_buckets, .initialized RX2, .code yX2_buckets cX2_buckets 1 (some .int), .fieldLink RX2 9 "JoinedSketches$Sketch" "bits" "I", .methodLink RX2 90 yX2_filledBuckets, .instanceMethod yX2_filledBuckets, .selects RX2 yX2_filledBuckets yX2_filledBuckets, .code yX2_filledBuckets cX2_filledBuckets 3 (some .int), .methodLink RX2 49 yX2_rankIn, .instanceMethod yX2_rankIn, .selects RX2 yX2_rankIn yX2_rankIn, .code yX2_rankIn cX2_rankIn 2 (some .int), .fieldLink RX2 15 "JoinedSketches$Sketch" "ranks" "[I", .methodLink RX2 29 yX2_hasBucket, .instanceMethod yX2_hasBucket, .selects RX2 yX2_hasBucket yX2_hasBucket, .code yX2_hasBucket cX2_hasBucket 2 (some .boolean)] ++ wsX20)
def wsX2_greatestRank : List Cond := .code yX2_greatestRank cX2_greatestRank 3 (some .int) :: ([.methodLink RX2 72 Lib.Math.max.name, .static Lib.Math.max.name, .initialized "java/lang/Math", .code Lib.Math.max.name Lib.Math.max.code 2 (some .int), .methodLink RX2 33 yX2_buckets, .instanceMethod yX2_buckets, .selects RX2 yX2_buckets yX2_buckets, .initialized RX2, .code yX2_buckets cX2_buckets 1 (some .int), .fieldLink RX2 9 "JoinedSketches$Sketch" "bits" "I", .methodLink RX2 49 yX2_rankIn, .instanceMethod yX2_rankIn, .selects RX2 yX2_rankIn yX2_rankIn, .code yX2_rankIn cX2_rankIn 2 (some .int), .fieldLink RX2 15 "JoinedSketches$Sketch" "ranks" "[I", .methodLink RX2 29 yX2_hasBucket, .instanceMethod yX2_hasBucket, .selects RX2 yX2_hasBucket yX2_hasBucket, .code yX2_hasBucket cX2_hasBucket 2 (some .boolean)] ++ wsX20)
def wsX2_rankSum : List Cond := .code yX2_rankSum cX2_rankSum 3 (some .int) :: ([.constant RX2 93 (65536), .methodLink RX2 33 yX2_buckets, .instanceMethod yX2_buckets, .selects RX2 yX2_buckets yX2_buckets, .initialized RX2, .code yX2_buckets cX2_buckets 1 (some .int), .fieldLink RX2 9 "JoinedSketches$Sketch" "bits" "I", .methodLink RX2 49 yX2_rankIn, .instanceMethod yX2_rankIn, .selects RX2 yX2_rankIn yX2_rankIn, .code yX2_rankIn cX2_rankIn 2 (some .int), .fieldLink RX2 15 "JoinedSketches$Sketch" "ranks" "[I", .methodLink RX2 29 yX2_hasBucket, .instanceMethod yX2_hasBucket, .selects RX2 yX2_hasBucket yX2_hasBucket, .code yX2_hasBucket cX2_hasBucket 2 (some .boolean)] ++ wsX20)
def wsX2_rawEstimate : List Cond := .code yX2_rawEstimate cX2_rawEstimate 5 (some .int) :: ([.constantLong RX2 94 (10), .constantLong RX2 99 (65536), .constantLong RX2 101 (7), .methodLink RX2 96 yX2_rankSum, .instanceMethod yX2_rankSum, .selects RX2 yX2_rankSum yX2_rankSum, .initialized RX2, .code yX2_rankSum cX2_rankSum 3 (some .int), .constant RX2 93 (65536), .methodLink RX2 33 yX2_buckets, .instanceMethod yX2_buckets, .selects RX2 yX2_buckets yX2_buckets, .code yX2_buckets cX2_buckets 1 (some .int), .fieldLink RX2 9 "JoinedSketches$Sketch" "bits" "I", .methodLink RX2 49 yX2_rankIn, .instanceMethod yX2_rankIn, .selects RX2 yX2_rankIn yX2_rankIn, .code yX2_rankIn cX2_rankIn 2 (some .int), .fieldLink RX2 15 "JoinedSketches$Sketch" "ranks" "[I", .methodLink RX2 29 yX2_hasBucket, .instanceMethod yX2_hasBucket, .selects RX2 yX2_hasBucket yX2_hasBucket, .code yX2_hasBucket cX2_hasBucket 2 (some .boolean)] ++ wsX20)
def wsX2_estimateByEmpty : List Cond := .code yX2_estimateByEmpty cX2_estimateByEmpty 4 (some .int) :: ([.methodLink RX2 72 Lib.Math.max.name, .static Lib.Math.max.name, .initialized "java/lang/Math", .code Lib.Math.max.name Lib.Math.max.code 2 (some .int), .methodLink RX2 33 yX2_buckets, .instanceMethod yX2_buckets, .selects RX2 yX2_buckets yX2_buckets, .initialized RX2, .code yX2_buckets cX2_buckets 1 (some .int), .fieldLink RX2 9 "JoinedSketches$Sketch" "bits" "I"] ++ wsX20)
def wsX2_estimate_r1 : List Cond := [Cond.methodLink RX2 103 yX2_rawEstimate, Cond.instanceMethod yX2_rawEstimate, Cond.selects RX2 yX2_rawEstimate yX2_rawEstimate, Cond.initialized RX2, Cond.code yX2_rawEstimate cX2_rawEstimate 5 (some .int), Cond.constantLong RX2 94 (10), Cond.constantLong RX2 99 (65536), Cond.constantLong RX2 101 (7), Cond.methodLink RX2 96 yX2_rankSum, Cond.instanceMethod yX2_rankSum, Cond.selects RX2 yX2_rankSum yX2_rankSum, Cond.code yX2_rankSum cX2_rankSum 3 (some .int), Cond.constant RX2 93 (65536), Cond.methodLink RX2 33 yX2_buckets, Cond.instanceMethod yX2_buckets, Cond.selects RX2 yX2_buckets yX2_buckets, Cond.code yX2_buckets cX2_buckets 1 (some .int), Cond.fieldLink RX2 9 "JoinedSketches$Sketch" "bits" "I", Cond.methodLink RX2 49 yX2_rankIn, Cond.instanceMethod yX2_rankIn, Cond.selects RX2 yX2_rankIn yX2_rankIn, Cond.code yX2_rankIn cX2_rankIn 2 (some .int), Cond.fieldLink RX2 15 "JoinedSketches$Sketch" "ranks" "[I", Cond.methodLink RX2 29 yX2_hasBucket]
def wsX2_estimate_r2 : List Cond := [Cond.instanceMethod yX2_hasBucket, Cond.selects RX2 yX2_hasBucket yX2_hasBucket, Cond.code yX2_hasBucket cX2_hasBucket 2 (some .boolean), Cond.methodLink RX2 106 yX2_emptyBuckets, Cond.instanceMethod yX2_emptyBuckets, Cond.selects RX2 yX2_emptyBuckets yX2_emptyBuckets, Cond.code yX2_emptyBuckets cX2_emptyBuckets 1 (some .int), Cond.methodLink RX2 90 yX2_filledBuckets, Cond.instanceMethod yX2_filledBuckets, Cond.selects RX2 yX2_filledBuckets yX2_filledBuckets, Cond.code yX2_filledBuckets cX2_filledBuckets 3 (some .int), Cond.methodLink RX2 109 yX2_estimateByEmpty, Cond.instanceMethod yX2_estimateByEmpty, Cond.selects RX2 yX2_estimateByEmpty yX2_estimateByEmpty, Cond.code yX2_estimateByEmpty cX2_estimateByEmpty 4 (some .int), Cond.methodLink RX2 72 Lib.Math.max.name, Cond.static Lib.Math.max.name, Cond.initialized "java/lang/Math", Cond.code Lib.Math.max.name Lib.Math.max.code 2 (some .int)]
def wsX2_estimate : List Cond := .code yX2_estimate cX2_estimate 3 (some .int) :: ((wsX2_estimate_r1 ++ wsX2_estimate_r2) ++ wsX20)
def wsX2_rootOfBuckets : List Cond := .code yX2_rootOfBuckets cX2_rootOfBuckets 3 (some .int) :: ([.methodLink RX2 33 yX2_buckets, .instanceMethod yX2_buckets, .selects RX2 yX2_buckets yX2_buckets, .initialized RX2, .code yX2_buckets cX2_buckets 1 (some .int), .fieldLink RX2 9 "JoinedSketches$Sketch" "bits" "I"] ++ wsX20)
def wsX2_toldError_r1 : List Cond := [Cond.constantLong RX2 112 (100), Cond.constantLong RX2 120 (104), Cond.methodLink RX2 114 yX2_rootOfBuckets, Cond.instanceMethod yX2_rootOfBuckets, Cond.selects RX2 yX2_rootOfBuckets yX2_rootOfBuckets, Cond.initialized RX2, Cond.code yX2_rootOfBuckets cX2_rootOfBuckets 3 (some .int), Cond.methodLink RX2 33 yX2_buckets, Cond.instanceMethod yX2_buckets, Cond.selects RX2 yX2_buckets yX2_buckets, Cond.code yX2_buckets cX2_buckets 1 (some .int), Cond.fieldLink RX2 9 "JoinedSketches$Sketch" "bits" "I", Cond.methodLink RX2 117 yX2_estimate, Cond.instanceMethod yX2_estimate, Cond.selects RX2 yX2_estimate yX2_estimate, Cond.code yX2_estimate cX2_estimate 3 (some .int), Cond.methodLink RX2 103 yX2_rawEstimate, Cond.instanceMethod yX2_rawEstimate, Cond.selects RX2 yX2_rawEstimate yX2_rawEstimate, Cond.code yX2_rawEstimate cX2_rawEstimate 5 (some .int), Cond.constantLong RX2 94 (10), Cond.constantLong RX2 99 (65536), Cond.constantLong RX2 101 (7), Cond.methodLink RX2 96 yX2_rankSum]
def wsX2_toldError_r2 : List Cond := [Cond.instanceMethod yX2_rankSum, Cond.selects RX2 yX2_rankSum yX2_rankSum, Cond.code yX2_rankSum cX2_rankSum 3 (some .int), Cond.constant RX2 93 (65536), Cond.methodLink RX2 49 yX2_rankIn, Cond.instanceMethod yX2_rankIn, Cond.selects RX2 yX2_rankIn yX2_rankIn, Cond.code yX2_rankIn cX2_rankIn 2 (some .int), Cond.fieldLink RX2 15 "JoinedSketches$Sketch" "ranks" "[I", Cond.methodLink RX2 29 yX2_hasBucket, Cond.instanceMethod yX2_hasBucket, Cond.selects RX2 yX2_hasBucket yX2_hasBucket, Cond.code yX2_hasBucket cX2_hasBucket 2 (some .boolean), Cond.methodLink RX2 106 yX2_emptyBuckets, Cond.instanceMethod yX2_emptyBuckets, Cond.selects RX2 yX2_emptyBuckets yX2_emptyBuckets, Cond.code yX2_emptyBuckets cX2_emptyBuckets 1 (some .int), Cond.methodLink RX2 90 yX2_filledBuckets, Cond.instanceMethod yX2_filledBuckets, Cond.selects RX2 yX2_filledBuckets yX2_filledBuckets, Cond.code yX2_filledBuckets cX2_filledBuckets 3 (some .int), Cond.methodLink RX2 109 yX2_estimateByEmpty, Cond.instanceMethod yX2_estimateByEmpty, Cond.selects RX2 yX2_estimateByEmpty yX2_estimateByEmpty]
def wsX2_toldError_r3 : List Cond := [Cond.code yX2_estimateByEmpty cX2_estimateByEmpty 4 (some .int), Cond.methodLink RX2 72 Lib.Math.max.name, Cond.static Lib.Math.max.name, Cond.initialized "java/lang/Math", Cond.code Lib.Math.max.name Lib.Math.max.code 2 (some .int)]
def wsX2_toldError : List Cond := .code yX2_toldError cX2_toldError 3 (some .int) :: ((wsX2_toldError_r1 ++ (wsX2_toldError_r2 ++ wsX2_toldError_r3)) ++ wsX20)
def wsX2_bucketsWithRank : List Cond := .code yX2_bucketsWithRank cX2_bucketsWithRank 5 (some .long) :: ([.methodLink RX2 33 yX2_buckets, .instanceMethod yX2_buckets, .selects RX2 yX2_buckets yX2_buckets, .initialized RX2, .code yX2_buckets cX2_buckets 1 (some .int), .fieldLink RX2 9 "JoinedSketches$Sketch" "bits" "I", .methodLink RX2 49 yX2_rankIn, .instanceMethod yX2_rankIn, .selects RX2 yX2_rankIn yX2_rankIn, .code yX2_rankIn cX2_rankIn 2 (some .int), .fieldLink RX2 15 "JoinedSketches$Sketch" "ranks" "[I", .methodLink RX2 29 yX2_hasBucket, .instanceMethod yX2_hasBucket, .selects RX2 yX2_hasBucket yX2_hasBucket, .code yX2_hasBucket cX2_hasBucket 2 (some .boolean)] ++ wsX20)
def wsX2_sameBuckets : List Cond := .code yX2_sameBuckets cX2_sameBuckets 4 (some .int) :: ([.methodLink RX2 33 yX2_buckets, .instanceMethod yX2_buckets, .selects RX2 yX2_buckets yX2_buckets, .initialized RX2, .code yX2_buckets cX2_buckets 1 (some .int), .fieldLink RX2 9 "JoinedSketches$Sketch" "bits" "I", .methodLink RX2 49 yX2_rankIn, .instanceMethod yX2_rankIn, .selects RX2 yX2_rankIn yX2_rankIn, .code yX2_rankIn cX2_rankIn 2 (some .int), .fieldLink RX2 15 "JoinedSketches$Sketch" "ranks" "[I", .methodLink RX2 29 yX2_hasBucket, .instanceMethod yX2_hasBucket, .selects RX2 yX2_hasBucket yX2_hasBucket, .code yX2_hasBucket cX2_hasBucket 2 (some .boolean)] ++ wsX20)
def wsX3_sketchAt : List Cond := .code yX3_sketchAt cX3_sketchAt 2 (some (.object "JoinedSketches$Sketch")) :: ([.fieldLink RX3 17 "JoinedSketches$State" "sketches" "[LJoinedSketches$Sketch;"] ++ wsX30)
def wsX3_changeSalt : List Cond := .code yX3_changeSalt cX3_changeSalt 6 none :: ([.fieldLink RX3 9 "JoinedSketches$State" "salt" "I", .fieldLink RX3 17 "JoinedSketches$State" "sketches" "[LJoinedSketches$Sketch;", .methodLink RX3 25 yX2_startAgain, .instanceMethod yX2_startAgain, .selects RX2 yX2_startAgain yX2_startAgain, .initialized RX2, .code yX2_startAgain cX2_startAgain 2 none, .fieldLink RX2 9 "JoinedSketches$Sketch" "bits" "I", .fieldLink RX2 15 "JoinedSketches$Sketch" "ranks" "[I", .fieldLink RX2 22 "JoinedSketches$Sketch" "listLength" "I", .fieldLink RX2 25 "JoinedSketches$Sketch" "full" "Z", .methodLink RX2 78 yJ7_fill_53178, .static yJ7_fill_53178, .initialized RJ7, .code yJ7_fill_53178 cJ7_fill_53178 4 none] ++ wsX30 ++ wsX20)
def wsX3_filledSketches : List Cond := .code yX3_filledSketches cX3_filledSketches 6 (some .int) :: ([.fieldLink RX3 17 "JoinedSketches$State" "sketches" "[LJoinedSketches$Sketch;", .methodLink RX3 33 yX2_filledBuckets, .instanceMethod yX2_filledBuckets, .selects RX2 yX2_filledBuckets yX2_filledBuckets, .initialized RX2, .code yX2_filledBuckets cX2_filledBuckets 3 (some .int), .methodLink RX2 33 yX2_buckets, .instanceMethod yX2_buckets, .selects RX2 yX2_buckets yX2_buckets, .code yX2_buckets cX2_buckets 1 (some .int), .fieldLink RX2 9 "JoinedSketches$Sketch" "bits" "I", .methodLink RX2 49 yX2_rankIn, .instanceMethod yX2_rankIn, .selects RX2 yX2_rankIn yX2_rankIn, .code yX2_rankIn cX2_rankIn 2 (some .int), .fieldLink RX2 15 "JoinedSketches$Sketch" "ranks" "[I", .methodLink RX2 29 yX2_hasBucket, .instanceMethod yX2_hasBucket, .selects RX2 yX2_hasBucket yX2_hasBucket, .code yX2_hasBucket cX2_hasBucket 2 (some .boolean)] ++ wsX30 ++ wsX20)
def wsX3_filledBuckets : List Cond := .code yX3_filledBuckets cX3_filledBuckets 6 (some .int) :: ([.fieldLink RX3 17 "JoinedSketches$State" "sketches" "[LJoinedSketches$Sketch;", .methodLink RX3 33 yX2_filledBuckets, .instanceMethod yX2_filledBuckets, .selects RX2 yX2_filledBuckets yX2_filledBuckets, .initialized RX2, .code yX2_filledBuckets cX2_filledBuckets 3 (some .int), .methodLink RX2 33 yX2_buckets, .instanceMethod yX2_buckets, .selects RX2 yX2_buckets yX2_buckets, .code yX2_buckets cX2_buckets 1 (some .int), .fieldLink RX2 9 "JoinedSketches$Sketch" "bits" "I", .methodLink RX2 49 yX2_rankIn, .instanceMethod yX2_rankIn, .selects RX2 yX2_rankIn yX2_rankIn, .code yX2_rankIn cX2_rankIn 2 (some .int), .fieldLink RX2 15 "JoinedSketches$Sketch" "ranks" "[I", .methodLink RX2 29 yX2_hasBucket, .instanceMethod yX2_hasBucket, .selects RX2 yX2_hasBucket yX2_hasBucket, .code yX2_hasBucket cX2_hasBucket 2 (some .boolean)] ++ wsX30 ++ wsX20)
def wsX3_fullLists : List Cond := .code yX3_fullLists cX3_fullLists 6 (some .int) :: ([.fieldLink RX3 17 "JoinedSketches$State" "sketches" "[LJoinedSketches$Sketch;"] ++ wsX30 ++ wsX20)
def wsX4_init_r1 : List Cond := [Cond.methodLink RX4 1 objectInit, Cond.instanceMethod objectInit, Cond.code objectInit ⟨#[0xb1]⟩ 1 none, Cond.classLink RX4 7 RX3, Cond.instantiable RX3 2, Cond.initialized RX3, Cond.fieldLink RX4 10 "JoinedSketches" "now" "LJoinedSketches$State;", Cond.classLink RX4 16 RX0, Cond.instantiable RX0 3, Cond.initialized RX0, Cond.fieldLink RX4 19 "JoinedSketches" "history" "LJoinedSketches$History;", Cond.fieldLink RX4 23 "JoinedSketches" "slots" "[LJoinedSketches$State;", Cond.arrayClass .boolean, Cond.fieldLink RX4 27 "JoinedSketches" "saved" "[Z", Cond.classLink RX4 31 RX1, Cond.instantiable RX1 7, Cond.initialized RX1, Cond.fieldLink RX4 34 "JoinedSketches" "pad" "LJoinedSketches$Pad;", Cond.classLink RX4 38 RX2, Cond.instantiable RX2 5, Cond.initialized RX2, Cond.fieldLink RX4 41 "JoinedSketches" "trial" "LJoinedSketches$Sketch;", Cond.methodLink RX4 9 yX3_init, Cond.instanceMethod yX3_init]
def wsX4_init_r2 : List Cond := [Cond.code yX3_init cX3_init 2 none, Cond.methodLink RX3 3 objectInit, Cond.fieldLink RX3 9 "JoinedSketches$State" "salt" "I", Cond.classLink RX3 15 RX2, Cond.fieldLink RX3 17 "JoinedSketches$State" "sketches" "[LJoinedSketches$Sketch;", Cond.instanceMethod yX2_init, Cond.code yX2_init cX2_init 1 none, Cond.methodLink RX2 3 objectInit, Cond.fieldLink RX2 9 "JoinedSketches$Sketch" "bits" "I", Cond.arrayClass .int, Cond.fieldLink RX2 15 "JoinedSketches$Sketch" "ranks" "[I", Cond.fieldLink RX2 19 "JoinedSketches$Sketch" "things" "[I", Cond.fieldLink RX2 22 "JoinedSketches$Sketch" "listLength" "I", Cond.fieldLink RX2 25 "JoinedSketches$Sketch" "full" "Z", Cond.methodLink RX4 18 yX0_init, Cond.instanceMethod yX0_init, Cond.code yX0_init cX0_init 2 none, Cond.methodLink RX0 3 objectInit, Cond.classLink RX0 9 RX3, Cond.fieldLink RX0 11 "JoinedSketches$History" "ring" "[LJoinedSketches$State;", Cond.fieldLink RX0 17 "JoinedSketches$History" "oldest" "I", Cond.fieldLink RX0 21 "JoinedSketches$History" "size" "I", Cond.methodLink RX0 24 yX3_init, Cond.instanceMethod yX1_init]
def wsX4_init_r3 : List Cond := [Cond.code yX1_init cX1_init 1 none, Cond.methodLink RX1 3 objectInit, Cond.arrayClass .char, Cond.fieldLink RX1 9 "JoinedSketches$Pad" "signs" "[C", Cond.fieldLink RX1 15 "JoinedSketches$Pad" "length" "I", Cond.fieldLink RX1 19 "JoinedSketches$Pad" "at" "I", Cond.fieldLink RX1 22 "JoinedSketches$Pad" "sketch" "I", Cond.fieldLink RX1 25 "JoinedSketches$Pad" "verb" "I", Cond.fieldLink RX1 28 "JoinedSketches$Pad" "numbers" "[I", Cond.fieldLink RX1 32 "JoinedSketches$Pad" "many" "I"]
def wsX4_init : List Cond := .code yX4_init cX4_init 2 none :: ((wsX4_init_r1 ++ (wsX4_init_r2 ++ wsX4_init_r3)) ++ wsX30 ++ wsX40 ++ wsX00 ++ wsX10 ++ wsX20)
def wsX4_salt_r1 : List Cond := [Cond.constant RX4 45 (65536), Cond.fieldLink RX4 19 "JoinedSketches" "history" "LJoinedSketches$History;", Cond.fieldLink RX4 10 "JoinedSketches" "now" "LJoinedSketches$State;", Cond.methodLink RX4 46 yX0_record, Cond.instanceMethod yX0_record, Cond.selects RX0 yX0_record yX0_record, Cond.initialized RX0, Cond.code yX0_record cX0_record 2 none, Cond.fieldLink RX0 21 "JoinedSketches$History" "size" "I", Cond.fieldLink RX0 17 "JoinedSketches$History" "oldest" "I", Cond.fieldLink RX0 11 "JoinedSketches$History" "ring" "[LJoinedSketches$State;", Cond.methodLink RX0 25 yJ9_floorMod_7cf53, Cond.static yJ9_floorMod_7cf53, Cond.initialized RJ9, Cond.code yJ9_floorMod_7cf53 cJ9_floorMod_7cf53 3 (some .int), Cond.methodLink RX0 31 yX3_copyFrom, Cond.instanceMethod yX3_copyFrom, Cond.selects RX3 yX3_copyFrom yX3_copyFrom, Cond.initialized RX3, Cond.code yX3_copyFrom cX3_copyFrom 3 none, Cond.fieldLink RX3 9 "JoinedSketches$State" "salt" "I", Cond.fieldLink RX3 17 "JoinedSketches$State" "sketches" "[LJoinedSketches$Sketch;", Cond.methodLink RX3 29 yX2_copyFrom, Cond.instanceMethod yX2_copyFrom]
def wsX4_salt_r2 : List Cond := [Cond.selects RX2 yX2_copyFrom yX2_copyFrom, Cond.initialized RX2, Cond.code yX2_copyFrom cX2_copyFrom 2 none, Cond.fieldLink RX2 9 "JoinedSketches$Sketch" "bits" "I", Cond.fieldLink RX2 15 "JoinedSketches$Sketch" "ranks" "[I", Cond.methodLink RX2 84 arraycopyName, Cond.native arraycopyName, Cond.static arraycopyName, Cond.initialized "java/lang/System", Cond.fieldLink RX2 19 "JoinedSketches$Sketch" "things" "[I", Cond.fieldLink RX2 22 "JoinedSketches$Sketch" "listLength" "I", Cond.fieldLink RX2 25 "JoinedSketches$Sketch" "full" "Z", Cond.methodLink RX4 54 yX3_changeSalt, Cond.instanceMethod yX3_changeSalt, Cond.selects RX3 yX3_changeSalt yX3_changeSalt, Cond.code yX3_changeSalt cX3_changeSalt 6 none, Cond.methodLink RX3 25 yX2_startAgain, Cond.instanceMethod yX2_startAgain, Cond.selects RX2 yX2_startAgain yX2_startAgain, Cond.code yX2_startAgain cX2_startAgain 2 none, Cond.methodLink RX2 78 yJ7_fill_53178, Cond.static yJ7_fill_53178, Cond.initialized RJ7, Cond.code yJ7_fill_53178 cJ7_fill_53178 4 none]
def wsX4_salt : List Cond := .code yX4_salt cX4_salt 3 (some .int) :: ((wsX4_salt_r1 ++ wsX4_salt_r2) ++ wsX40 ++ wsX30 ++ wsX00 ++ wsX20)
def wsX4_bits_r1 : List Cond := [Cond.fieldLink RX4 10 "JoinedSketches" "now" "LJoinedSketches$State;", Cond.fieldLink RX4 19 "JoinedSketches" "history" "LJoinedSketches$History;", Cond.methodLink RX4 58 yX3_sketchAt, Cond.instanceMethod yX3_sketchAt, Cond.selects RX3 yX3_sketchAt yX3_sketchAt, Cond.initialized RX3, Cond.code yX3_sketchAt cX3_sketchAt 2 (some (.object "JoinedSketches$Sketch")), Cond.fieldLink RX3 17 "JoinedSketches$State" "sketches" "[LJoinedSketches$Sketch;", Cond.methodLink RX4 46 yX0_record, Cond.instanceMethod yX0_record, Cond.selects RX0 yX0_record yX0_record, Cond.initialized RX0, Cond.code yX0_record cX0_record 2 none, Cond.fieldLink RX0 21 "JoinedSketches$History" "size" "I", Cond.fieldLink RX0 17 "JoinedSketches$History" "oldest" "I", Cond.fieldLink RX0 11 "JoinedSketches$History" "ring" "[LJoinedSketches$State;", Cond.methodLink RX0 25 yJ9_floorMod_7cf53, Cond.static yJ9_floorMod_7cf53, Cond.initialized RJ9, Cond.code yJ9_floorMod_7cf53 cJ9_floorMod_7cf53 3 (some .int), Cond.methodLink RX0 31 yX3_copyFrom, Cond.instanceMethod yX3_copyFrom, Cond.selects RX3 yX3_copyFrom yX3_copyFrom, Cond.code yX3_copyFrom cX3_copyFrom 3 none]
def wsX4_bits_r2 : List Cond := [Cond.fieldLink RX3 9 "JoinedSketches$State" "salt" "I", Cond.methodLink RX3 29 yX2_copyFrom, Cond.instanceMethod yX2_copyFrom, Cond.selects RX2 yX2_copyFrom yX2_copyFrom, Cond.initialized RX2, Cond.code yX2_copyFrom cX2_copyFrom 2 none, Cond.fieldLink RX2 9 "JoinedSketches$Sketch" "bits" "I", Cond.fieldLink RX2 15 "JoinedSketches$Sketch" "ranks" "[I", Cond.methodLink RX2 84 arraycopyName, Cond.native arraycopyName, Cond.static arraycopyName, Cond.initialized "java/lang/System", Cond.fieldLink RX2 19 "JoinedSketches$Sketch" "things" "[I", Cond.fieldLink RX2 22 "JoinedSketches$Sketch" "listLength" "I", Cond.fieldLink RX2 25 "JoinedSketches$Sketch" "full" "Z", Cond.methodLink RX4 65 yX2_startAgain, Cond.instanceMethod yX2_startAgain, Cond.selects RX2 yX2_startAgain yX2_startAgain, Cond.code yX2_startAgain cX2_startAgain 2 none, Cond.methodLink RX2 78 yJ7_fill_53178, Cond.static yJ7_fill_53178, Cond.initialized RJ7, Cond.code yJ7_fill_53178 cJ7_fill_53178 4 none]
def wsX4_bits : List Cond := .code yX4_bits cX4_bits 5 (some .int) :: ((wsX4_bits_r1 ++ wsX4_bits_r2) ++ wsX40 ++ wsX20 ++ wsX30 ++ wsX00)
def wsX4_isThing : List Cond := .code yX4_isThing cX4_isThing 1 (some .boolean) :: ([.constant RX4 184 (100000)])
def wsX4_hashOf : List Cond := .code yX4_hashOf cX4_hashOf 3 (some .int) :: ([.constant RX4 224 (40503), .constant RX4 225 (65535)])
def wsX4_takeThings_r1 : List Cond := [Cond.fieldLink RX4 10 "JoinedSketches" "now" "LJoinedSketches$State;", Cond.methodLink RX4 105 yX4_hashOf, Cond.static yX4_hashOf, Cond.initialized RX4, Cond.code yX4_hashOf cX4_hashOf 3 (some .int), Cond.constant RX4 224 (40503), Cond.constant RX4 225 (65535), Cond.methodLink RX4 226 yX2_takeHash, Cond.instanceMethod yX2_takeHash, Cond.selects RX2 yX2_takeHash yX2_takeHash, Cond.initialized RX2, Cond.code yX2_takeHash cX2_takeHash 2 (some .boolean), Cond.methodLink RX2 46 yX2_bucketOf, Cond.instanceMethod yX2_bucketOf, Cond.selects RX2 yX2_bucketOf yX2_bucketOf, Cond.code yX2_bucketOf cX2_bucketOf 2 (some .int), Cond.methodLink RX2 33 yX2_buckets, Cond.instanceMethod yX2_buckets, Cond.selects RX2 yX2_buckets yX2_buckets, Cond.code yX2_buckets cX2_buckets 1 (some .int), Cond.fieldLink RX2 9 "JoinedSketches$Sketch" "bits" "I", Cond.methodLink RX2 43 yX2_rankOf, Cond.instanceMethod yX2_rankOf, Cond.selects RX2 yX2_rankOf yX2_rankOf]
def wsX4_takeThings_r2 : List Cond := [Cond.code yX2_rankOf cX2_rankOf 4 (some .int), Cond.methodLink RX2 37 yJ6_bitCount_0f7a4, Cond.static yJ6_bitCount_0f7a4, Cond.initialized RJ6, Cond.code yJ6_bitCount_0f7a4 cJ6_bitCount_0f7a4 1 (some .int), Cond.constant RJ6 265 (1431655765), Cond.constant RJ6 266 (858993459), Cond.constant RJ6 267 (252645135), Cond.methodLink RX2 52 yX2_raise, Cond.instanceMethod yX2_raise, Cond.selects RX2 yX2_raise yX2_raise, Cond.code yX2_raise cX2_raise 3 (some .boolean), Cond.fieldLink RX2 15 "JoinedSketches$Sketch" "ranks" "[I", Cond.methodLink RX2 29 yX2_hasBucket, Cond.instanceMethod yX2_hasBucket, Cond.selects RX2 yX2_hasBucket yX2_hasBucket, Cond.code yX2_hasBucket cX2_hasBucket 2 (some .boolean), Cond.methodLink RX4 229 yX2_list, Cond.instanceMethod yX2_list, Cond.selects RX2 yX2_list yX2_list, Cond.code yX2_list cX2_list 2 none, Cond.fieldLink RX2 25 "JoinedSketches$Sketch" "full" "Z", Cond.fieldLink RX2 22 "JoinedSketches$Sketch" "listLength" "I", Cond.fieldLink RX2 19 "JoinedSketches$Sketch" "things" "[I"]
def wsX4_takeThings_r3 : List Cond := [Cond.methodLink RX2 56 yX2_isListed, Cond.instanceMethod yX2_isListed, Cond.selects RX2 yX2_isListed yX2_isListed, Cond.code yX2_isListed cX2_isListed 3 (some .boolean), Cond.methodLink RX2 59 yX2_fillList, Cond.instanceMethod yX2_fillList, Cond.selects RX2 yX2_fillList yX2_fillList, Cond.code yX2_fillList cX2_fillList 1 none]
def wsX4_takeThings : List Cond := .code yX4_takeThings cX4_takeThings 6 (some .int) :: ((wsX4_takeThings_r1 ++ (wsX4_takeThings_r2 ++ wsX4_takeThings_r3)) ++ wsX40 ++ wsX30 ++ wsX20)
def wsX4_add_r1 : List Cond := [Cond.fieldLink RX4 10 "JoinedSketches" "now" "LJoinedSketches$State;", Cond.fieldLink RX4 19 "JoinedSketches" "history" "LJoinedSketches$History;", Cond.methodLink RX4 58 yX3_sketchAt, Cond.instanceMethod yX3_sketchAt, Cond.selects RX3 yX3_sketchAt yX3_sketchAt, Cond.initialized RX3, Cond.code yX3_sketchAt cX3_sketchAt 2 (some (.object "JoinedSketches$Sketch")), Cond.fieldLink RX3 17 "JoinedSketches$State" "sketches" "[LJoinedSketches$Sketch;", Cond.methodLink RX4 68 yX4_isThing, Cond.static yX4_isThing, Cond.initialized RX4, Cond.code yX4_isThing cX4_isThing 1 (some .boolean), Cond.constant RX4 184 (100000), Cond.methodLink RX4 46 yX0_record, Cond.instanceMethod yX0_record, Cond.selects RX0 yX0_record yX0_record, Cond.initialized RX0, Cond.code yX0_record cX0_record 2 none, Cond.fieldLink RX0 21 "JoinedSketches$History" "size" "I", Cond.fieldLink RX0 17 "JoinedSketches$History" "oldest" "I", Cond.fieldLink RX0 11 "JoinedSketches$History" "ring" "[LJoinedSketches$State;", Cond.methodLink RX0 25 yJ9_floorMod_7cf53, Cond.static yJ9_floorMod_7cf53, Cond.initialized RJ9]
def wsX4_add_r2 : List Cond := [Cond.code yJ9_floorMod_7cf53 cJ9_floorMod_7cf53 3 (some .int), Cond.methodLink RX0 31 yX3_copyFrom, Cond.instanceMethod yX3_copyFrom, Cond.selects RX3 yX3_copyFrom yX3_copyFrom, Cond.code yX3_copyFrom cX3_copyFrom 3 none, Cond.fieldLink RX3 9 "JoinedSketches$State" "salt" "I", Cond.methodLink RX3 29 yX2_copyFrom, Cond.instanceMethod yX2_copyFrom, Cond.selects RX2 yX2_copyFrom yX2_copyFrom, Cond.initialized RX2, Cond.code yX2_copyFrom cX2_copyFrom 2 none, Cond.fieldLink RX2 9 "JoinedSketches$Sketch" "bits" "I", Cond.fieldLink RX2 15 "JoinedSketches$Sketch" "ranks" "[I", Cond.methodLink RX2 84 arraycopyName, Cond.native arraycopyName, Cond.static arraycopyName, Cond.initialized "java/lang/System", Cond.fieldLink RX2 19 "JoinedSketches$Sketch" "things" "[I", Cond.fieldLink RX2 22 "JoinedSketches$Sketch" "listLength" "I", Cond.fieldLink RX2 25 "JoinedSketches$Sketch" "full" "Z", Cond.methodLink RX4 72 yX4_takeThings, Cond.instanceMethod yX4_takeThings, Cond.selects RX4 yX4_takeThings yX4_takeThings, Cond.code yX4_takeThings cX4_takeThings 6 (some .int)]
def wsX4_add_r3 : List Cond := [Cond.methodLink RX4 105 yX4_hashOf, Cond.static yX4_hashOf, Cond.code yX4_hashOf cX4_hashOf 3 (some .int), Cond.constant RX4 224 (40503), Cond.constant RX4 225 (65535), Cond.methodLink RX4 226 yX2_takeHash, Cond.instanceMethod yX2_takeHash, Cond.selects RX2 yX2_takeHash yX2_takeHash, Cond.code yX2_takeHash cX2_takeHash 2 (some .boolean), Cond.methodLink RX2 46 yX2_bucketOf, Cond.instanceMethod yX2_bucketOf, Cond.selects RX2 yX2_bucketOf yX2_bucketOf, Cond.code yX2_bucketOf cX2_bucketOf 2 (some .int), Cond.methodLink RX2 33 yX2_buckets, Cond.instanceMethod yX2_buckets, Cond.selects RX2 yX2_buckets yX2_buckets, Cond.code yX2_buckets cX2_buckets 1 (some .int), Cond.methodLink RX2 43 yX2_rankOf, Cond.instanceMethod yX2_rankOf, Cond.selects RX2 yX2_rankOf yX2_rankOf, Cond.code yX2_rankOf cX2_rankOf 4 (some .int), Cond.methodLink RX2 37 yJ6_bitCount_0f7a4, Cond.static yJ6_bitCount_0f7a4, Cond.initialized RJ6]
def wsX4_add_r4 : List Cond := [Cond.code yJ6_bitCount_0f7a4 cJ6_bitCount_0f7a4 1 (some .int), Cond.constant RJ6 265 (1431655765), Cond.constant RJ6 266 (858993459), Cond.constant RJ6 267 (252645135), Cond.methodLink RX2 52 yX2_raise, Cond.instanceMethod yX2_raise, Cond.selects RX2 yX2_raise yX2_raise, Cond.code yX2_raise cX2_raise 3 (some .boolean), Cond.methodLink RX2 29 yX2_hasBucket, Cond.instanceMethod yX2_hasBucket, Cond.selects RX2 yX2_hasBucket yX2_hasBucket, Cond.code yX2_hasBucket cX2_hasBucket 2 (some .boolean), Cond.methodLink RX4 229 yX2_list, Cond.instanceMethod yX2_list, Cond.selects RX2 yX2_list yX2_list, Cond.code yX2_list cX2_list 2 none, Cond.methodLink RX2 56 yX2_isListed, Cond.instanceMethod yX2_isListed, Cond.selects RX2 yX2_isListed yX2_isListed, Cond.code yX2_isListed cX2_isListed 3 (some .boolean), Cond.methodLink RX2 59 yX2_fillList, Cond.instanceMethod yX2_fillList, Cond.selects RX2 yX2_fillList yX2_fillList, Cond.code yX2_fillList cX2_fillList 1 none]
def wsX4_add : List Cond := .code yX4_add cX4_add 4 (some .int) :: ((wsX4_add_r1 ++ (wsX4_add_r2 ++ (wsX4_add_r3 ++ wsX4_add_r4))) ++ wsX40 ++ wsX30 ++ wsX00 ++ wsX20)
def wsX4_isRange : List Cond := .code yX4_isRange cX4_isRange 2 (some .boolean) :: ([.constant RX4 184 (100000), .methodLink RX4 68 yX4_isThing, .static yX4_isThing, .initialized RX4, .code yX4_isThing cX4_isThing 1 (some .boolean)])
def wsX4_addRange_r1 : List Cond := [Cond.fieldLink RX4 10 "JoinedSketches" "now" "LJoinedSketches$State;", Cond.fieldLink RX4 19 "JoinedSketches" "history" "LJoinedSketches$History;", Cond.methodLink RX4 58 yX3_sketchAt, Cond.instanceMethod yX3_sketchAt, Cond.selects RX3 yX3_sketchAt yX3_sketchAt, Cond.initialized RX3, Cond.code yX3_sketchAt cX3_sketchAt 2 (some (.object "JoinedSketches$Sketch")), Cond.fieldLink RX3 17 "JoinedSketches$State" "sketches" "[LJoinedSketches$Sketch;", Cond.methodLink RX4 76 yX4_isRange, Cond.static yX4_isRange, Cond.initialized RX4, Cond.code yX4_isRange cX4_isRange 2 (some .boolean), Cond.constant RX4 184 (100000), Cond.methodLink RX4 68 yX4_isThing, Cond.static yX4_isThing, Cond.code yX4_isThing cX4_isThing 1 (some .boolean), Cond.methodLink RX4 46 yX0_record, Cond.instanceMethod yX0_record, Cond.selects RX0 yX0_record yX0_record, Cond.initialized RX0, Cond.code yX0_record cX0_record 2 none, Cond.fieldLink RX0 21 "JoinedSketches$History" "size" "I", Cond.fieldLink RX0 17 "JoinedSketches$History" "oldest" "I", Cond.fieldLink RX0 11 "JoinedSketches$History" "ring" "[LJoinedSketches$State;"]
def wsX4_addRange_r2 : List Cond := [Cond.methodLink RX0 25 yJ9_floorMod_7cf53, Cond.static yJ9_floorMod_7cf53, Cond.initialized RJ9, Cond.code yJ9_floorMod_7cf53 cJ9_floorMod_7cf53 3 (some .int), Cond.methodLink RX0 31 yX3_copyFrom, Cond.instanceMethod yX3_copyFrom, Cond.selects RX3 yX3_copyFrom yX3_copyFrom, Cond.code yX3_copyFrom cX3_copyFrom 3 none, Cond.fieldLink RX3 9 "JoinedSketches$State" "salt" "I", Cond.methodLink RX3 29 yX2_copyFrom, Cond.instanceMethod yX2_copyFrom, Cond.selects RX2 yX2_copyFrom yX2_copyFrom, Cond.initialized RX2, Cond.code yX2_copyFrom cX2_copyFrom 2 none, Cond.fieldLink RX2 9 "JoinedSketches$Sketch" "bits" "I", Cond.fieldLink RX2 15 "JoinedSketches$Sketch" "ranks" "[I", Cond.methodLink RX2 84 arraycopyName, Cond.native arraycopyName, Cond.static arraycopyName, Cond.initialized "java/lang/System", Cond.fieldLink RX2 19 "JoinedSketches$Sketch" "things" "[I", Cond.fieldLink RX2 22 "JoinedSketches$Sketch" "listLength" "I", Cond.fieldLink RX2 25 "JoinedSketches$Sketch" "full" "Z", Cond.methodLink RX4 72 yX4_takeThings]
def wsX4_addRange_r3 : List Cond := [Cond.instanceMethod yX4_takeThings, Cond.selects RX4 yX4_takeThings yX4_takeThings, Cond.code yX4_takeThings cX4_takeThings 6 (some .int), Cond.methodLink RX4 105 yX4_hashOf, Cond.static yX4_hashOf, Cond.code yX4_hashOf cX4_hashOf 3 (some .int), Cond.constant RX4 224 (40503), Cond.constant RX4 225 (65535), Cond.methodLink RX4 226 yX2_takeHash, Cond.instanceMethod yX2_takeHash, Cond.selects RX2 yX2_takeHash yX2_takeHash, Cond.code yX2_takeHash cX2_takeHash 2 (some .boolean), Cond.methodLink RX2 46 yX2_bucketOf, Cond.instanceMethod yX2_bucketOf, Cond.selects RX2 yX2_bucketOf yX2_bucketOf, Cond.code yX2_bucketOf cX2_bucketOf 2 (some .int), Cond.methodLink RX2 33 yX2_buckets, Cond.instanceMethod yX2_buckets, Cond.selects RX2 yX2_buckets yX2_buckets, Cond.code yX2_buckets cX2_buckets 1 (some .int), Cond.methodLink RX2 43 yX2_rankOf, Cond.instanceMethod yX2_rankOf, Cond.selects RX2 yX2_rankOf yX2_rankOf, Cond.code yX2_rankOf cX2_rankOf 4 (some .int)]
def wsX4_addRange_r4 : List Cond := [Cond.methodLink RX2 37 yJ6_bitCount_0f7a4, Cond.static yJ6_bitCount_0f7a4, Cond.initialized RJ6, Cond.code yJ6_bitCount_0f7a4 cJ6_bitCount_0f7a4 1 (some .int), Cond.constant RJ6 265 (1431655765), Cond.constant RJ6 266 (858993459), Cond.constant RJ6 267 (252645135), Cond.methodLink RX2 52 yX2_raise, Cond.instanceMethod yX2_raise, Cond.selects RX2 yX2_raise yX2_raise, Cond.code yX2_raise cX2_raise 3 (some .boolean), Cond.methodLink RX2 29 yX2_hasBucket, Cond.instanceMethod yX2_hasBucket, Cond.selects RX2 yX2_hasBucket yX2_hasBucket, Cond.code yX2_hasBucket cX2_hasBucket 2 (some .boolean), Cond.methodLink RX4 229 yX2_list, Cond.instanceMethod yX2_list, Cond.selects RX2 yX2_list yX2_list, Cond.code yX2_list cX2_list 2 none, Cond.methodLink RX2 56 yX2_isListed, Cond.instanceMethod yX2_isListed, Cond.selects RX2 yX2_isListed yX2_isListed, Cond.code yX2_isListed cX2_isListed 3 (some .boolean), Cond.methodLink RX2 59 yX2_fillList]
def wsX4_addRange_r5 : List Cond := [Cond.instanceMethod yX2_fillList, Cond.selects RX2 yX2_fillList yX2_fillList, Cond.code yX2_fillList cX2_fillList 1 none]
def wsX4_addRange : List Cond := .code yX4_addRange cX4_addRange 5 (some .int) :: ((wsX4_addRange_r1 ++ (wsX4_addRange_r2 ++ (wsX4_addRange_r3 ++ (wsX4_addRange_r4 ++ wsX4_addRange_r5)))) ++ wsX40 ++ wsX30 ++ wsX00 ++ wsX20)
def wsX4_areToJoin : List Cond := .code yX4_areToJoin cX4_areToJoin 2 (some .boolean) :: ([] ++ wsX20)
def wsX4_join_r1 : List Cond := [Cond.fieldLink RX4 10 "JoinedSketches" "now" "LJoinedSketches$State;", Cond.fieldLink RX4 19 "JoinedSketches" "history" "LJoinedSketches$History;", Cond.methodLink RX4 58 yX3_sketchAt, Cond.instanceMethod yX3_sketchAt, Cond.selects RX3 yX3_sketchAt yX3_sketchAt, Cond.initialized RX3, Cond.code yX3_sketchAt cX3_sketchAt 2 (some (.object "JoinedSketches$Sketch")), Cond.fieldLink RX3 17 "JoinedSketches$State" "sketches" "[LJoinedSketches$Sketch;", Cond.methodLink RX4 80 yX4_areToJoin, Cond.static yX4_areToJoin, Cond.initialized RX4, Cond.code yX4_areToJoin cX4_areToJoin 2 (some .boolean), Cond.methodLink RX4 46 yX0_record, Cond.instanceMethod yX0_record, Cond.selects RX0 yX0_record yX0_record, Cond.initialized RX0, Cond.code yX0_record cX0_record 2 none, Cond.fieldLink RX0 21 "JoinedSketches$History" "size" "I", Cond.fieldLink RX0 17 "JoinedSketches$History" "oldest" "I", Cond.fieldLink RX0 11 "JoinedSketches$History" "ring" "[LJoinedSketches$State;", Cond.methodLink RX0 25 yJ9_floorMod_7cf53, Cond.static yJ9_floorMod_7cf53, Cond.initialized RJ9, Cond.code yJ9_floorMod_7cf53 cJ9_floorMod_7cf53 3 (some .int)]
def wsX4_join_r2 : List Cond := [Cond.methodLink RX0 31 yX3_copyFrom, Cond.instanceMethod yX3_copyFrom, Cond.selects RX3 yX3_copyFrom yX3_copyFrom, Cond.code yX3_copyFrom cX3_copyFrom 3 none, Cond.fieldLink RX3 9 "JoinedSketches$State" "salt" "I", Cond.methodLink RX3 29 yX2_copyFrom, Cond.instanceMethod yX2_copyFrom, Cond.selects RX2 yX2_copyFrom yX2_copyFrom, Cond.initialized RX2, Cond.code yX2_copyFrom cX2_copyFrom 2 none, Cond.fieldLink RX2 9 "JoinedSketches$Sketch" "bits" "I", Cond.fieldLink RX2 15 "JoinedSketches$Sketch" "ranks" "[I", Cond.methodLink RX2 84 arraycopyName, Cond.native arraycopyName, Cond.static arraycopyName, Cond.initialized "java/lang/System", Cond.fieldLink RX2 19 "JoinedSketches$Sketch" "things" "[I", Cond.fieldLink RX2 22 "JoinedSketches$Sketch" "listLength" "I", Cond.fieldLink RX2 25 "JoinedSketches$Sketch" "full" "Z", Cond.methodLink RX4 84 yX2_takeAll, Cond.instanceMethod yX2_takeAll, Cond.selects RX2 yX2_takeAll yX2_takeAll, Cond.code yX2_takeAll cX2_takeAll 3 none, Cond.methodLink RX2 33 yX2_buckets]
def wsX4_join_r3 : List Cond := [Cond.instanceMethod yX2_buckets, Cond.selects RX2 yX2_buckets yX2_buckets, Cond.code yX2_buckets cX2_buckets 1 (some .int), Cond.methodLink RX2 49 yX2_rankIn, Cond.instanceMethod yX2_rankIn, Cond.selects RX2 yX2_rankIn yX2_rankIn, Cond.code yX2_rankIn cX2_rankIn 2 (some .int), Cond.methodLink RX2 29 yX2_hasBucket, Cond.instanceMethod yX2_hasBucket, Cond.selects RX2 yX2_hasBucket yX2_hasBucket, Cond.code yX2_hasBucket cX2_hasBucket 2 (some .boolean), Cond.methodLink RX2 52 yX2_raise, Cond.instanceMethod yX2_raise, Cond.selects RX2 yX2_raise yX2_raise, Cond.code yX2_raise cX2_raise 3 (some .boolean), Cond.methodLink RX2 59 yX2_fillList, Cond.instanceMethod yX2_fillList, Cond.selects RX2 yX2_fillList yX2_fillList, Cond.code yX2_fillList cX2_fillList 1 none, Cond.methodLink RX2 65 yX2_thingAt, Cond.instanceMethod yX2_thingAt, Cond.selects RX2 yX2_thingAt yX2_thingAt, Cond.code yX2_thingAt cX2_thingAt 2 (some .int), Cond.methodLink RX2 62 yX2_hasPlace]
def wsX4_join_r4 : List Cond := [Cond.instanceMethod yX2_hasPlace, Cond.selects RX2 yX2_hasPlace yX2_hasPlace, Cond.code yX2_hasPlace cX2_hasPlace 2 (some .boolean), Cond.methodLink RX2 68 yX2_list, Cond.instanceMethod yX2_list, Cond.selects RX2 yX2_list yX2_list, Cond.code yX2_list cX2_list 2 none, Cond.methodLink RX2 56 yX2_isListed, Cond.instanceMethod yX2_isListed, Cond.selects RX2 yX2_isListed yX2_isListed, Cond.code yX2_isListed cX2_isListed 3 (some .boolean), Cond.methodLink RX4 88 yX2_estimate, Cond.instanceMethod yX2_estimate, Cond.selects RX2 yX2_estimate yX2_estimate, Cond.code yX2_estimate cX2_estimate 3 (some .int), Cond.methodLink RX2 103 yX2_rawEstimate, Cond.instanceMethod yX2_rawEstimate, Cond.selects RX2 yX2_rawEstimate yX2_rawEstimate, Cond.code yX2_rawEstimate cX2_rawEstimate 5 (some .int), Cond.constantLong RX2 94 (10), Cond.constantLong RX2 99 (65536), Cond.constantLong RX2 101 (7), Cond.methodLink RX2 96 yX2_rankSum, Cond.instanceMethod yX2_rankSum]
def wsX4_join_r5 : List Cond := [Cond.selects RX2 yX2_rankSum yX2_rankSum, Cond.code yX2_rankSum cX2_rankSum 3 (some .int), Cond.constant RX2 93 (65536), Cond.methodLink RX2 106 yX2_emptyBuckets, Cond.instanceMethod yX2_emptyBuckets, Cond.selects RX2 yX2_emptyBuckets yX2_emptyBuckets, Cond.code yX2_emptyBuckets cX2_emptyBuckets 1 (some .int), Cond.methodLink RX2 90 yX2_filledBuckets, Cond.instanceMethod yX2_filledBuckets, Cond.selects RX2 yX2_filledBuckets yX2_filledBuckets, Cond.code yX2_filledBuckets cX2_filledBuckets 3 (some .int), Cond.methodLink RX2 109 yX2_estimateByEmpty, Cond.instanceMethod yX2_estimateByEmpty, Cond.selects RX2 yX2_estimateByEmpty yX2_estimateByEmpty, Cond.code yX2_estimateByEmpty cX2_estimateByEmpty 4 (some .int), Cond.methodLink RX2 72 Lib.Math.max.name, Cond.static Lib.Math.max.name, Cond.initialized "java/lang/Math", Cond.code Lib.Math.max.name Lib.Math.max.code 2 (some .int)]
def wsX4_join : List Cond := .code yX4_join cX4_join 5 (some .int) :: ((wsX4_join_r1 ++ (wsX4_join_r2 ++ (wsX4_join_r3 ++ (wsX4_join_r4 ++ wsX4_join_r5)))) ++ wsX40 ++ wsX30 ++ wsX20 ++ wsX00)
def wsX4_isToFold : List Cond := .code yX4_isToFold cX4_isToFold 1 (some .boolean) :: ([] ++ wsX20)
def wsX4_fold_r1 : List Cond := [Cond.fieldLink RX4 10 "JoinedSketches" "now" "LJoinedSketches$State;", Cond.fieldLink RX4 19 "JoinedSketches" "history" "LJoinedSketches$History;", Cond.methodLink RX4 58 yX3_sketchAt, Cond.instanceMethod yX3_sketchAt, Cond.selects RX3 yX3_sketchAt yX3_sketchAt, Cond.initialized RX3, Cond.code yX3_sketchAt cX3_sketchAt 2 (some (.object "JoinedSketches$Sketch")), Cond.fieldLink RX3 17 "JoinedSketches$State" "sketches" "[LJoinedSketches$Sketch;", Cond.methodLink RX4 92 yX4_isToFold, Cond.static yX4_isToFold, Cond.initialized RX4, Cond.code yX4_isToFold cX4_isToFold 1 (some .boolean), Cond.methodLink RX4 46 yX0_record, Cond.instanceMethod yX0_record, Cond.selects RX0 yX0_record yX0_record, Cond.initialized RX0, Cond.code yX0_record cX0_record 2 none, Cond.fieldLink RX0 21 "JoinedSketches$History" "size" "I", Cond.fieldLink RX0 17 "JoinedSketches$History" "oldest" "I", Cond.fieldLink RX0 11 "JoinedSketches$History" "ring" "[LJoinedSketches$State;", Cond.methodLink RX0 25 yJ9_floorMod_7cf53, Cond.static yJ9_floorMod_7cf53, Cond.initialized RJ9, Cond.code yJ9_floorMod_7cf53 cJ9_floorMod_7cf53 3 (some .int)]
def wsX4_fold_r2 : List Cond := [Cond.methodLink RX0 31 yX3_copyFrom, Cond.instanceMethod yX3_copyFrom, Cond.selects RX3 yX3_copyFrom yX3_copyFrom, Cond.code yX3_copyFrom cX3_copyFrom 3 none, Cond.fieldLink RX3 9 "JoinedSketches$State" "salt" "I", Cond.methodLink RX3 29 yX2_copyFrom, Cond.instanceMethod yX2_copyFrom, Cond.selects RX2 yX2_copyFrom yX2_copyFrom, Cond.initialized RX2, Cond.code yX2_copyFrom cX2_copyFrom 2 none, Cond.fieldLink RX2 9 "JoinedSketches$Sketch" "bits" "I", Cond.fieldLink RX2 15 "JoinedSketches$Sketch" "ranks" "[I", Cond.methodLink RX2 84 arraycopyName, Cond.native arraycopyName, Cond.static arraycopyName, Cond.initialized "java/lang/System", Cond.fieldLink RX2 19 "JoinedSketches$Sketch" "things" "[I", Cond.fieldLink RX2 22 "JoinedSketches$Sketch" "listLength" "I", Cond.fieldLink RX2 25 "JoinedSketches$Sketch" "full" "Z", Cond.methodLink RX4 96 yX2_halve, Cond.instanceMethod yX2_halve, Cond.selects RX2 yX2_halve yX2_halve, Cond.code yX2_halve cX2_halve 5 none, Cond.methodLink RX2 72 Lib.Math.max.name]
def wsX4_fold_r3 : List Cond := [Cond.static Lib.Math.max.name, Cond.initialized "java/lang/Math", Cond.code Lib.Math.max.name Lib.Math.max.code 2 (some .int), Cond.methodLink RX2 33 yX2_buckets, Cond.instanceMethod yX2_buckets, Cond.selects RX2 yX2_buckets yX2_buckets, Cond.code yX2_buckets cX2_buckets 1 (some .int), Cond.methodLink RX2 49 yX2_rankIn, Cond.instanceMethod yX2_rankIn, Cond.selects RX2 yX2_rankIn yX2_rankIn, Cond.code yX2_rankIn cX2_rankIn 2 (some .int), Cond.methodLink RX2 29 yX2_hasBucket, Cond.instanceMethod yX2_hasBucket, Cond.selects RX2 yX2_hasBucket yX2_hasBucket, Cond.code yX2_hasBucket cX2_hasBucket 2 (some .boolean), Cond.methodLink RX4 99 yX2_buckets]
def wsX4_fold : List Cond := .code yX4_fold cX4_fold 3 (some .int) :: ((wsX4_fold_r1 ++ (wsX4_fold_r2 ++ wsX4_fold_r3)) ++ wsX40 ++ wsX30 ++ wsX20 ++ wsX00)
def wsX4_empty_r1 : List Cond := [Cond.fieldLink RX4 10 "JoinedSketches" "now" "LJoinedSketches$State;", Cond.fieldLink RX4 19 "JoinedSketches" "history" "LJoinedSketches$History;", Cond.methodLink RX4 58 yX3_sketchAt, Cond.instanceMethod yX3_sketchAt, Cond.selects RX3 yX3_sketchAt yX3_sketchAt, Cond.initialized RX3, Cond.code yX3_sketchAt cX3_sketchAt 2 (some (.object "JoinedSketches$Sketch")), Cond.fieldLink RX3 17 "JoinedSketches$State" "sketches" "[LJoinedSketches$Sketch;", Cond.methodLink RX4 46 yX0_record, Cond.instanceMethod yX0_record, Cond.selects RX0 yX0_record yX0_record, Cond.initialized RX0, Cond.code yX0_record cX0_record 2 none, Cond.fieldLink RX0 21 "JoinedSketches$History" "size" "I", Cond.fieldLink RX0 17 "JoinedSketches$History" "oldest" "I", Cond.fieldLink RX0 11 "JoinedSketches$History" "ring" "[LJoinedSketches$State;", Cond.methodLink RX0 25 yJ9_floorMod_7cf53, Cond.static yJ9_floorMod_7cf53, Cond.initialized RJ9, Cond.code yJ9_floorMod_7cf53 cJ9_floorMod_7cf53 3 (some .int), Cond.methodLink RX0 31 yX3_copyFrom, Cond.instanceMethod yX3_copyFrom, Cond.selects RX3 yX3_copyFrom yX3_copyFrom, Cond.code yX3_copyFrom cX3_copyFrom 3 none]
def wsX4_empty_r2 : List Cond := [Cond.fieldLink RX3 9 "JoinedSketches$State" "salt" "I", Cond.methodLink RX3 29 yX2_copyFrom, Cond.instanceMethod yX2_copyFrom, Cond.selects RX2 yX2_copyFrom yX2_copyFrom, Cond.initialized RX2, Cond.code yX2_copyFrom cX2_copyFrom 2 none, Cond.fieldLink RX2 9 "JoinedSketches$Sketch" "bits" "I", Cond.fieldLink RX2 15 "JoinedSketches$Sketch" "ranks" "[I", Cond.methodLink RX2 84 arraycopyName, Cond.native arraycopyName, Cond.static arraycopyName, Cond.initialized "java/lang/System", Cond.fieldLink RX2 19 "JoinedSketches$Sketch" "things" "[I", Cond.fieldLink RX2 22 "JoinedSketches$Sketch" "listLength" "I", Cond.fieldLink RX2 25 "JoinedSketches$Sketch" "full" "Z", Cond.methodLink RX4 102 yX2_filledBuckets, Cond.instanceMethod yX2_filledBuckets, Cond.selects RX2 yX2_filledBuckets yX2_filledBuckets, Cond.code yX2_filledBuckets cX2_filledBuckets 3 (some .int), Cond.methodLink RX2 33 yX2_buckets, Cond.instanceMethod yX2_buckets, Cond.selects RX2 yX2_buckets yX2_buckets, Cond.code yX2_buckets cX2_buckets 1 (some .int), Cond.methodLink RX2 49 yX2_rankIn]
def wsX4_empty_r3 : List Cond := [Cond.instanceMethod yX2_rankIn, Cond.selects RX2 yX2_rankIn yX2_rankIn, Cond.code yX2_rankIn cX2_rankIn 2 (some .int), Cond.methodLink RX2 29 yX2_hasBucket, Cond.instanceMethod yX2_hasBucket, Cond.selects RX2 yX2_hasBucket yX2_hasBucket, Cond.code yX2_hasBucket cX2_hasBucket 2 (some .boolean), Cond.methodLink RX4 65 yX2_startAgain, Cond.instanceMethod yX2_startAgain, Cond.selects RX2 yX2_startAgain yX2_startAgain, Cond.code yX2_startAgain cX2_startAgain 2 none, Cond.methodLink RX2 78 yJ7_fill_53178, Cond.static yJ7_fill_53178, Cond.initialized RJ7, Cond.code yJ7_fill_53178 cJ7_fill_53178 4 none]
def wsX4_empty : List Cond := .code yX4_empty cX4_empty 4 (some .int) :: ((wsX4_empty_r1 ++ (wsX4_empty_r2 ++ wsX4_empty_r3)) ++ wsX40 ++ wsX20 ++ wsX30 ++ wsX00)
def wsX4_thing_r1 : List Cond := [Cond.fieldLink RX4 10 "JoinedSketches" "now" "LJoinedSketches$State;", Cond.methodLink RX4 58 yX3_sketchAt, Cond.instanceMethod yX3_sketchAt, Cond.selects RX3 yX3_sketchAt yX3_sketchAt, Cond.initialized RX3, Cond.code yX3_sketchAt cX3_sketchAt 2 (some (.object "JoinedSketches$Sketch")), Cond.fieldLink RX3 17 "JoinedSketches$State" "sketches" "[LJoinedSketches$Sketch;", Cond.methodLink RX4 68 yX4_isThing, Cond.static yX4_isThing, Cond.initialized RX4, Cond.code yX4_isThing cX4_isThing 1 (some .boolean), Cond.constant RX4 184 (100000), Cond.methodLink RX4 105 yX4_hashOf, Cond.static yX4_hashOf, Cond.code yX4_hashOf cX4_hashOf 3 (some .int), Cond.constant RX4 224 (40503), Cond.constant RX4 225 (65535), Cond.methodLink RX4 109 yX2_bucketOf, Cond.instanceMethod yX2_bucketOf, Cond.selects RX2 yX2_bucketOf yX2_bucketOf, Cond.initialized RX2, Cond.code yX2_bucketOf cX2_bucketOf 2 (some .int), Cond.methodLink RX2 33 yX2_buckets, Cond.instanceMethod yX2_buckets]
def wsX4_thing_r2 : List Cond := [Cond.selects RX2 yX2_buckets yX2_buckets, Cond.code yX2_buckets cX2_buckets 1 (some .int), Cond.fieldLink RX2 9 "JoinedSketches$Sketch" "bits" "I", Cond.methodLink RX4 113 yX2_rankOf, Cond.instanceMethod yX2_rankOf, Cond.selects RX2 yX2_rankOf yX2_rankOf, Cond.code yX2_rankOf cX2_rankOf 4 (some .int), Cond.methodLink RX2 37 yJ6_bitCount_0f7a4, Cond.static yJ6_bitCount_0f7a4, Cond.initialized RJ6, Cond.code yJ6_bitCount_0f7a4 cJ6_bitCount_0f7a4 1 (some .int), Cond.constant RJ6 265 (1431655765), Cond.constant RJ6 266 (858993459), Cond.constant RJ6 267 (252645135), Cond.methodLink RX4 116 yX2_wouldChangeBy, Cond.instanceMethod yX2_wouldChangeBy, Cond.selects RX2 yX2_wouldChangeBy yX2_wouldChangeBy, Cond.code yX2_wouldChangeBy cX2_wouldChangeBy 2 (some .boolean), Cond.methodLink RX2 43 yX2_rankOf, Cond.methodLink RX2 46 yX2_bucketOf, Cond.methodLink RX2 49 yX2_rankIn, Cond.instanceMethod yX2_rankIn, Cond.selects RX2 yX2_rankIn yX2_rankIn, Cond.code yX2_rankIn cX2_rankIn 2 (some .int)]
def wsX4_thing_r3 : List Cond := [Cond.fieldLink RX2 15 "JoinedSketches$Sketch" "ranks" "[I", Cond.methodLink RX2 29 yX2_hasBucket, Cond.instanceMethod yX2_hasBucket, Cond.selects RX2 yX2_hasBucket yX2_hasBucket, Cond.code yX2_hasBucket cX2_hasBucket 2 (some .boolean)]
def wsX4_thing : List Cond := .code yX4_thing cX4_thing 6 (some .int) :: ((wsX4_thing_r1 ++ (wsX4_thing_r2 ++ wsX4_thing_r3)) ++ wsX40 ++ wsX30 ++ wsX20)
def wsX4_bucket : List Cond := .code yX4_bucket cX4_bucket 4 (some .int) :: ([.fieldLink RX4 10 "JoinedSketches" "now" "LJoinedSketches$State;", .methodLink RX4 58 yX3_sketchAt, .instanceMethod yX3_sketchAt, .selects RX3 yX3_sketchAt yX3_sketchAt, .initialized RX3, .code yX3_sketchAt cX3_sketchAt 2 (some (.object "JoinedSketches$Sketch")), .fieldLink RX3 17 "JoinedSketches$State" "sketches" "[LJoinedSketches$Sketch;", .methodLink RX4 119 yX2_hasBucket, .instanceMethod yX2_hasBucket, .selects RX2 yX2_hasBucket yX2_hasBucket, .initialized RX2, .code yX2_hasBucket cX2_hasBucket 2 (some .boolean), .fieldLink RX2 9 "JoinedSketches$Sketch" "bits" "I", .fieldLink RX2 15 "JoinedSketches$Sketch" "ranks" "[I", .methodLink RX4 122 yX2_rankIn, .instanceMethod yX2_rankIn, .selects RX2 yX2_rankIn yX2_rankIn, .code yX2_rankIn cX2_rankIn 2 (some .int), .methodLink RX2 29 yX2_hasBucket] ++ wsX40 ++ wsX30 ++ wsX20)
def wsX4_ofSketch_r1 : List Cond := [Cond.fieldLink RX4 10 "JoinedSketches" "now" "LJoinedSketches$State;", Cond.methodLink RX4 58 yX3_sketchAt, Cond.instanceMethod yX3_sketchAt, Cond.selects RX3 yX3_sketchAt yX3_sketchAt, Cond.initialized RX3, Cond.code yX3_sketchAt cX3_sketchAt 2 (some (.object "JoinedSketches$Sketch")), Cond.fieldLink RX3 17 "JoinedSketches$State" "sketches" "[LJoinedSketches$Sketch;", Cond.methodLink RX4 99 yX2_buckets, Cond.instanceMethod yX2_buckets, Cond.selects RX2 yX2_buckets yX2_buckets, Cond.initialized RX2, Cond.code yX2_buckets cX2_buckets 1 (some .int), Cond.fieldLink RX2 9 "JoinedSketches$Sketch" "bits" "I", Cond.methodLink RX4 125 yX2_emptyBuckets, Cond.instanceMethod yX2_emptyBuckets, Cond.selects RX2 yX2_emptyBuckets yX2_emptyBuckets, Cond.code yX2_emptyBuckets cX2_emptyBuckets 1 (some .int), Cond.methodLink RX2 33 yX2_buckets, Cond.methodLink RX2 90 yX2_filledBuckets, Cond.instanceMethod yX2_filledBuckets, Cond.selects RX2 yX2_filledBuckets yX2_filledBuckets, Cond.code yX2_filledBuckets cX2_filledBuckets 3 (some .int), Cond.methodLink RX2 49 yX2_rankIn, Cond.instanceMethod yX2_rankIn]
def wsX4_ofSketch_r2 : List Cond := [Cond.selects RX2 yX2_rankIn yX2_rankIn, Cond.code yX2_rankIn cX2_rankIn 2 (some .int), Cond.fieldLink RX2 15 "JoinedSketches$Sketch" "ranks" "[I", Cond.methodLink RX2 29 yX2_hasBucket, Cond.instanceMethod yX2_hasBucket, Cond.selects RX2 yX2_hasBucket yX2_hasBucket, Cond.code yX2_hasBucket cX2_hasBucket 2 (some .boolean), Cond.methodLink RX4 128 yX2_greatestRank, Cond.instanceMethod yX2_greatestRank, Cond.selects RX2 yX2_greatestRank yX2_greatestRank, Cond.code yX2_greatestRank cX2_greatestRank 3 (some .int), Cond.methodLink RX2 72 Lib.Math.max.name, Cond.static Lib.Math.max.name, Cond.initialized "java/lang/Math", Cond.code Lib.Math.max.name Lib.Math.max.code 2 (some .int), Cond.methodLink RX4 131 yX2_rankSum, Cond.instanceMethod yX2_rankSum, Cond.selects RX2 yX2_rankSum yX2_rankSum, Cond.code yX2_rankSum cX2_rankSum 3 (some .int), Cond.constant RX2 93 (65536), Cond.methodLink RX4 134 yX2_rawEstimate, Cond.instanceMethod yX2_rawEstimate, Cond.selects RX2 yX2_rawEstimate yX2_rawEstimate, Cond.code yX2_rawEstimate cX2_rawEstimate 5 (some .int)]
def wsX4_ofSketch_r3 : List Cond := [Cond.constantLong RX2 94 (10), Cond.constantLong RX2 99 (65536), Cond.constantLong RX2 101 (7), Cond.methodLink RX2 96 yX2_rankSum, Cond.methodLink RX4 88 yX2_estimate, Cond.instanceMethod yX2_estimate, Cond.selects RX2 yX2_estimate yX2_estimate, Cond.code yX2_estimate cX2_estimate 3 (some .int), Cond.methodLink RX2 103 yX2_rawEstimate, Cond.methodLink RX2 106 yX2_emptyBuckets, Cond.methodLink RX2 109 yX2_estimateByEmpty, Cond.instanceMethod yX2_estimateByEmpty, Cond.selects RX2 yX2_estimateByEmpty yX2_estimateByEmpty, Cond.code yX2_estimateByEmpty cX2_estimateByEmpty 4 (some .int), Cond.methodLink RX4 137 yX2_toldError, Cond.instanceMethod yX2_toldError, Cond.selects RX2 yX2_toldError yX2_toldError, Cond.code yX2_toldError cX2_toldError 3 (some .int), Cond.constantLong RX2 112 (100), Cond.constantLong RX2 120 (104), Cond.methodLink RX2 114 yX2_rootOfBuckets, Cond.instanceMethod yX2_rootOfBuckets, Cond.selects RX2 yX2_rootOfBuckets yX2_rootOfBuckets, Cond.code yX2_rootOfBuckets cX2_rootOfBuckets 3 (some .int)]
def wsX4_ofSketch_r4 : List Cond := [Cond.methodLink RX2 117 yX2_estimate]
def wsX4_ofSketch : List Cond := .code yX4_ofSketch cX4_ofSketch 4 (some .int) :: ((wsX4_ofSketch_r1 ++ (wsX4_ofSketch_r2 ++ (wsX4_ofSketch_r3 ++ wsX4_ofSketch_r4))) ++ wsX40 ++ wsX20 ++ wsX30)
def wsX4_withRank_r1 : List Cond := [Cond.fieldLink RX4 10 "JoinedSketches" "now" "LJoinedSketches$State;", Cond.constantLong RX4 147 (-1), Cond.constantLong RX4 149 (-2), Cond.methodLink RX4 58 yX3_sketchAt, Cond.instanceMethod yX3_sketchAt, Cond.selects RX3 yX3_sketchAt yX3_sketchAt, Cond.initialized RX3, Cond.code yX3_sketchAt cX3_sketchAt 2 (some (.object "JoinedSketches$Sketch")), Cond.fieldLink RX3 17 "JoinedSketches$State" "sketches" "[LJoinedSketches$Sketch;", Cond.methodLink RX4 151 yX2_bucketsWithRank, Cond.instanceMethod yX2_bucketsWithRank, Cond.selects RX2 yX2_bucketsWithRank yX2_bucketsWithRank, Cond.initialized RX2, Cond.code yX2_bucketsWithRank cX2_bucketsWithRank 5 (some .long), Cond.methodLink RX2 33 yX2_buckets, Cond.instanceMethod yX2_buckets, Cond.selects RX2 yX2_buckets yX2_buckets, Cond.code yX2_buckets cX2_buckets 1 (some .int), Cond.fieldLink RX2 9 "JoinedSketches$Sketch" "bits" "I", Cond.methodLink RX2 49 yX2_rankIn, Cond.instanceMethod yX2_rankIn, Cond.selects RX2 yX2_rankIn yX2_rankIn, Cond.code yX2_rankIn cX2_rankIn 2 (some .int), Cond.fieldLink RX2 15 "JoinedSketches$Sketch" "ranks" "[I"]
def wsX4_withRank_r2 : List Cond := [Cond.methodLink RX2 29 yX2_hasBucket, Cond.instanceMethod yX2_hasBucket, Cond.selects RX2 yX2_hasBucket yX2_hasBucket, Cond.code yX2_hasBucket cX2_hasBucket 2 (some .boolean)]
def wsX4_withRank : List Cond := .code yX4_withRank cX4_withRank 4 (some .long) :: ((wsX4_withRank_r1 ++ wsX4_withRank_r2) ++ wsX40 ++ wsX30 ++ wsX20)
def wsX4_listed : List Cond := .code yX4_listed cX4_listed 4 (some .int) :: ([.fieldLink RX4 10 "JoinedSketches" "now" "LJoinedSketches$State;", .methodLink RX4 58 yX3_sketchAt, .instanceMethod yX3_sketchAt, .selects RX3 yX3_sketchAt yX3_sketchAt, .initialized RX3, .code yX3_sketchAt cX3_sketchAt 2 (some (.object "JoinedSketches$Sketch")), .fieldLink RX3 17 "JoinedSketches$State" "sketches" "[LJoinedSketches$Sketch;", .methodLink RX4 155 yX2_hasPlace, .instanceMethod yX2_hasPlace, .selects RX2 yX2_hasPlace yX2_hasPlace, .initialized RX2, .code yX2_hasPlace cX2_hasPlace 2 (some .boolean), .fieldLink RX2 22 "JoinedSketches$Sketch" "listLength" "I", .fieldLink RX2 19 "JoinedSketches$Sketch" "things" "[I", .methodLink RX4 158 yX2_thingAt, .instanceMethod yX2_thingAt, .selects RX2 yX2_thingAt yX2_thingAt, .code yX2_thingAt cX2_thingAt 2 (some .int), .methodLink RX2 62 yX2_hasPlace] ++ wsX40 ++ wsX30 ++ wsX20)
def wsX4_count_r1 : List Cond := [Cond.fieldLink RX4 10 "JoinedSketches" "now" "LJoinedSketches$State;", Cond.fieldLink RX4 34 "JoinedSketches" "pad" "LJoinedSketches$Pad;", Cond.fieldLink RX4 19 "JoinedSketches" "history" "LJoinedSketches$History;", Cond.methodLink RX4 161 yX3_filledSketches, Cond.instanceMethod yX3_filledSketches, Cond.selects RX3 yX3_filledSketches yX3_filledSketches, Cond.initialized RX3, Cond.code yX3_filledSketches cX3_filledSketches 6 (some .int), Cond.fieldLink RX3 17 "JoinedSketches$State" "sketches" "[LJoinedSketches$Sketch;", Cond.methodLink RX3 33 yX2_filledBuckets, Cond.instanceMethod yX2_filledBuckets, Cond.selects RX2 yX2_filledBuckets yX2_filledBuckets, Cond.initialized RX2, Cond.code yX2_filledBuckets cX2_filledBuckets 3 (some .int), Cond.methodLink RX2 33 yX2_buckets, Cond.instanceMethod yX2_buckets, Cond.selects RX2 yX2_buckets yX2_buckets, Cond.code yX2_buckets cX2_buckets 1 (some .int), Cond.fieldLink RX2 9 "JoinedSketches$Sketch" "bits" "I", Cond.methodLink RX2 49 yX2_rankIn, Cond.instanceMethod yX2_rankIn, Cond.selects RX2 yX2_rankIn yX2_rankIn, Cond.code yX2_rankIn cX2_rankIn 2 (some .int), Cond.fieldLink RX2 15 "JoinedSketches$Sketch" "ranks" "[I"]
def wsX4_count_r2 : List Cond := [Cond.methodLink RX2 29 yX2_hasBucket, Cond.instanceMethod yX2_hasBucket, Cond.selects RX2 yX2_hasBucket yX2_hasBucket, Cond.code yX2_hasBucket cX2_hasBucket 2 (some .boolean), Cond.methodLink RX4 164 yX3_filledBuckets, Cond.instanceMethod yX3_filledBuckets, Cond.selects RX3 yX3_filledBuckets yX3_filledBuckets, Cond.code yX3_filledBuckets cX3_filledBuckets 6 (some .int), Cond.methodLink RX4 165 yX3_fullLists, Cond.instanceMethod yX3_fullLists, Cond.selects RX3 yX3_fullLists yX3_fullLists, Cond.code yX3_fullLists cX3_fullLists 6 (some .int)]
def wsX4_count : List Cond := .code yX4_count cX4_count 2 (some .int) :: ((wsX4_count_r1 ++ wsX4_count_r2) ++ wsX40 ++ wsX30 ++ wsX10 ++ wsX00 ++ wsX20)
def wsX4_together_r1 : List Cond := [Cond.fieldLink RX4 10 "JoinedSketches" "now" "LJoinedSketches$State;", Cond.fieldLink RX4 41 "JoinedSketches" "trial" "LJoinedSketches$Sketch;", Cond.methodLink RX4 58 yX3_sketchAt, Cond.instanceMethod yX3_sketchAt, Cond.selects RX3 yX3_sketchAt yX3_sketchAt, Cond.initialized RX3, Cond.code yX3_sketchAt cX3_sketchAt 2 (some (.object "JoinedSketches$Sketch")), Cond.fieldLink RX3 17 "JoinedSketches$State" "sketches" "[LJoinedSketches$Sketch;", Cond.methodLink RX4 174 yX2_copyFrom, Cond.instanceMethod yX2_copyFrom, Cond.selects RX2 yX2_copyFrom yX2_copyFrom, Cond.initialized RX2, Cond.code yX2_copyFrom cX2_copyFrom 2 none, Cond.fieldLink RX2 9 "JoinedSketches$Sketch" "bits" "I", Cond.fieldLink RX2 15 "JoinedSketches$Sketch" "ranks" "[I", Cond.methodLink RX2 84 arraycopyName, Cond.native arraycopyName, Cond.static arraycopyName, Cond.initialized "java/lang/System", Cond.fieldLink RX2 19 "JoinedSketches$Sketch" "things" "[I", Cond.fieldLink RX2 22 "JoinedSketches$Sketch" "listLength" "I", Cond.fieldLink RX2 25 "JoinedSketches$Sketch" "full" "Z", Cond.methodLink RX4 84 yX2_takeAll, Cond.instanceMethod yX2_takeAll]
def wsX4_together_r2 : List Cond := [Cond.selects RX2 yX2_takeAll yX2_takeAll, Cond.code yX2_takeAll cX2_takeAll 3 none, Cond.methodLink RX2 33 yX2_buckets, Cond.instanceMethod yX2_buckets, Cond.selects RX2 yX2_buckets yX2_buckets, Cond.code yX2_buckets cX2_buckets 1 (some .int), Cond.methodLink RX2 49 yX2_rankIn, Cond.instanceMethod yX2_rankIn, Cond.selects RX2 yX2_rankIn yX2_rankIn, Cond.code yX2_rankIn cX2_rankIn 2 (some .int), Cond.methodLink RX2 29 yX2_hasBucket, Cond.instanceMethod yX2_hasBucket, Cond.selects RX2 yX2_hasBucket yX2_hasBucket, Cond.code yX2_hasBucket cX2_hasBucket 2 (some .boolean), Cond.methodLink RX2 52 yX2_raise, Cond.instanceMethod yX2_raise, Cond.selects RX2 yX2_raise yX2_raise, Cond.code yX2_raise cX2_raise 3 (some .boolean), Cond.methodLink RX2 59 yX2_fillList, Cond.instanceMethod yX2_fillList, Cond.selects RX2 yX2_fillList yX2_fillList, Cond.code yX2_fillList cX2_fillList 1 none, Cond.methodLink RX2 65 yX2_thingAt, Cond.instanceMethod yX2_thingAt]
def wsX4_together_r3 : List Cond := [Cond.selects RX2 yX2_thingAt yX2_thingAt, Cond.code yX2_thingAt cX2_thingAt 2 (some .int), Cond.methodLink RX2 62 yX2_hasPlace, Cond.instanceMethod yX2_hasPlace, Cond.selects RX2 yX2_hasPlace yX2_hasPlace, Cond.code yX2_hasPlace cX2_hasPlace 2 (some .boolean), Cond.methodLink RX2 68 yX2_list, Cond.instanceMethod yX2_list, Cond.selects RX2 yX2_list yX2_list, Cond.code yX2_list cX2_list 2 none, Cond.methodLink RX2 56 yX2_isListed, Cond.instanceMethod yX2_isListed, Cond.selects RX2 yX2_isListed yX2_isListed, Cond.code yX2_isListed cX2_isListed 3 (some .boolean), Cond.methodLink RX4 88 yX2_estimate, Cond.instanceMethod yX2_estimate, Cond.selects RX2 yX2_estimate yX2_estimate, Cond.code yX2_estimate cX2_estimate 3 (some .int), Cond.methodLink RX2 103 yX2_rawEstimate, Cond.instanceMethod yX2_rawEstimate, Cond.selects RX2 yX2_rawEstimate yX2_rawEstimate, Cond.code yX2_rawEstimate cX2_rawEstimate 5 (some .int), Cond.constantLong RX2 94 (10), Cond.constantLong RX2 99 (65536)]
def wsX4_together_r4 : List Cond := [Cond.constantLong RX2 101 (7), Cond.methodLink RX2 96 yX2_rankSum, Cond.instanceMethod yX2_rankSum, Cond.selects RX2 yX2_rankSum yX2_rankSum, Cond.code yX2_rankSum cX2_rankSum 3 (some .int), Cond.constant RX2 93 (65536), Cond.methodLink RX2 106 yX2_emptyBuckets, Cond.instanceMethod yX2_emptyBuckets, Cond.selects RX2 yX2_emptyBuckets yX2_emptyBuckets, Cond.code yX2_emptyBuckets cX2_emptyBuckets 1 (some .int), Cond.methodLink RX2 90 yX2_filledBuckets, Cond.instanceMethod yX2_filledBuckets, Cond.selects RX2 yX2_filledBuckets yX2_filledBuckets, Cond.code yX2_filledBuckets cX2_filledBuckets 3 (some .int), Cond.methodLink RX2 109 yX2_estimateByEmpty, Cond.instanceMethod yX2_estimateByEmpty, Cond.selects RX2 yX2_estimateByEmpty yX2_estimateByEmpty, Cond.code yX2_estimateByEmpty cX2_estimateByEmpty 4 (some .int), Cond.methodLink RX2 72 Lib.Math.max.name, Cond.static Lib.Math.max.name, Cond.initialized "java/lang/Math", Cond.code Lib.Math.max.name Lib.Math.max.code 2 (some .int)]
def wsX4_together : List Cond := .code yX4_together cX4_together 5 (some .int) :: ((wsX4_together_r1 ++ (wsX4_together_r2 ++ (wsX4_together_r3 ++ wsX4_together_r4))) ++ wsX40 ++ wsX20 ++ wsX30)
def wsX4_bitsOfShare : List Cond := .code yX4_bitsOfShare cX4_bitsOfShare 5 (some .int) :: ([.constant RX4 237 (8388607)])
def wsX4_alike_r1 : List Cond := [Cond.fieldLink RX4 10 "JoinedSketches" "now" "LJoinedSketches$State;", Cond.methodLink RX4 58 yX3_sketchAt, Cond.instanceMethod yX3_sketchAt, Cond.selects RX3 yX3_sketchAt yX3_sketchAt, Cond.initialized RX3, Cond.code yX3_sketchAt cX3_sketchAt 2 (some (.object "JoinedSketches$Sketch")), Cond.fieldLink RX3 17 "JoinedSketches$State" "sketches" "[LJoinedSketches$Sketch;", Cond.methodLink RX4 177 yX2_sameBuckets, Cond.instanceMethod yX2_sameBuckets, Cond.selects RX2 yX2_sameBuckets yX2_sameBuckets, Cond.initialized RX2, Cond.code yX2_sameBuckets cX2_sameBuckets 4 (some .int), Cond.methodLink RX2 33 yX2_buckets, Cond.instanceMethod yX2_buckets, Cond.selects RX2 yX2_buckets yX2_buckets, Cond.code yX2_buckets cX2_buckets 1 (some .int), Cond.fieldLink RX2 9 "JoinedSketches$Sketch" "bits" "I", Cond.methodLink RX2 49 yX2_rankIn, Cond.instanceMethod yX2_rankIn, Cond.selects RX2 yX2_rankIn yX2_rankIn, Cond.code yX2_rankIn cX2_rankIn 2 (some .int), Cond.fieldLink RX2 15 "JoinedSketches$Sketch" "ranks" "[I", Cond.methodLink RX2 29 yX2_hasBucket, Cond.instanceMethod yX2_hasBucket]
def wsX4_alike_r2 : List Cond := [Cond.selects RX2 yX2_hasBucket yX2_hasBucket, Cond.code yX2_hasBucket cX2_hasBucket 2 (some .boolean), Cond.methodLink RX4 181 yX4_bitsOfShare, Cond.static yX4_bitsOfShare, Cond.initialized RX4, Cond.code yX4_bitsOfShare cX4_bitsOfShare 5 (some .int), Cond.constant RX4 237 (8388607)]
def wsX4_alike : List Cond := .code yX4_alike cX4_alike 5 (some .int) :: ((wsX4_alike_r1 ++ wsX4_alike_r2) ++ wsX40 ++ wsX20 ++ wsX30)
def wsX4_off_r1 : List Cond := [Cond.fieldLink RX4 10 "JoinedSketches" "now" "LJoinedSketches$State;", Cond.constant RX4 184 (100000), Cond.methodLink RX4 58 yX3_sketchAt, Cond.instanceMethod yX3_sketchAt, Cond.selects RX3 yX3_sketchAt yX3_sketchAt, Cond.initialized RX3, Cond.code yX3_sketchAt cX3_sketchAt 2 (some (.object "JoinedSketches$Sketch")), Cond.fieldLink RX3 17 "JoinedSketches$State" "sketches" "[LJoinedSketches$Sketch;", Cond.methodLink RX4 88 yX2_estimate, Cond.instanceMethod yX2_estimate, Cond.selects RX2 yX2_estimate yX2_estimate, Cond.initialized RX2, Cond.code yX2_estimate cX2_estimate 3 (some .int), Cond.methodLink RX2 103 yX2_rawEstimate, Cond.instanceMethod yX2_rawEstimate, Cond.selects RX2 yX2_rawEstimate yX2_rawEstimate, Cond.code yX2_rawEstimate cX2_rawEstimate 5 (some .int), Cond.constantLong RX2 94 (10), Cond.constantLong RX2 99 (65536), Cond.constantLong RX2 101 (7), Cond.methodLink RX2 96 yX2_rankSum, Cond.instanceMethod yX2_rankSum, Cond.selects RX2 yX2_rankSum yX2_rankSum, Cond.code yX2_rankSum cX2_rankSum 3 (some .int)]
def wsX4_off_r2 : List Cond := [Cond.constant RX2 93 (65536), Cond.methodLink RX2 33 yX2_buckets, Cond.instanceMethod yX2_buckets, Cond.selects RX2 yX2_buckets yX2_buckets, Cond.code yX2_buckets cX2_buckets 1 (some .int), Cond.fieldLink RX2 9 "JoinedSketches$Sketch" "bits" "I", Cond.methodLink RX2 49 yX2_rankIn, Cond.instanceMethod yX2_rankIn, Cond.selects RX2 yX2_rankIn yX2_rankIn, Cond.code yX2_rankIn cX2_rankIn 2 (some .int), Cond.fieldLink RX2 15 "JoinedSketches$Sketch" "ranks" "[I", Cond.methodLink RX2 29 yX2_hasBucket, Cond.instanceMethod yX2_hasBucket, Cond.selects RX2 yX2_hasBucket yX2_hasBucket, Cond.code yX2_hasBucket cX2_hasBucket 2 (some .boolean), Cond.methodLink RX2 106 yX2_emptyBuckets, Cond.instanceMethod yX2_emptyBuckets, Cond.selects RX2 yX2_emptyBuckets yX2_emptyBuckets, Cond.code yX2_emptyBuckets cX2_emptyBuckets 1 (some .int), Cond.methodLink RX2 90 yX2_filledBuckets, Cond.instanceMethod yX2_filledBuckets, Cond.selects RX2 yX2_filledBuckets yX2_filledBuckets, Cond.code yX2_filledBuckets cX2_filledBuckets 3 (some .int), Cond.methodLink RX2 109 yX2_estimateByEmpty]
def wsX4_off_r3 : List Cond := [Cond.instanceMethod yX2_estimateByEmpty, Cond.selects RX2 yX2_estimateByEmpty yX2_estimateByEmpty, Cond.code yX2_estimateByEmpty cX2_estimateByEmpty 4 (some .int), Cond.methodLink RX2 72 Lib.Math.max.name, Cond.static Lib.Math.max.name, Cond.initialized "java/lang/Math", Cond.code Lib.Math.max.name Lib.Math.max.code 2 (some .int)]
def wsX4_off : List Cond := .code yX4_off cX4_off 3 (some .int) :: ((wsX4_off_r1 ++ (wsX4_off_r2 ++ wsX4_off_r3)) ++ wsX40 ++ wsX20 ++ wsX30)
def wsX4_nextNew_r1 : List Cond := [Cond.fieldLink RX4 10 "JoinedSketches" "now" "LJoinedSketches$State;", Cond.constant RX4 184 (100000), Cond.methodLink RX4 58 yX3_sketchAt, Cond.instanceMethod yX3_sketchAt, Cond.selects RX3 yX3_sketchAt yX3_sketchAt, Cond.initialized RX3, Cond.code yX3_sketchAt cX3_sketchAt 2 (some (.object "JoinedSketches$Sketch")), Cond.fieldLink RX3 17 "JoinedSketches$State" "sketches" "[LJoinedSketches$Sketch;", Cond.methodLink RX4 68 yX4_isThing, Cond.static yX4_isThing, Cond.initialized RX4, Cond.code yX4_isThing cX4_isThing 1 (some .boolean), Cond.methodLink RX4 105 yX4_hashOf, Cond.static yX4_hashOf, Cond.code yX4_hashOf cX4_hashOf 3 (some .int), Cond.constant RX4 224 (40503), Cond.constant RX4 225 (65535), Cond.methodLink RX4 116 yX2_wouldChangeBy, Cond.instanceMethod yX2_wouldChangeBy, Cond.selects RX2 yX2_wouldChangeBy yX2_wouldChangeBy, Cond.initialized RX2, Cond.code yX2_wouldChangeBy cX2_wouldChangeBy 2 (some .boolean), Cond.methodLink RX2 43 yX2_rankOf, Cond.instanceMethod yX2_rankOf]
def wsX4_nextNew_r2 : List Cond := [Cond.selects RX2 yX2_rankOf yX2_rankOf, Cond.code yX2_rankOf cX2_rankOf 4 (some .int), Cond.fieldLink RX2 9 "JoinedSketches$Sketch" "bits" "I", Cond.methodLink RX2 37 yJ6_bitCount_0f7a4, Cond.static yJ6_bitCount_0f7a4, Cond.initialized RJ6, Cond.code yJ6_bitCount_0f7a4 cJ6_bitCount_0f7a4 1 (some .int), Cond.constant RJ6 265 (1431655765), Cond.constant RJ6 266 (858993459), Cond.constant RJ6 267 (252645135), Cond.methodLink RX2 46 yX2_bucketOf, Cond.instanceMethod yX2_bucketOf, Cond.selects RX2 yX2_bucketOf yX2_bucketOf, Cond.code yX2_bucketOf cX2_bucketOf 2 (some .int), Cond.methodLink RX2 33 yX2_buckets, Cond.instanceMethod yX2_buckets, Cond.selects RX2 yX2_buckets yX2_buckets, Cond.code yX2_buckets cX2_buckets 1 (some .int), Cond.methodLink RX2 49 yX2_rankIn, Cond.instanceMethod yX2_rankIn, Cond.selects RX2 yX2_rankIn yX2_rankIn, Cond.code yX2_rankIn cX2_rankIn 2 (some .int), Cond.fieldLink RX2 15 "JoinedSketches$Sketch" "ranks" "[I", Cond.methodLink RX2 29 yX2_hasBucket]
def wsX4_nextNew_r3 : List Cond := [Cond.instanceMethod yX2_hasBucket, Cond.selects RX2 yX2_hasBucket yX2_hasBucket, Cond.code yX2_hasBucket cX2_hasBucket 2 (some .boolean)]
def wsX4_nextNew : List Cond := .code yX4_nextNew cX4_nextNew 5 (some .int) :: ((wsX4_nextNew_r1 ++ (wsX4_nextNew_r2 ++ wsX4_nextNew_r3)) ++ wsX40 ++ wsX30 ++ wsX20)
def wsX4_distanceBySalt_r1 : List Cond := [Cond.fieldLink RX4 41 "JoinedSketches" "trial" "LJoinedSketches$Sketch;", Cond.methodLink RX4 232 Lib.Math.abs.name, Cond.static Lib.Math.abs.name, Cond.initialized "java/lang/Math", Cond.code Lib.Math.abs.name Lib.Math.abs.code 1 (some .int), Cond.methodLink RX4 65 yX2_startAgain, Cond.instanceMethod yX2_startAgain, Cond.selects RX2 yX2_startAgain yX2_startAgain, Cond.initialized RX2, Cond.code yX2_startAgain cX2_startAgain 2 none, Cond.fieldLink RX2 9 "JoinedSketches$Sketch" "bits" "I", Cond.fieldLink RX2 15 "JoinedSketches$Sketch" "ranks" "[I", Cond.fieldLink RX2 22 "JoinedSketches$Sketch" "listLength" "I", Cond.fieldLink RX2 25 "JoinedSketches$Sketch" "full" "Z", Cond.methodLink RX2 78 yJ7_fill_53178, Cond.static yJ7_fill_53178, Cond.initialized RJ7, Cond.code yJ7_fill_53178 cJ7_fill_53178 4 none, Cond.methodLink RX4 158 yX2_thingAt, Cond.instanceMethod yX2_thingAt, Cond.selects RX2 yX2_thingAt yX2_thingAt, Cond.code yX2_thingAt cX2_thingAt 2 (some .int), Cond.fieldLink RX2 19 "JoinedSketches$Sketch" "things" "[I", Cond.methodLink RX2 62 yX2_hasPlace]
def wsX4_distanceBySalt_r2 : List Cond := [Cond.instanceMethod yX2_hasPlace, Cond.selects RX2 yX2_hasPlace yX2_hasPlace, Cond.code yX2_hasPlace cX2_hasPlace 2 (some .boolean), Cond.methodLink RX4 105 yX4_hashOf, Cond.static yX4_hashOf, Cond.initialized RX4, Cond.code yX4_hashOf cX4_hashOf 3 (some .int), Cond.constant RX4 224 (40503), Cond.constant RX4 225 (65535), Cond.methodLink RX4 226 yX2_takeHash, Cond.instanceMethod yX2_takeHash, Cond.selects RX2 yX2_takeHash yX2_takeHash, Cond.code yX2_takeHash cX2_takeHash 2 (some .boolean), Cond.methodLink RX2 46 yX2_bucketOf, Cond.instanceMethod yX2_bucketOf, Cond.selects RX2 yX2_bucketOf yX2_bucketOf, Cond.code yX2_bucketOf cX2_bucketOf 2 (some .int), Cond.methodLink RX2 33 yX2_buckets, Cond.instanceMethod yX2_buckets, Cond.selects RX2 yX2_buckets yX2_buckets, Cond.code yX2_buckets cX2_buckets 1 (some .int), Cond.methodLink RX2 43 yX2_rankOf, Cond.instanceMethod yX2_rankOf, Cond.selects RX2 yX2_rankOf yX2_rankOf]
def wsX4_distanceBySalt_r3 : List Cond := [Cond.code yX2_rankOf cX2_rankOf 4 (some .int), Cond.methodLink RX2 37 yJ6_bitCount_0f7a4, Cond.static yJ6_bitCount_0f7a4, Cond.initialized RJ6, Cond.code yJ6_bitCount_0f7a4 cJ6_bitCount_0f7a4 1 (some .int), Cond.constant RJ6 265 (1431655765), Cond.constant RJ6 266 (858993459), Cond.constant RJ6 267 (252645135), Cond.methodLink RX2 52 yX2_raise, Cond.instanceMethod yX2_raise, Cond.selects RX2 yX2_raise yX2_raise, Cond.code yX2_raise cX2_raise 3 (some .boolean), Cond.methodLink RX2 29 yX2_hasBucket, Cond.instanceMethod yX2_hasBucket, Cond.selects RX2 yX2_hasBucket yX2_hasBucket, Cond.code yX2_hasBucket cX2_hasBucket 2 (some .boolean), Cond.methodLink RX4 88 yX2_estimate, Cond.instanceMethod yX2_estimate, Cond.selects RX2 yX2_estimate yX2_estimate, Cond.code yX2_estimate cX2_estimate 3 (some .int), Cond.methodLink RX2 103 yX2_rawEstimate, Cond.instanceMethod yX2_rawEstimate, Cond.selects RX2 yX2_rawEstimate yX2_rawEstimate, Cond.code yX2_rawEstimate cX2_rawEstimate 5 (some .int)]
def wsX4_distanceBySalt_r4 : List Cond := [Cond.constantLong RX2 94 (10), Cond.constantLong RX2 99 (65536), Cond.constantLong RX2 101 (7), Cond.methodLink RX2 96 yX2_rankSum, Cond.instanceMethod yX2_rankSum, Cond.selects RX2 yX2_rankSum yX2_rankSum, Cond.code yX2_rankSum cX2_rankSum 3 (some .int), Cond.constant RX2 93 (65536), Cond.methodLink RX2 49 yX2_rankIn, Cond.instanceMethod yX2_rankIn, Cond.selects RX2 yX2_rankIn yX2_rankIn, Cond.code yX2_rankIn cX2_rankIn 2 (some .int), Cond.methodLink RX2 106 yX2_emptyBuckets, Cond.instanceMethod yX2_emptyBuckets, Cond.selects RX2 yX2_emptyBuckets yX2_emptyBuckets, Cond.code yX2_emptyBuckets cX2_emptyBuckets 1 (some .int), Cond.methodLink RX2 90 yX2_filledBuckets, Cond.instanceMethod yX2_filledBuckets, Cond.selects RX2 yX2_filledBuckets yX2_filledBuckets, Cond.code yX2_filledBuckets cX2_filledBuckets 3 (some .int), Cond.methodLink RX2 109 yX2_estimateByEmpty, Cond.instanceMethod yX2_estimateByEmpty, Cond.selects RX2 yX2_estimateByEmpty yX2_estimateByEmpty, Cond.code yX2_estimateByEmpty cX2_estimateByEmpty 4 (some .int)]
def wsX4_distanceBySalt_r5 : List Cond := [Cond.methodLink RX2 72 Lib.Math.max.name, Cond.static Lib.Math.max.name, Cond.code Lib.Math.max.name Lib.Math.max.code 2 (some .int)]
def wsX4_distanceBySalt : List Cond := .code yX4_distanceBySalt cX4_distanceBySalt 4 (some .int) :: ((wsX4_distanceBySalt_r1 ++ (wsX4_distanceBySalt_r2 ++ (wsX4_distanceBySalt_r3 ++ (wsX4_distanceBySalt_r4 ++ wsX4_distanceBySalt_r5)))) ++ wsX40 ++ wsX20)
def wsX4_bestSalt_r1 : List Cond := [Cond.fieldLink RX4 10 "JoinedSketches" "now" "LJoinedSketches$State;", Cond.methodLink RX4 58 yX3_sketchAt, Cond.instanceMethod yX3_sketchAt, Cond.selects RX3 yX3_sketchAt yX3_sketchAt, Cond.initialized RX3, Cond.code yX3_sketchAt cX3_sketchAt 2 (some (.object "JoinedSketches$Sketch")), Cond.fieldLink RX3 17 "JoinedSketches$State" "sketches" "[LJoinedSketches$Sketch;", Cond.methodLink RX4 185 yX4_distanceBySalt, Cond.instanceMethod yX4_distanceBySalt, Cond.selects RX4 yX4_distanceBySalt yX4_distanceBySalt, Cond.initialized RX4, Cond.code yX4_distanceBySalt cX4_distanceBySalt 4 (some .int), Cond.fieldLink RX4 41 "JoinedSketches" "trial" "LJoinedSketches$Sketch;", Cond.methodLink RX4 232 Lib.Math.abs.name, Cond.static Lib.Math.abs.name, Cond.initialized "java/lang/Math", Cond.code Lib.Math.abs.name Lib.Math.abs.code 1 (some .int), Cond.methodLink RX4 65 yX2_startAgain, Cond.instanceMethod yX2_startAgain, Cond.selects RX2 yX2_startAgain yX2_startAgain, Cond.initialized RX2, Cond.code yX2_startAgain cX2_startAgain 2 none, Cond.fieldLink RX2 9 "JoinedSketches$Sketch" "bits" "I", Cond.fieldLink RX2 15 "JoinedSketches$Sketch" "ranks" "[I"]
def wsX4_bestSalt_r2 : List Cond := [Cond.fieldLink RX2 22 "JoinedSketches$Sketch" "listLength" "I", Cond.fieldLink RX2 25 "JoinedSketches$Sketch" "full" "Z", Cond.methodLink RX2 78 yJ7_fill_53178, Cond.static yJ7_fill_53178, Cond.initialized RJ7, Cond.code yJ7_fill_53178 cJ7_fill_53178 4 none, Cond.methodLink RX4 158 yX2_thingAt, Cond.instanceMethod yX2_thingAt, Cond.selects RX2 yX2_thingAt yX2_thingAt, Cond.code yX2_thingAt cX2_thingAt 2 (some .int), Cond.fieldLink RX2 19 "JoinedSketches$Sketch" "things" "[I", Cond.methodLink RX2 62 yX2_hasPlace, Cond.instanceMethod yX2_hasPlace, Cond.selects RX2 yX2_hasPlace yX2_hasPlace, Cond.code yX2_hasPlace cX2_hasPlace 2 (some .boolean), Cond.methodLink RX4 105 yX4_hashOf, Cond.static yX4_hashOf, Cond.code yX4_hashOf cX4_hashOf 3 (some .int), Cond.constant RX4 224 (40503), Cond.constant RX4 225 (65535), Cond.methodLink RX4 226 yX2_takeHash, Cond.instanceMethod yX2_takeHash, Cond.selects RX2 yX2_takeHash yX2_takeHash, Cond.code yX2_takeHash cX2_takeHash 2 (some .boolean)]
def wsX4_bestSalt_r3 : List Cond := [Cond.methodLink RX2 46 yX2_bucketOf, Cond.instanceMethod yX2_bucketOf, Cond.selects RX2 yX2_bucketOf yX2_bucketOf, Cond.code yX2_bucketOf cX2_bucketOf 2 (some .int), Cond.methodLink RX2 33 yX2_buckets, Cond.instanceMethod yX2_buckets, Cond.selects RX2 yX2_buckets yX2_buckets, Cond.code yX2_buckets cX2_buckets 1 (some .int), Cond.methodLink RX2 43 yX2_rankOf, Cond.instanceMethod yX2_rankOf, Cond.selects RX2 yX2_rankOf yX2_rankOf, Cond.code yX2_rankOf cX2_rankOf 4 (some .int), Cond.methodLink RX2 37 yJ6_bitCount_0f7a4, Cond.static yJ6_bitCount_0f7a4, Cond.initialized RJ6, Cond.code yJ6_bitCount_0f7a4 cJ6_bitCount_0f7a4 1 (some .int), Cond.constant RJ6 265 (1431655765), Cond.constant RJ6 266 (858993459), Cond.constant RJ6 267 (252645135), Cond.methodLink RX2 52 yX2_raise, Cond.instanceMethod yX2_raise, Cond.selects RX2 yX2_raise yX2_raise, Cond.code yX2_raise cX2_raise 3 (some .boolean), Cond.methodLink RX2 29 yX2_hasBucket]
def wsX4_bestSalt_r4 : List Cond := [Cond.instanceMethod yX2_hasBucket, Cond.selects RX2 yX2_hasBucket yX2_hasBucket, Cond.code yX2_hasBucket cX2_hasBucket 2 (some .boolean), Cond.methodLink RX4 88 yX2_estimate, Cond.instanceMethod yX2_estimate, Cond.selects RX2 yX2_estimate yX2_estimate, Cond.code yX2_estimate cX2_estimate 3 (some .int), Cond.methodLink RX2 103 yX2_rawEstimate, Cond.instanceMethod yX2_rawEstimate, Cond.selects RX2 yX2_rawEstimate yX2_rawEstimate, Cond.code yX2_rawEstimate cX2_rawEstimate 5 (some .int), Cond.constantLong RX2 94 (10), Cond.constantLong RX2 99 (65536), Cond.constantLong RX2 101 (7), Cond.methodLink RX2 96 yX2_rankSum, Cond.instanceMethod yX2_rankSum, Cond.selects RX2 yX2_rankSum yX2_rankSum, Cond.code yX2_rankSum cX2_rankSum 3 (some .int), Cond.constant RX2 93 (65536), Cond.methodLink RX2 49 yX2_rankIn, Cond.instanceMethod yX2_rankIn, Cond.selects RX2 yX2_rankIn yX2_rankIn, Cond.code yX2_rankIn cX2_rankIn 2 (some .int), Cond.methodLink RX2 106 yX2_emptyBuckets]
def wsX4_bestSalt_r5 : List Cond := [Cond.instanceMethod yX2_emptyBuckets, Cond.selects RX2 yX2_emptyBuckets yX2_emptyBuckets, Cond.code yX2_emptyBuckets cX2_emptyBuckets 1 (some .int), Cond.methodLink RX2 90 yX2_filledBuckets, Cond.instanceMethod yX2_filledBuckets, Cond.selects RX2 yX2_filledBuckets yX2_filledBuckets, Cond.code yX2_filledBuckets cX2_filledBuckets 3 (some .int), Cond.methodLink RX2 109 yX2_estimateByEmpty, Cond.instanceMethod yX2_estimateByEmpty, Cond.selects RX2 yX2_estimateByEmpty yX2_estimateByEmpty, Cond.code yX2_estimateByEmpty cX2_estimateByEmpty 4 (some .int), Cond.methodLink RX2 72 Lib.Math.max.name, Cond.static Lib.Math.max.name, Cond.code Lib.Math.max.name Lib.Math.max.code 2 (some .int)]
def wsX4_bestSalt : List Cond := .code yX4_bestSalt cX4_bestSalt 7 (some .int) :: ((wsX4_bestSalt_r1 ++ (wsX4_bestSalt_r2 ++ (wsX4_bestSalt_r3 ++ (wsX4_bestSalt_r4 ++ wsX4_bestSalt_r5)))) ++ wsX40 ++ wsX20 ++ wsX30)
def wsX4_charactersIn : List Cond := .code yX4_charactersIn cX4_charactersIn 7 (some .int) :: ([.constantLong RX4 193 (255)])
def wsX4_put : List Cond := .code yX4_put cX4_put 5 (some .int) :: ([.fieldLink RX4 34 "JoinedSketches" "pad" "LJoinedSketches$Pad;", .constantLong RX4 193 (255), .methodLink RX4 189 yX4_charactersIn, .static yX4_charactersIn, .initialized RX4, .code yX4_charactersIn cX4_charactersIn 7 (some .int), .methodLink RX4 195 yX1_append, .instanceMethod yX1_append, .selects RX1 yX1_append yX1_append, .initialized RX1, .code yX1_append cX1_append 2 none, .fieldLink RX1 15 "JoinedSketches$Pad" "length" "I", .fieldLink RX1 9 "JoinedSketches$Pad" "signs" "[C"] ++ wsX40 ++ wsX10)
def wsX4_wipe : List Cond := .code yX4_wipe cX4_wipe 2 (some .int) :: ([.fieldLink RX4 34 "JoinedSketches" "pad" "LJoinedSketches$Pad;", .methodLink RX4 199 yX1_clear, .instanceMethod yX1_clear, .selects RX1 yX1_clear yX1_clear, .initialized RX1, .code yX1_clear cX1_clear 1 none, .fieldLink RX1 15 "JoinedSketches$Pad" "length" "I"] ++ wsX40 ++ wsX10)
def wsX4_fault_r1 : List Cond := [Cond.fieldLink RX4 34 "JoinedSketches" "pad" "LJoinedSketches$Pad;", Cond.methodLink RX4 202 yX1_faultPlace, Cond.instanceMethod yX1_faultPlace, Cond.selects RX1 yX1_faultPlace yX1_faultPlace, Cond.initialized RX1, Cond.code yX1_faultPlace cX1_faultPlace 2 (some .int), Cond.fieldLink RX1 19 "JoinedSketches$Pad" "at" "I", Cond.fieldLink RX1 15 "JoinedSketches$Pad" "length" "I", Cond.methodLink RX1 35 yX1_goToStart, Cond.instanceMethod yX1_goToStart, Cond.selects RX1 yX1_goToStart yX1_goToStart, Cond.code yX1_goToStart cX1_goToStart 1 none, Cond.methodLink RX1 38 yX1_readOrder, Cond.instanceMethod yX1_readOrder, Cond.selects RX1 yX1_readOrder yX1_readOrder, Cond.code yX1_readOrder cX1_readOrder 1 (some .boolean), Cond.fieldLink RX1 32 "JoinedSketches$Pad" "many" "I", Cond.fieldLink RX1 22 "JoinedSketches$Pad" "sketch" "I", Cond.fieldLink RX1 25 "JoinedSketches$Pad" "verb" "I", Cond.methodLink RX1 46 yX1_standsAtSketch, Cond.instanceMethod yX1_standsAtSketch, Cond.selects RX1 yX1_standsAtSketch yX1_standsAtSketch, Cond.code yX1_standsAtSketch cX1_standsAtSketch 2 (some .boolean), Cond.methodLink RX1 49 yX1_digit]
def wsX4_fault_r2 : List Cond := [Cond.instanceMethod yX1_digit, Cond.selects RX1 yX1_digit yX1_digit, Cond.code yX1_digit cX1_digit 2 (some .int), Cond.methodLink RX1 53 yX1_sign, Cond.instanceMethod yX1_sign, Cond.selects RX1 yX1_sign yX1_sign, Cond.code yX1_sign cX1_sign 1 (some .char), Cond.fieldLink RX1 9 "JoinedSketches$Pad" "signs" "[C", Cond.methodLink RX1 57 yX1_readThings, Cond.instanceMethod yX1_readThings, Cond.selects RX1 yX1_readThings yX1_readThings, Cond.code yX1_readThings cX1_readThings 2 (some .boolean), Cond.methodLink RX1 63 yX1_readNumber, Cond.instanceMethod yX1_readNumber, Cond.selects RX1 yX1_readNumber yX1_readNumber, Cond.code yX1_readNumber cX1_readNumber 4 (some .boolean), Cond.constant RX1 70 (100000), Cond.methodLink RX1 66 yX1_keepNumber, Cond.instanceMethod yX1_keepNumber, Cond.selects RX1 yX1_keepNumber yX1_keepNumber, Cond.code yX1_keepNumber cX1_keepNumber 2 none, Cond.fieldLink RX1 28 "JoinedSketches$Pad" "numbers" "[I", Cond.methodLink RX1 42 yX1_accept, Cond.instanceMethod yX1_accept]
def wsX4_fault_r3 : List Cond := [Cond.selects RX1 yX1_accept yX1_accept, Cond.code yX1_accept cX1_accept 2 (some .boolean), Cond.methodLink RX1 60 yX1_readOther, Cond.instanceMethod yX1_readOther, Cond.selects RX1 yX1_readOther yX1_readOther, Cond.code yX1_readOther cX1_readOther 1 (some .boolean)]
def wsX4_fault : List Cond := .code yX4_fault cX4_fault 1 (some .int) :: ((wsX4_fault_r1 ++ (wsX4_fault_r2 ++ wsX4_fault_r3)) ++ wsX40 ++ wsX10)
def wsX4_carryThingsOut_r1 : List Cond := [Cond.fieldLink RX4 34 "JoinedSketches" "pad" "LJoinedSketches$Pad;", Cond.methodLink RX4 259 yX1_numberAt, Cond.instanceMethod yX1_numberAt, Cond.selects RX1 yX1_numberAt yX1_numberAt, Cond.initialized RX1, Cond.code yX1_numberAt cX1_numberAt 2 (some .int), Cond.fieldLink RX1 32 "JoinedSketches$Pad" "many" "I", Cond.fieldLink RX1 28 "JoinedSketches$Pad" "numbers" "[I", Cond.methodLink RX4 72 yX4_takeThings, Cond.instanceMethod yX4_takeThings, Cond.selects RX4 yX4_takeThings yX4_takeThings, Cond.initialized RX4, Cond.code yX4_takeThings cX4_takeThings 6 (some .int), Cond.fieldLink RX4 10 "JoinedSketches" "now" "LJoinedSketches$State;", Cond.methodLink RX4 105 yX4_hashOf, Cond.static yX4_hashOf, Cond.code yX4_hashOf cX4_hashOf 3 (some .int), Cond.constant RX4 224 (40503), Cond.constant RX4 225 (65535), Cond.methodLink RX4 226 yX2_takeHash, Cond.instanceMethod yX2_takeHash, Cond.selects RX2 yX2_takeHash yX2_takeHash, Cond.initialized RX2, Cond.code yX2_takeHash cX2_takeHash 2 (some .boolean)]
def wsX4_carryThingsOut_r2 : List Cond := [Cond.methodLink RX2 46 yX2_bucketOf, Cond.instanceMethod yX2_bucketOf, Cond.selects RX2 yX2_bucketOf yX2_bucketOf, Cond.code yX2_bucketOf cX2_bucketOf 2 (some .int), Cond.methodLink RX2 33 yX2_buckets, Cond.instanceMethod yX2_buckets, Cond.selects RX2 yX2_buckets yX2_buckets, Cond.code yX2_buckets cX2_buckets 1 (some .int), Cond.fieldLink RX2 9 "JoinedSketches$Sketch" "bits" "I", Cond.methodLink RX2 43 yX2_rankOf, Cond.instanceMethod yX2_rankOf, Cond.selects RX2 yX2_rankOf yX2_rankOf, Cond.code yX2_rankOf cX2_rankOf 4 (some .int), Cond.methodLink RX2 37 yJ6_bitCount_0f7a4, Cond.static yJ6_bitCount_0f7a4, Cond.initialized RJ6, Cond.code yJ6_bitCount_0f7a4 cJ6_bitCount_0f7a4 1 (some .int), Cond.constant RJ6 265 (1431655765), Cond.constant RJ6 266 (858993459), Cond.constant RJ6 267 (252645135), Cond.methodLink RX2 52 yX2_raise, Cond.instanceMethod yX2_raise, Cond.selects RX2 yX2_raise yX2_raise, Cond.code yX2_raise cX2_raise 3 (some .boolean)]
def wsX4_carryThingsOut_r3 : List Cond := [Cond.fieldLink RX2 15 "JoinedSketches$Sketch" "ranks" "[I", Cond.methodLink RX2 29 yX2_hasBucket, Cond.instanceMethod yX2_hasBucket, Cond.selects RX2 yX2_hasBucket yX2_hasBucket, Cond.code yX2_hasBucket cX2_hasBucket 2 (some .boolean), Cond.methodLink RX4 229 yX2_list, Cond.instanceMethod yX2_list, Cond.selects RX2 yX2_list yX2_list, Cond.code yX2_list cX2_list 2 none, Cond.fieldLink RX2 25 "JoinedSketches$Sketch" "full" "Z", Cond.fieldLink RX2 22 "JoinedSketches$Sketch" "listLength" "I", Cond.fieldLink RX2 19 "JoinedSketches$Sketch" "things" "[I", Cond.methodLink RX2 56 yX2_isListed, Cond.instanceMethod yX2_isListed, Cond.selects RX2 yX2_isListed yX2_isListed, Cond.code yX2_isListed cX2_isListed 3 (some .boolean), Cond.methodLink RX2 59 yX2_fillList, Cond.instanceMethod yX2_fillList, Cond.selects RX2 yX2_fillList yX2_fillList, Cond.code yX2_fillList cX2_fillList 1 none]
def wsX4_carryThingsOut : List Cond := .code yX4_carryThingsOut cX4_carryThingsOut 3 (some .boolean) :: ((wsX4_carryThingsOut_r1 ++ (wsX4_carryThingsOut_r2 ++ wsX4_carryThingsOut_r3)) ++ wsX40 ++ wsX10 ++ wsX30 ++ wsX20)
def wsX4_carryJoinOut_r1 : List Cond := [Cond.fieldLink RX4 10 "JoinedSketches" "now" "LJoinedSketches$State;", Cond.fieldLink RX4 34 "JoinedSketches" "pad" "LJoinedSketches$Pad;", Cond.methodLink RX4 259 yX1_numberAt, Cond.instanceMethod yX1_numberAt, Cond.selects RX1 yX1_numberAt yX1_numberAt, Cond.initialized RX1, Cond.code yX1_numberAt cX1_numberAt 2 (some .int), Cond.fieldLink RX1 32 "JoinedSketches$Pad" "many" "I", Cond.fieldLink RX1 28 "JoinedSketches$Pad" "numbers" "[I", Cond.methodLink RX4 58 yX3_sketchAt, Cond.instanceMethod yX3_sketchAt, Cond.selects RX3 yX3_sketchAt yX3_sketchAt, Cond.initialized RX3, Cond.code yX3_sketchAt cX3_sketchAt 2 (some (.object "JoinedSketches$Sketch")), Cond.fieldLink RX3 17 "JoinedSketches$State" "sketches" "[LJoinedSketches$Sketch;", Cond.methodLink RX4 80 yX4_areToJoin, Cond.static yX4_areToJoin, Cond.initialized RX4, Cond.code yX4_areToJoin cX4_areToJoin 2 (some .boolean), Cond.methodLink RX4 84 yX2_takeAll, Cond.instanceMethod yX2_takeAll, Cond.selects RX2 yX2_takeAll yX2_takeAll, Cond.initialized RX2, Cond.code yX2_takeAll cX2_takeAll 3 none]
def wsX4_carryJoinOut_r2 : List Cond := [Cond.fieldLink RX2 25 "JoinedSketches$Sketch" "full" "Z", Cond.fieldLink RX2 22 "JoinedSketches$Sketch" "listLength" "I", Cond.methodLink RX2 33 yX2_buckets, Cond.instanceMethod yX2_buckets, Cond.selects RX2 yX2_buckets yX2_buckets, Cond.code yX2_buckets cX2_buckets 1 (some .int), Cond.fieldLink RX2 9 "JoinedSketches$Sketch" "bits" "I", Cond.methodLink RX2 49 yX2_rankIn, Cond.instanceMethod yX2_rankIn, Cond.selects RX2 yX2_rankIn yX2_rankIn, Cond.code yX2_rankIn cX2_rankIn 2 (some .int), Cond.fieldLink RX2 15 "JoinedSketches$Sketch" "ranks" "[I", Cond.methodLink RX2 29 yX2_hasBucket, Cond.instanceMethod yX2_hasBucket, Cond.selects RX2 yX2_hasBucket yX2_hasBucket, Cond.code yX2_hasBucket cX2_hasBucket 2 (some .boolean), Cond.methodLink RX2 52 yX2_raise, Cond.instanceMethod yX2_raise, Cond.selects RX2 yX2_raise yX2_raise, Cond.code yX2_raise cX2_raise 3 (some .boolean), Cond.methodLink RX2 59 yX2_fillList, Cond.instanceMethod yX2_fillList, Cond.selects RX2 yX2_fillList yX2_fillList, Cond.code yX2_fillList cX2_fillList 1 none]
def wsX4_carryJoinOut_r3 : List Cond := [Cond.methodLink RX2 65 yX2_thingAt, Cond.instanceMethod yX2_thingAt, Cond.selects RX2 yX2_thingAt yX2_thingAt, Cond.code yX2_thingAt cX2_thingAt 2 (some .int), Cond.fieldLink RX2 19 "JoinedSketches$Sketch" "things" "[I", Cond.methodLink RX2 62 yX2_hasPlace, Cond.instanceMethod yX2_hasPlace, Cond.selects RX2 yX2_hasPlace yX2_hasPlace, Cond.code yX2_hasPlace cX2_hasPlace 2 (some .boolean), Cond.methodLink RX2 68 yX2_list, Cond.instanceMethod yX2_list, Cond.selects RX2 yX2_list yX2_list, Cond.code yX2_list cX2_list 2 none, Cond.methodLink RX2 56 yX2_isListed, Cond.instanceMethod yX2_isListed, Cond.selects RX2 yX2_isListed yX2_isListed, Cond.code yX2_isListed cX2_isListed 3 (some .boolean)]
def wsX4_carryJoinOut : List Cond := .code yX4_carryJoinOut cX4_carryJoinOut 3 (some .boolean) :: ((wsX4_carryJoinOut_r1 ++ (wsX4_carryJoinOut_r2 ++ wsX4_carryJoinOut_r3)) ++ wsX40 ++ wsX10 ++ wsX30 ++ wsX20)
def wsX4_carryRangeOut_r1 : List Cond := [Cond.fieldLink RX4 34 "JoinedSketches" "pad" "LJoinedSketches$Pad;", Cond.methodLink RX4 259 yX1_numberAt, Cond.instanceMethod yX1_numberAt, Cond.selects RX1 yX1_numberAt yX1_numberAt, Cond.initialized RX1, Cond.code yX1_numberAt cX1_numberAt 2 (some .int), Cond.fieldLink RX1 32 "JoinedSketches$Pad" "many" "I", Cond.fieldLink RX1 28 "JoinedSketches$Pad" "numbers" "[I", Cond.methodLink RX4 76 yX4_isRange, Cond.static yX4_isRange, Cond.initialized RX4, Cond.code yX4_isRange cX4_isRange 2 (some .boolean), Cond.constant RX4 184 (100000), Cond.methodLink RX4 68 yX4_isThing, Cond.static yX4_isThing, Cond.code yX4_isThing cX4_isThing 1 (some .boolean), Cond.methodLink RX4 72 yX4_takeThings, Cond.instanceMethod yX4_takeThings, Cond.selects RX4 yX4_takeThings yX4_takeThings, Cond.code yX4_takeThings cX4_takeThings 6 (some .int), Cond.fieldLink RX4 10 "JoinedSketches" "now" "LJoinedSketches$State;", Cond.methodLink RX4 105 yX4_hashOf, Cond.static yX4_hashOf, Cond.code yX4_hashOf cX4_hashOf 3 (some .int)]
def wsX4_carryRangeOut_r2 : List Cond := [Cond.constant RX4 224 (40503), Cond.constant RX4 225 (65535), Cond.methodLink RX4 226 yX2_takeHash, Cond.instanceMethod yX2_takeHash, Cond.selects RX2 yX2_takeHash yX2_takeHash, Cond.initialized RX2, Cond.code yX2_takeHash cX2_takeHash 2 (some .boolean), Cond.methodLink RX2 46 yX2_bucketOf, Cond.instanceMethod yX2_bucketOf, Cond.selects RX2 yX2_bucketOf yX2_bucketOf, Cond.code yX2_bucketOf cX2_bucketOf 2 (some .int), Cond.methodLink RX2 33 yX2_buckets, Cond.instanceMethod yX2_buckets, Cond.selects RX2 yX2_buckets yX2_buckets, Cond.code yX2_buckets cX2_buckets 1 (some .int), Cond.fieldLink RX2 9 "JoinedSketches$Sketch" "bits" "I", Cond.methodLink RX2 43 yX2_rankOf, Cond.instanceMethod yX2_rankOf, Cond.selects RX2 yX2_rankOf yX2_rankOf, Cond.code yX2_rankOf cX2_rankOf 4 (some .int), Cond.methodLink RX2 37 yJ6_bitCount_0f7a4, Cond.static yJ6_bitCount_0f7a4, Cond.initialized RJ6, Cond.code yJ6_bitCount_0f7a4 cJ6_bitCount_0f7a4 1 (some .int)]
def wsX4_carryRangeOut_r3 : List Cond := [Cond.constant RJ6 265 (1431655765), Cond.constant RJ6 266 (858993459), Cond.constant RJ6 267 (252645135), Cond.methodLink RX2 52 yX2_raise, Cond.instanceMethod yX2_raise, Cond.selects RX2 yX2_raise yX2_raise, Cond.code yX2_raise cX2_raise 3 (some .boolean), Cond.fieldLink RX2 15 "JoinedSketches$Sketch" "ranks" "[I", Cond.methodLink RX2 29 yX2_hasBucket, Cond.instanceMethod yX2_hasBucket, Cond.selects RX2 yX2_hasBucket yX2_hasBucket, Cond.code yX2_hasBucket cX2_hasBucket 2 (some .boolean), Cond.methodLink RX4 229 yX2_list, Cond.instanceMethod yX2_list, Cond.selects RX2 yX2_list yX2_list, Cond.code yX2_list cX2_list 2 none, Cond.fieldLink RX2 25 "JoinedSketches$Sketch" "full" "Z", Cond.fieldLink RX2 22 "JoinedSketches$Sketch" "listLength" "I", Cond.fieldLink RX2 19 "JoinedSketches$Sketch" "things" "[I", Cond.methodLink RX2 56 yX2_isListed, Cond.instanceMethod yX2_isListed, Cond.selects RX2 yX2_isListed yX2_isListed, Cond.code yX2_isListed cX2_isListed 3 (some .boolean), Cond.methodLink RX2 59 yX2_fillList]
def wsX4_carryRangeOut_r4 : List Cond := [Cond.instanceMethod yX2_fillList, Cond.selects RX2 yX2_fillList yX2_fillList, Cond.code yX2_fillList cX2_fillList 1 none]
def wsX4_carryRangeOut : List Cond := .code yX4_carryRangeOut cX4_carryRangeOut 4 (some .boolean) :: ((wsX4_carryRangeOut_r1 ++ (wsX4_carryRangeOut_r2 ++ (wsX4_carryRangeOut_r3 ++ wsX4_carryRangeOut_r4))) ++ wsX40 ++ wsX10 ++ wsX30 ++ wsX20)
def wsX4_carryFoldOut_r1 : List Cond := [Cond.methodLink RX4 92 yX4_isToFold, Cond.static yX4_isToFold, Cond.initialized RX4, Cond.code yX4_isToFold cX4_isToFold 1 (some .boolean), Cond.methodLink RX4 96 yX2_halve, Cond.instanceMethod yX2_halve, Cond.selects RX2 yX2_halve yX2_halve, Cond.initialized RX2, Cond.code yX2_halve cX2_halve 5 none, Cond.fieldLink RX2 15 "JoinedSketches$Sketch" "ranks" "[I", Cond.methodLink RX2 72 Lib.Math.max.name, Cond.static Lib.Math.max.name, Cond.initialized "java/lang/Math", Cond.code Lib.Math.max.name Lib.Math.max.code 2 (some .int), Cond.fieldLink RX2 9 "JoinedSketches$Sketch" "bits" "I", Cond.methodLink RX2 33 yX2_buckets, Cond.instanceMethod yX2_buckets, Cond.selects RX2 yX2_buckets yX2_buckets, Cond.code yX2_buckets cX2_buckets 1 (some .int), Cond.methodLink RX2 49 yX2_rankIn, Cond.instanceMethod yX2_rankIn, Cond.selects RX2 yX2_rankIn yX2_rankIn, Cond.code yX2_rankIn cX2_rankIn 2 (some .int), Cond.methodLink RX2 29 yX2_hasBucket]
def wsX4_carryFoldOut_r2 : List Cond := [Cond.instanceMethod yX2_hasBucket, Cond.selects RX2 yX2_hasBucket yX2_hasBucket, Cond.code yX2_hasBucket cX2_hasBucket 2 (some .boolean)]
def wsX4_carryFoldOut : List Cond := .code yX4_carryFoldOut cX4_carryFoldOut 1 (some .boolean) :: ((wsX4_carryFoldOut_r1 ++ wsX4_carryFoldOut_r2) ++ wsX20)
def wsX4_carryOrderOut_r1 : List Cond := [Cond.fieldLink RX4 10 "JoinedSketches" "now" "LJoinedSketches$State;", Cond.fieldLink RX4 34 "JoinedSketches" "pad" "LJoinedSketches$Pad;", Cond.methodLink RX4 58 yX3_sketchAt, Cond.instanceMethod yX3_sketchAt, Cond.selects RX3 yX3_sketchAt yX3_sketchAt, Cond.initialized RX3, Cond.code yX3_sketchAt cX3_sketchAt 2 (some (.object "JoinedSketches$Sketch")), Cond.fieldLink RX3 17 "JoinedSketches$State" "sketches" "[LJoinedSketches$Sketch;", Cond.methodLink RX4 244 yX4_carryThingsOut, Cond.instanceMethod yX4_carryThingsOut, Cond.selects RX4 yX4_carryThingsOut yX4_carryThingsOut, Cond.initialized RX4, Cond.code yX4_carryThingsOut cX4_carryThingsOut 3 (some .boolean), Cond.methodLink RX4 259 yX1_numberAt, Cond.instanceMethod yX1_numberAt, Cond.selects RX1 yX1_numberAt yX1_numberAt, Cond.initialized RX1, Cond.code yX1_numberAt cX1_numberAt 2 (some .int), Cond.fieldLink RX1 32 "JoinedSketches$Pad" "many" "I", Cond.fieldLink RX1 28 "JoinedSketches$Pad" "numbers" "[I", Cond.methodLink RX4 72 yX4_takeThings, Cond.instanceMethod yX4_takeThings, Cond.selects RX4 yX4_takeThings yX4_takeThings, Cond.code yX4_takeThings cX4_takeThings 6 (some .int)]
def wsX4_carryOrderOut_r2 : List Cond := [Cond.methodLink RX4 105 yX4_hashOf, Cond.static yX4_hashOf, Cond.code yX4_hashOf cX4_hashOf 3 (some .int), Cond.constant RX4 224 (40503), Cond.constant RX4 225 (65535), Cond.methodLink RX4 226 yX2_takeHash, Cond.instanceMethod yX2_takeHash, Cond.selects RX2 yX2_takeHash yX2_takeHash, Cond.initialized RX2, Cond.code yX2_takeHash cX2_takeHash 2 (some .boolean), Cond.methodLink RX2 46 yX2_bucketOf, Cond.instanceMethod yX2_bucketOf, Cond.selects RX2 yX2_bucketOf yX2_bucketOf, Cond.code yX2_bucketOf cX2_bucketOf 2 (some .int), Cond.methodLink RX2 33 yX2_buckets, Cond.instanceMethod yX2_buckets, Cond.selects RX2 yX2_buckets yX2_buckets, Cond.code yX2_buckets cX2_buckets 1 (some .int), Cond.fieldLink RX2 9 "JoinedSketches$Sketch" "bits" "I", Cond.methodLink RX2 43 yX2_rankOf, Cond.instanceMethod yX2_rankOf, Cond.selects RX2 yX2_rankOf yX2_rankOf, Cond.code yX2_rankOf cX2_rankOf 4 (some .int), Cond.methodLink RX2 37 yJ6_bitCount_0f7a4]
def wsX4_carryOrderOut_r3 : List Cond := [Cond.static yJ6_bitCount_0f7a4, Cond.initialized RJ6, Cond.code yJ6_bitCount_0f7a4 cJ6_bitCount_0f7a4 1 (some .int), Cond.constant RJ6 265 (1431655765), Cond.constant RJ6 266 (858993459), Cond.constant RJ6 267 (252645135), Cond.methodLink RX2 52 yX2_raise, Cond.instanceMethod yX2_raise, Cond.selects RX2 yX2_raise yX2_raise, Cond.code yX2_raise cX2_raise 3 (some .boolean), Cond.fieldLink RX2 15 "JoinedSketches$Sketch" "ranks" "[I", Cond.methodLink RX2 29 yX2_hasBucket, Cond.instanceMethod yX2_hasBucket, Cond.selects RX2 yX2_hasBucket yX2_hasBucket, Cond.code yX2_hasBucket cX2_hasBucket 2 (some .boolean), Cond.methodLink RX4 229 yX2_list, Cond.instanceMethod yX2_list, Cond.selects RX2 yX2_list yX2_list, Cond.code yX2_list cX2_list 2 none, Cond.fieldLink RX2 25 "JoinedSketches$Sketch" "full" "Z", Cond.fieldLink RX2 22 "JoinedSketches$Sketch" "listLength" "I", Cond.fieldLink RX2 19 "JoinedSketches$Sketch" "things" "[I", Cond.methodLink RX2 56 yX2_isListed, Cond.instanceMethod yX2_isListed]
def wsX4_carryOrderOut_r4 : List Cond := [Cond.selects RX2 yX2_isListed yX2_isListed, Cond.code yX2_isListed cX2_isListed 3 (some .boolean), Cond.methodLink RX2 59 yX2_fillList, Cond.instanceMethod yX2_fillList, Cond.selects RX2 yX2_fillList yX2_fillList, Cond.code yX2_fillList cX2_fillList 1 none, Cond.methodLink RX4 247 yX4_carryJoinOut, Cond.instanceMethod yX4_carryJoinOut, Cond.selects RX4 yX4_carryJoinOut yX4_carryJoinOut, Cond.code yX4_carryJoinOut cX4_carryJoinOut 3 (some .boolean), Cond.methodLink RX4 80 yX4_areToJoin, Cond.static yX4_areToJoin, Cond.code yX4_areToJoin cX4_areToJoin 2 (some .boolean), Cond.methodLink RX4 84 yX2_takeAll, Cond.instanceMethod yX2_takeAll, Cond.selects RX2 yX2_takeAll yX2_takeAll, Cond.code yX2_takeAll cX2_takeAll 3 none, Cond.methodLink RX2 49 yX2_rankIn, Cond.instanceMethod yX2_rankIn, Cond.selects RX2 yX2_rankIn yX2_rankIn, Cond.code yX2_rankIn cX2_rankIn 2 (some .int), Cond.methodLink RX2 65 yX2_thingAt, Cond.instanceMethod yX2_thingAt, Cond.selects RX2 yX2_thingAt yX2_thingAt]
def wsX4_carryOrderOut_r5 : List Cond := [Cond.code yX2_thingAt cX2_thingAt 2 (some .int), Cond.methodLink RX2 62 yX2_hasPlace, Cond.instanceMethod yX2_hasPlace, Cond.selects RX2 yX2_hasPlace yX2_hasPlace, Cond.code yX2_hasPlace cX2_hasPlace 2 (some .boolean), Cond.methodLink RX2 68 yX2_list, Cond.methodLink RX4 250 yX4_carryRangeOut, Cond.instanceMethod yX4_carryRangeOut, Cond.selects RX4 yX4_carryRangeOut yX4_carryRangeOut, Cond.code yX4_carryRangeOut cX4_carryRangeOut 4 (some .boolean), Cond.methodLink RX4 76 yX4_isRange, Cond.static yX4_isRange, Cond.code yX4_isRange cX4_isRange 2 (some .boolean), Cond.constant RX4 184 (100000), Cond.methodLink RX4 68 yX4_isThing, Cond.static yX4_isThing, Cond.code yX4_isThing cX4_isThing 1 (some .boolean), Cond.methodLink RX4 253 yX4_carryFoldOut, Cond.static yX4_carryFoldOut, Cond.code yX4_carryFoldOut cX4_carryFoldOut 1 (some .boolean), Cond.methodLink RX4 92 yX4_isToFold, Cond.static yX4_isToFold, Cond.code yX4_isToFold cX4_isToFold 1 (some .boolean), Cond.methodLink RX4 96 yX2_halve]
def wsX4_carryOrderOut_r6 : List Cond := [Cond.instanceMethod yX2_halve, Cond.selects RX2 yX2_halve yX2_halve, Cond.code yX2_halve cX2_halve 5 none, Cond.methodLink RX2 72 Lib.Math.max.name, Cond.static Lib.Math.max.name, Cond.initialized "java/lang/Math", Cond.code Lib.Math.max.name Lib.Math.max.code 2 (some .int), Cond.methodLink RX4 65 yX2_startAgain, Cond.instanceMethod yX2_startAgain, Cond.selects RX2 yX2_startAgain yX2_startAgain, Cond.code yX2_startAgain cX2_startAgain 2 none, Cond.methodLink RX2 78 yJ7_fill_53178, Cond.static yJ7_fill_53178, Cond.initialized RJ7, Cond.code yJ7_fill_53178 cJ7_fill_53178 4 none]
def wsX4_carryOrderOut : List Cond := .code yX4_carryOrderOut cX4_carryOrderOut 2 (some .boolean) :: ((wsX4_carryOrderOut_r1 ++ (wsX4_carryOrderOut_r2 ++ (wsX4_carryOrderOut_r3 ++ (wsX4_carryOrderOut_r4 ++ (wsX4_carryOrderOut_r5 ++ wsX4_carryOrderOut_r6))))) ++ wsX40 ++ wsX10 ++ wsX20 ++ wsX30)
def wsX4_carryOut_r1 : List Cond := [Cond.fieldLink RX4 34 "JoinedSketches" "pad" "LJoinedSketches$Pad;", Cond.fieldLink RX4 19 "JoinedSketches" "history" "LJoinedSketches$History;", Cond.fieldLink RX4 10 "JoinedSketches" "now" "LJoinedSketches$State;", Cond.methodLink RX4 202 yX1_faultPlace, Cond.instanceMethod yX1_faultPlace, Cond.selects RX1 yX1_faultPlace yX1_faultPlace, Cond.initialized RX1, Cond.code yX1_faultPlace cX1_faultPlace 2 (some .int), Cond.fieldLink RX1 19 "JoinedSketches$Pad" "at" "I", Cond.fieldLink RX1 15 "JoinedSketches$Pad" "length" "I", Cond.methodLink RX1 35 yX1_goToStart, Cond.instanceMethod yX1_goToStart, Cond.selects RX1 yX1_goToStart yX1_goToStart, Cond.code yX1_goToStart cX1_goToStart 1 none, Cond.methodLink RX1 38 yX1_readOrder, Cond.instanceMethod yX1_readOrder, Cond.selects RX1 yX1_readOrder yX1_readOrder, Cond.code yX1_readOrder cX1_readOrder 1 (some .boolean), Cond.fieldLink RX1 32 "JoinedSketches$Pad" "many" "I", Cond.fieldLink RX1 22 "JoinedSketches$Pad" "sketch" "I", Cond.fieldLink RX1 25 "JoinedSketches$Pad" "verb" "I", Cond.methodLink RX1 46 yX1_standsAtSketch, Cond.instanceMethod yX1_standsAtSketch, Cond.selects RX1 yX1_standsAtSketch yX1_standsAtSketch]
def wsX4_carryOut_r2 : List Cond := [Cond.code yX1_standsAtSketch cX1_standsAtSketch 2 (some .boolean), Cond.methodLink RX1 49 yX1_digit, Cond.instanceMethod yX1_digit, Cond.selects RX1 yX1_digit yX1_digit, Cond.code yX1_digit cX1_digit 2 (some .int), Cond.methodLink RX1 53 yX1_sign, Cond.instanceMethod yX1_sign, Cond.selects RX1 yX1_sign yX1_sign, Cond.code yX1_sign cX1_sign 1 (some .char), Cond.fieldLink RX1 9 "JoinedSketches$Pad" "signs" "[C", Cond.methodLink RX1 57 yX1_readThings, Cond.instanceMethod yX1_readThings, Cond.selects RX1 yX1_readThings yX1_readThings, Cond.code yX1_readThings cX1_readThings 2 (some .boolean), Cond.methodLink RX1 63 yX1_readNumber, Cond.instanceMethod yX1_readNumber, Cond.selects RX1 yX1_readNumber yX1_readNumber, Cond.code yX1_readNumber cX1_readNumber 4 (some .boolean), Cond.constant RX1 70 (100000), Cond.methodLink RX1 66 yX1_keepNumber, Cond.instanceMethod yX1_keepNumber, Cond.selects RX1 yX1_keepNumber yX1_keepNumber, Cond.code yX1_keepNumber cX1_keepNumber 2 none, Cond.fieldLink RX1 28 "JoinedSketches$Pad" "numbers" "[I"]
def wsX4_carryOut_r3 : List Cond := [Cond.methodLink RX1 42 yX1_accept, Cond.instanceMethod yX1_accept, Cond.selects RX1 yX1_accept yX1_accept, Cond.code yX1_accept cX1_accept 2 (some .boolean), Cond.methodLink RX1 60 yX1_readOther, Cond.instanceMethod yX1_readOther, Cond.selects RX1 yX1_readOther yX1_readOther, Cond.code yX1_readOther cX1_readOther 1 (some .boolean), Cond.methodLink RX4 46 yX0_record, Cond.instanceMethod yX0_record, Cond.selects RX0 yX0_record yX0_record, Cond.initialized RX0, Cond.code yX0_record cX0_record 2 none, Cond.fieldLink RX0 21 "JoinedSketches$History" "size" "I", Cond.fieldLink RX0 17 "JoinedSketches$History" "oldest" "I", Cond.fieldLink RX0 11 "JoinedSketches$History" "ring" "[LJoinedSketches$State;", Cond.methodLink RX0 25 yJ9_floorMod_7cf53, Cond.static yJ9_floorMod_7cf53, Cond.initialized RJ9, Cond.code yJ9_floorMod_7cf53 cJ9_floorMod_7cf53 3 (some .int), Cond.methodLink RX0 31 yX3_copyFrom, Cond.instanceMethod yX3_copyFrom, Cond.selects RX3 yX3_copyFrom yX3_copyFrom, Cond.initialized RX3]
def wsX4_carryOut_r4 : List Cond := [Cond.code yX3_copyFrom cX3_copyFrom 3 none, Cond.fieldLink RX3 9 "JoinedSketches$State" "salt" "I", Cond.fieldLink RX3 17 "JoinedSketches$State" "sketches" "[LJoinedSketches$Sketch;", Cond.methodLink RX3 29 yX2_copyFrom, Cond.instanceMethod yX2_copyFrom, Cond.selects RX2 yX2_copyFrom yX2_copyFrom, Cond.initialized RX2, Cond.code yX2_copyFrom cX2_copyFrom 2 none, Cond.fieldLink RX2 9 "JoinedSketches$Sketch" "bits" "I", Cond.fieldLink RX2 15 "JoinedSketches$Sketch" "ranks" "[I", Cond.methodLink RX2 84 arraycopyName, Cond.native arraycopyName, Cond.static arraycopyName, Cond.initialized "java/lang/System", Cond.fieldLink RX2 19 "JoinedSketches$Sketch" "things" "[I", Cond.fieldLink RX2 22 "JoinedSketches$Sketch" "listLength" "I", Cond.fieldLink RX2 25 "JoinedSketches$Sketch" "full" "Z", Cond.methodLink RX4 205 yX1_goToStart, Cond.methodLink RX4 208 yX1_readOrder, Cond.methodLink RX4 212 yX4_carryOrderOut, Cond.instanceMethod yX4_carryOrderOut, Cond.selects RX4 yX4_carryOrderOut yX4_carryOrderOut, Cond.initialized RX4, Cond.code yX4_carryOrderOut cX4_carryOrderOut 2 (some .boolean)]
def wsX4_carryOut_r5 : List Cond := [Cond.methodLink RX4 58 yX3_sketchAt, Cond.instanceMethod yX3_sketchAt, Cond.selects RX3 yX3_sketchAt yX3_sketchAt, Cond.code yX3_sketchAt cX3_sketchAt 2 (some (.object "JoinedSketches$Sketch")), Cond.methodLink RX4 244 yX4_carryThingsOut, Cond.instanceMethod yX4_carryThingsOut, Cond.selects RX4 yX4_carryThingsOut yX4_carryThingsOut, Cond.code yX4_carryThingsOut cX4_carryThingsOut 3 (some .boolean), Cond.methodLink RX4 259 yX1_numberAt, Cond.instanceMethod yX1_numberAt, Cond.selects RX1 yX1_numberAt yX1_numberAt, Cond.code yX1_numberAt cX1_numberAt 2 (some .int), Cond.methodLink RX4 72 yX4_takeThings, Cond.instanceMethod yX4_takeThings, Cond.selects RX4 yX4_takeThings yX4_takeThings, Cond.code yX4_takeThings cX4_takeThings 6 (some .int), Cond.methodLink RX4 105 yX4_hashOf, Cond.static yX4_hashOf, Cond.code yX4_hashOf cX4_hashOf 3 (some .int), Cond.constant RX4 224 (40503), Cond.constant RX4 225 (65535), Cond.methodLink RX4 226 yX2_takeHash, Cond.instanceMethod yX2_takeHash, Cond.selects RX2 yX2_takeHash yX2_takeHash]
def wsX4_carryOut_r6 : List Cond := [Cond.code yX2_takeHash cX2_takeHash 2 (some .boolean), Cond.methodLink RX2 46 yX2_bucketOf, Cond.instanceMethod yX2_bucketOf, Cond.selects RX2 yX2_bucketOf yX2_bucketOf, Cond.code yX2_bucketOf cX2_bucketOf 2 (some .int), Cond.methodLink RX2 33 yX2_buckets, Cond.instanceMethod yX2_buckets, Cond.selects RX2 yX2_buckets yX2_buckets, Cond.code yX2_buckets cX2_buckets 1 (some .int), Cond.methodLink RX2 43 yX2_rankOf, Cond.instanceMethod yX2_rankOf, Cond.selects RX2 yX2_rankOf yX2_rankOf, Cond.code yX2_rankOf cX2_rankOf 4 (some .int), Cond.methodLink RX2 37 yJ6_bitCount_0f7a4, Cond.static yJ6_bitCount_0f7a4, Cond.initialized RJ6, Cond.code yJ6_bitCount_0f7a4 cJ6_bitCount_0f7a4 1 (some .int), Cond.constant RJ6 265 (1431655765), Cond.constant RJ6 266 (858993459), Cond.constant RJ6 267 (252645135), Cond.methodLink RX2 52 yX2_raise, Cond.instanceMethod yX2_raise, Cond.selects RX2 yX2_raise yX2_raise, Cond.code yX2_raise cX2_raise 3 (some .boolean)]
def wsX4_carryOut_r7 : List Cond := [Cond.methodLink RX2 29 yX2_hasBucket, Cond.instanceMethod yX2_hasBucket, Cond.selects RX2 yX2_hasBucket yX2_hasBucket, Cond.code yX2_hasBucket cX2_hasBucket 2 (some .boolean), Cond.methodLink RX4 229 yX2_list, Cond.instanceMethod yX2_list, Cond.selects RX2 yX2_list yX2_list, Cond.code yX2_list cX2_list 2 none, Cond.methodLink RX2 56 yX2_isListed, Cond.instanceMethod yX2_isListed, Cond.selects RX2 yX2_isListed yX2_isListed, Cond.code yX2_isListed cX2_isListed 3 (some .boolean), Cond.methodLink RX2 59 yX2_fillList, Cond.instanceMethod yX2_fillList, Cond.selects RX2 yX2_fillList yX2_fillList, Cond.code yX2_fillList cX2_fillList 1 none, Cond.methodLink RX4 247 yX4_carryJoinOut, Cond.instanceMethod yX4_carryJoinOut, Cond.selects RX4 yX4_carryJoinOut yX4_carryJoinOut, Cond.code yX4_carryJoinOut cX4_carryJoinOut 3 (some .boolean), Cond.methodLink RX4 80 yX4_areToJoin, Cond.static yX4_areToJoin, Cond.code yX4_areToJoin cX4_areToJoin 2 (some .boolean), Cond.methodLink RX4 84 yX2_takeAll]
def wsX4_carryOut_r8 : List Cond := [Cond.instanceMethod yX2_takeAll, Cond.selects RX2 yX2_takeAll yX2_takeAll, Cond.code yX2_takeAll cX2_takeAll 3 none, Cond.methodLink RX2 49 yX2_rankIn, Cond.instanceMethod yX2_rankIn, Cond.selects RX2 yX2_rankIn yX2_rankIn, Cond.code yX2_rankIn cX2_rankIn 2 (some .int), Cond.methodLink RX2 65 yX2_thingAt, Cond.instanceMethod yX2_thingAt, Cond.selects RX2 yX2_thingAt yX2_thingAt, Cond.code yX2_thingAt cX2_thingAt 2 (some .int), Cond.methodLink RX2 62 yX2_hasPlace, Cond.instanceMethod yX2_hasPlace, Cond.selects RX2 yX2_hasPlace yX2_hasPlace, Cond.code yX2_hasPlace cX2_hasPlace 2 (some .boolean), Cond.methodLink RX2 68 yX2_list, Cond.methodLink RX4 250 yX4_carryRangeOut, Cond.instanceMethod yX4_carryRangeOut, Cond.selects RX4 yX4_carryRangeOut yX4_carryRangeOut, Cond.code yX4_carryRangeOut cX4_carryRangeOut 4 (some .boolean), Cond.methodLink RX4 76 yX4_isRange, Cond.static yX4_isRange, Cond.code yX4_isRange cX4_isRange 2 (some .boolean), Cond.constant RX4 184 (100000)]
def wsX4_carryOut_r9 : List Cond := [Cond.methodLink RX4 68 yX4_isThing, Cond.static yX4_isThing, Cond.code yX4_isThing cX4_isThing 1 (some .boolean), Cond.methodLink RX4 253 yX4_carryFoldOut, Cond.static yX4_carryFoldOut, Cond.code yX4_carryFoldOut cX4_carryFoldOut 1 (some .boolean), Cond.methodLink RX4 92 yX4_isToFold, Cond.static yX4_isToFold, Cond.code yX4_isToFold cX4_isToFold 1 (some .boolean), Cond.methodLink RX4 96 yX2_halve, Cond.instanceMethod yX2_halve, Cond.selects RX2 yX2_halve yX2_halve, Cond.code yX2_halve cX2_halve 5 none, Cond.methodLink RX2 72 Lib.Math.max.name, Cond.static Lib.Math.max.name, Cond.initialized "java/lang/Math", Cond.code Lib.Math.max.name Lib.Math.max.code 2 (some .int), Cond.methodLink RX4 65 yX2_startAgain, Cond.instanceMethod yX2_startAgain, Cond.selects RX2 yX2_startAgain yX2_startAgain, Cond.code yX2_startAgain cX2_startAgain 2 none, Cond.methodLink RX2 78 yJ7_fill_53178, Cond.static yJ7_fill_53178, Cond.initialized RJ7]
def wsX4_carryOut_r10 : List Cond := [Cond.code yJ7_fill_53178 cJ7_fill_53178 4 none, Cond.methodLink RX4 215 yX1_accept, Cond.methodLink RX4 199 yX1_clear, Cond.instanceMethod yX1_clear, Cond.selects RX1 yX1_clear yX1_clear, Cond.code yX1_clear cX1_clear 1 none]
def wsX4_carryOut : List Cond := .code yX4_carryOut cX4_carryOut 2 (some .int) :: ((wsX4_carryOut_r1 ++ (wsX4_carryOut_r2 ++ (wsX4_carryOut_r3 ++ (wsX4_carryOut_r4 ++ (wsX4_carryOut_r5 ++ (wsX4_carryOut_r6 ++ (wsX4_carryOut_r7 ++ (wsX4_carryOut_r8 ++ (wsX4_carryOut_r9 ++ wsX4_carryOut_r10))))))))) ++ wsX40 ++ wsX10 ++ wsX00 ++ wsX30 ++ wsX20)
def wsX4_undo_r1 : List Cond := [Cond.fieldLink RX4 19 "JoinedSketches" "history" "LJoinedSketches$History;", Cond.fieldLink RX4 10 "JoinedSketches" "now" "LJoinedSketches$State;", Cond.methodLink RX4 219 yX0_takeBack, Cond.instanceMethod yX0_takeBack, Cond.selects RX0 yX0_takeBack yX0_takeBack, Cond.initialized RX0, Cond.code yX0_takeBack cX0_takeBack 2 none, Cond.fieldLink RX0 21 "JoinedSketches$History" "size" "I", Cond.fieldLink RX0 11 "JoinedSketches$History" "ring" "[LJoinedSketches$State;", Cond.fieldLink RX0 17 "JoinedSketches$History" "oldest" "I", Cond.methodLink RX0 25 yJ9_floorMod_7cf53, Cond.static yJ9_floorMod_7cf53, Cond.initialized RJ9, Cond.code yJ9_floorMod_7cf53 cJ9_floorMod_7cf53 3 (some .int), Cond.methodLink RX0 31 yX3_copyFrom, Cond.instanceMethod yX3_copyFrom, Cond.selects RX3 yX3_copyFrom yX3_copyFrom, Cond.initialized RX3, Cond.code yX3_copyFrom cX3_copyFrom 3 none, Cond.fieldLink RX3 9 "JoinedSketches$State" "salt" "I", Cond.fieldLink RX3 17 "JoinedSketches$State" "sketches" "[LJoinedSketches$Sketch;", Cond.methodLink RX3 29 yX2_copyFrom, Cond.instanceMethod yX2_copyFrom, Cond.selects RX2 yX2_copyFrom yX2_copyFrom]
def wsX4_undo_r2 : List Cond := [Cond.initialized RX2, Cond.code yX2_copyFrom cX2_copyFrom 2 none, Cond.fieldLink RX2 9 "JoinedSketches$Sketch" "bits" "I", Cond.fieldLink RX2 15 "JoinedSketches$Sketch" "ranks" "[I", Cond.methodLink RX2 84 arraycopyName, Cond.native arraycopyName, Cond.static arraycopyName, Cond.initialized "java/lang/System", Cond.fieldLink RX2 19 "JoinedSketches$Sketch" "things" "[I", Cond.fieldLink RX2 22 "JoinedSketches$Sketch" "listLength" "I", Cond.fieldLink RX2 25 "JoinedSketches$Sketch" "full" "Z"]
def wsX4_undo : List Cond := .code yX4_undo cX4_undo 1 (some .int) :: ((wsX4_undo_r1 ++ wsX4_undo_r2) ++ wsX40 ++ wsX00 ++ wsX30 ++ wsX20)
def wsX4_save_r1 : List Cond := [Cond.fieldLink RX4 23 "JoinedSketches" "slots" "[LJoinedSketches$State;", Cond.fieldLink RX4 10 "JoinedSketches" "now" "LJoinedSketches$State;", Cond.fieldLink RX4 27 "JoinedSketches" "saved" "[Z", Cond.methodLink RX4 222 yX3_copyFrom, Cond.instanceMethod yX3_copyFrom, Cond.selects RX3 yX3_copyFrom yX3_copyFrom, Cond.initialized RX3, Cond.code yX3_copyFrom cX3_copyFrom 3 none, Cond.fieldLink RX3 9 "JoinedSketches$State" "salt" "I", Cond.fieldLink RX3 17 "JoinedSketches$State" "sketches" "[LJoinedSketches$Sketch;", Cond.methodLink RX3 29 yX2_copyFrom, Cond.instanceMethod yX2_copyFrom, Cond.selects RX2 yX2_copyFrom yX2_copyFrom, Cond.initialized RX2, Cond.code yX2_copyFrom cX2_copyFrom 2 none, Cond.fieldLink RX2 9 "JoinedSketches$Sketch" "bits" "I", Cond.fieldLink RX2 15 "JoinedSketches$Sketch" "ranks" "[I", Cond.methodLink RX2 84 arraycopyName, Cond.native arraycopyName, Cond.static arraycopyName, Cond.initialized "java/lang/System", Cond.fieldLink RX2 19 "JoinedSketches$Sketch" "things" "[I", Cond.fieldLink RX2 22 "JoinedSketches$Sketch" "listLength" "I", Cond.fieldLink RX2 25 "JoinedSketches$Sketch" "full" "Z"]
def wsX4_save_r2 : List Cond := [Cond.methodLink RX4 164 yX3_filledBuckets, Cond.instanceMethod yX3_filledBuckets, Cond.selects RX3 yX3_filledBuckets yX3_filledBuckets, Cond.code yX3_filledBuckets cX3_filledBuckets 6 (some .int), Cond.methodLink RX3 33 yX2_filledBuckets, Cond.instanceMethod yX2_filledBuckets, Cond.selects RX2 yX2_filledBuckets yX2_filledBuckets, Cond.code yX2_filledBuckets cX2_filledBuckets 3 (some .int), Cond.methodLink RX2 33 yX2_buckets, Cond.instanceMethod yX2_buckets, Cond.selects RX2 yX2_buckets yX2_buckets, Cond.code yX2_buckets cX2_buckets 1 (some .int), Cond.methodLink RX2 49 yX2_rankIn, Cond.instanceMethod yX2_rankIn, Cond.selects RX2 yX2_rankIn yX2_rankIn, Cond.code yX2_rankIn cX2_rankIn 2 (some .int), Cond.methodLink RX2 29 yX2_hasBucket, Cond.instanceMethod yX2_hasBucket, Cond.selects RX2 yX2_hasBucket yX2_hasBucket, Cond.code yX2_hasBucket cX2_hasBucket 2 (some .boolean)]
def wsX4_save : List Cond := .code yX4_save cX4_save 2 (some .int) :: ((wsX4_save_r1 ++ wsX4_save_r2) ++ wsX40 ++ wsX30 ++ wsX20)
def wsX4_restore_r1 : List Cond := [Cond.fieldLink RX4 27 "JoinedSketches" "saved" "[Z", Cond.fieldLink RX4 19 "JoinedSketches" "history" "LJoinedSketches$History;", Cond.fieldLink RX4 10 "JoinedSketches" "now" "LJoinedSketches$State;", Cond.fieldLink RX4 23 "JoinedSketches" "slots" "[LJoinedSketches$State;", Cond.methodLink RX4 46 yX0_record, Cond.instanceMethod yX0_record, Cond.selects RX0 yX0_record yX0_record, Cond.initialized RX0, Cond.code yX0_record cX0_record 2 none, Cond.fieldLink RX0 21 "JoinedSketches$History" "size" "I", Cond.fieldLink RX0 17 "JoinedSketches$History" "oldest" "I", Cond.fieldLink RX0 11 "JoinedSketches$History" "ring" "[LJoinedSketches$State;", Cond.methodLink RX0 25 yJ9_floorMod_7cf53, Cond.static yJ9_floorMod_7cf53, Cond.initialized RJ9, Cond.code yJ9_floorMod_7cf53 cJ9_floorMod_7cf53 3 (some .int), Cond.methodLink RX0 31 yX3_copyFrom, Cond.instanceMethod yX3_copyFrom, Cond.selects RX3 yX3_copyFrom yX3_copyFrom, Cond.initialized RX3, Cond.code yX3_copyFrom cX3_copyFrom 3 none, Cond.fieldLink RX3 9 "JoinedSketches$State" "salt" "I", Cond.fieldLink RX3 17 "JoinedSketches$State" "sketches" "[LJoinedSketches$Sketch;", Cond.methodLink RX3 29 yX2_copyFrom]
def wsX4_restore_r2 : List Cond := [Cond.instanceMethod yX2_copyFrom, Cond.selects RX2 yX2_copyFrom yX2_copyFrom, Cond.initialized RX2, Cond.code yX2_copyFrom cX2_copyFrom 2 none, Cond.fieldLink RX2 9 "JoinedSketches$Sketch" "bits" "I", Cond.fieldLink RX2 15 "JoinedSketches$Sketch" "ranks" "[I", Cond.methodLink RX2 84 arraycopyName, Cond.native arraycopyName, Cond.static arraycopyName, Cond.initialized "java/lang/System", Cond.fieldLink RX2 19 "JoinedSketches$Sketch" "things" "[I", Cond.fieldLink RX2 22 "JoinedSketches$Sketch" "listLength" "I", Cond.fieldLink RX2 25 "JoinedSketches$Sketch" "full" "Z", Cond.methodLink RX4 222 yX3_copyFrom, Cond.methodLink RX4 164 yX3_filledBuckets, Cond.instanceMethod yX3_filledBuckets, Cond.selects RX3 yX3_filledBuckets yX3_filledBuckets, Cond.code yX3_filledBuckets cX3_filledBuckets 6 (some .int), Cond.methodLink RX3 33 yX2_filledBuckets, Cond.instanceMethod yX2_filledBuckets, Cond.selects RX2 yX2_filledBuckets yX2_filledBuckets, Cond.code yX2_filledBuckets cX2_filledBuckets 3 (some .int), Cond.methodLink RX2 33 yX2_buckets, Cond.instanceMethod yX2_buckets]
def wsX4_restore_r3 : List Cond := [Cond.selects RX2 yX2_buckets yX2_buckets, Cond.code yX2_buckets cX2_buckets 1 (some .int), Cond.methodLink RX2 49 yX2_rankIn, Cond.instanceMethod yX2_rankIn, Cond.selects RX2 yX2_rankIn yX2_rankIn, Cond.code yX2_rankIn cX2_rankIn 2 (some .int), Cond.methodLink RX2 29 yX2_hasBucket, Cond.instanceMethod yX2_hasBucket, Cond.selects RX2 yX2_hasBucket yX2_hasBucket, Cond.code yX2_hasBucket cX2_hasBucket 2 (some .boolean)]
def wsX4_restore : List Cond := .code yX4_restore cX4_restore 2 (some .int) :: ((wsX4_restore_r1 ++ (wsX4_restore_r2 ++ wsX4_restore_r3)) ++ wsX40 ++ wsX00 ++ wsX30 ++ wsX20)
def wsX5_setPart : List Cond := .code yX5_setPart cX5_setPart 4 none :: ([.fieldLink RX5 7 "JoinedSketchesModel" "state" "[I"] ++ wsX50)
def wsX5_init : List Cond := .code yX5_init cX5_init 2 none :: ([.methodLink RX5 1 objectInit, .instanceMethod objectInit, .code objectInit ⟨#[0xb1]⟩ 1 none, .arrayClass .int, .fieldLink RX5 7 "JoinedSketchesModel" "state" "[I", .fieldLink RX5 13 "JoinedSketchesModel" "history" "[I", .fieldLink RX5 16 "JoinedSketchesModel" "slots" "[I", .fieldLink RX5 19 "JoinedSketchesModel" "isSaved" "[I", .fieldLink RX5 22 "JoinedSketchesModel" "pad" "[I", .fieldLink RX5 25 "JoinedSketchesModel" "ranks" "[I", .fieldLink RX5 28 "JoinedSketchesModel" "numbers" "[I", .methodLink RX5 31 yX5_setPart, .instanceMethod yX5_setPart, .selects RX5 yX5_setPart yX5_setPart, .initialized RX5, .code yX5_setPart cX5_setPart 4 none] ++ wsX50)
def wsX5_moves : List Cond := .code yX5_moves cX5_moves 5 none :: ([])
def wsX5_within : List Cond := .code yX5_within cX5_within 3 (some .boolean) :: ([])
def wsX5_record : List Cond := .code yX5_record cX5_record 2 none :: ([.fieldLink RX5 35 "JoinedSketchesModel" "recorded" "I", .fieldLink RX5 13 "JoinedSketchesModel" "history" "[I", .fieldLink RX5 7 "JoinedSketchesModel" "state" "[I", .methodLink RX5 39 yX5_moves, .static yX5_moves, .initialized RX5, .code yX5_moves cX5_moves 5 none] ++ wsX50)
def wsX5_isSketch : List Cond := .code yX5_isSketch cX5_isSketch 1 (some .boolean) :: ([.methodLink RX5 43 yX5_within, .static yX5_within, .initialized RX5, .code yX5_within cX5_within 3 (some .boolean)])
def wsX5_isThing : List Cond := .code yX5_isThing cX5_isThing 1 (some .boolean) :: ([.constant RX5 47 (99999), .methodLink RX5 43 yX5_within, .static yX5_within, .initialized RX5, .code yX5_within cX5_within 3 (some .boolean)])
def wsX5_part : List Cond := .code yX5_part cX5_part 3 (some .int) :: ([.fieldLink RX5 7 "JoinedSketchesModel" "state" "[I"] ++ wsX50)
def wsX5_bucketsOf : List Cond := .code yX5_bucketsOf cX5_bucketsOf 2 (some .int) :: ([.methodLink RX5 48 yX5_part, .instanceMethod yX5_part, .selects RX5 yX5_part yX5_part, .initialized RX5, .code yX5_part cX5_part 3 (some .int), .fieldLink RX5 7 "JoinedSketchesModel" "state" "[I"] ++ wsX50)
def wsX5_hashOf : List Cond := .code yX5_hashOf cX5_hashOf 3 (some .int) :: ([.constantLong RX5 52 (40503), .constantLong RX5 54 (65536)])
def wsX5_rankOf : List Cond := .code yX5_rankOf cX5_rankOf 4 (some .int) :: ([])
def wsX5_bucketOf : List Cond := .code yX5_bucketOf cX5_bucketOf 3 (some .int) :: ([.fieldLink RX5 7 "JoinedSketchesModel" "state" "[I", .methodLink RX5 56 yX5_hashOf, .static yX5_hashOf, .initialized RX5, .code yX5_hashOf cX5_hashOf 3 (some .int), .constantLong RX5 52 (40503), .constantLong RX5 54 (65536), .methodLink RX5 59 yX5_bucketsOf, .instanceMethod yX5_bucketsOf, .selects RX5 yX5_bucketsOf yX5_bucketsOf, .code yX5_bucketsOf cX5_bucketsOf 2 (some .int), .methodLink RX5 48 yX5_part, .instanceMethod yX5_part, .selects RX5 yX5_part yX5_part, .code yX5_part cX5_part 3 (some .int)] ++ wsX50)
def wsX5_rankIn : List Cond := .code yX5_rankIn cX5_rankIn 3 (some .int) :: ([.fieldLink RX5 7 "JoinedSketchesModel" "state" "[I", .methodLink RX5 56 yX5_hashOf, .static yX5_hashOf, .initialized RX5, .code yX5_hashOf cX5_hashOf 3 (some .int), .constantLong RX5 52 (40503), .constantLong RX5 54 (65536), .methodLink RX5 48 yX5_part, .instanceMethod yX5_part, .selects RX5 yX5_part yX5_part, .code yX5_part cX5_part 3 (some .int), .methodLink RX5 63 yX5_rankOf, .static yX5_rankOf, .code yX5_rankOf cX5_rankOf 4 (some .int)] ++ wsX50)
def wsX5_wouldChange_r1 : List Cond := [Cond.methodLink RX5 66 yX5_rankIn, Cond.instanceMethod yX5_rankIn, Cond.selects RX5 yX5_rankIn yX5_rankIn, Cond.initialized RX5, Cond.code yX5_rankIn cX5_rankIn 3 (some .int), Cond.fieldLink RX5 7 "JoinedSketchesModel" "state" "[I", Cond.methodLink RX5 56 yX5_hashOf, Cond.static yX5_hashOf, Cond.code yX5_hashOf cX5_hashOf 3 (some .int), Cond.constantLong RX5 52 (40503), Cond.constantLong RX5 54 (65536), Cond.methodLink RX5 48 yX5_part, Cond.instanceMethod yX5_part, Cond.selects RX5 yX5_part yX5_part, Cond.code yX5_part cX5_part 3 (some .int), Cond.methodLink RX5 63 yX5_rankOf, Cond.static yX5_rankOf, Cond.code yX5_rankOf cX5_rankOf 4 (some .int), Cond.methodLink RX5 69 yX5_bucketOf, Cond.instanceMethod yX5_bucketOf, Cond.selects RX5 yX5_bucketOf yX5_bucketOf, Cond.code yX5_bucketOf cX5_bucketOf 3 (some .int), Cond.methodLink RX5 59 yX5_bucketsOf, Cond.instanceMethod yX5_bucketsOf]
def wsX5_wouldChange_r2 : List Cond := [Cond.selects RX5 yX5_bucketsOf yX5_bucketsOf, Cond.code yX5_bucketsOf cX5_bucketsOf 2 (some .int)]
def wsX5_wouldChange : List Cond := .code yX5_wouldChange cX5_wouldChange 3 (some .boolean) :: ((wsX5_wouldChange_r1 ++ wsX5_wouldChange_r2) ++ wsX50)
def wsX5_filled : List Cond := .code yX5_filled cX5_filled 4 (some .int) :: ([.methodLink RX5 59 yX5_bucketsOf, .instanceMethod yX5_bucketsOf, .selects RX5 yX5_bucketsOf yX5_bucketsOf, .initialized RX5, .code yX5_bucketsOf cX5_bucketsOf 2 (some .int), .methodLink RX5 48 yX5_part, .instanceMethod yX5_part, .selects RX5 yX5_part yX5_part, .code yX5_part cX5_part 3 (some .int), .fieldLink RX5 7 "JoinedSketchesModel" "state" "[I"] ++ wsX50)
def wsX5_allFilled : List Cond := .code yX5_allFilled cX5_allFilled 3 (some .int) :: ([.methodLink RX5 72 yX5_filled, .instanceMethod yX5_filled, .selects RX5 yX5_filled yX5_filled, .initialized RX5, .code yX5_filled cX5_filled 4 (some .int), .methodLink RX5 59 yX5_bucketsOf, .instanceMethod yX5_bucketsOf, .selects RX5 yX5_bucketsOf yX5_bucketsOf, .code yX5_bucketsOf cX5_bucketsOf 2 (some .int), .methodLink RX5 48 yX5_part, .instanceMethod yX5_part, .selects RX5 yX5_part yX5_part, .code yX5_part cX5_part 3 (some .int), .fieldLink RX5 7 "JoinedSketchesModel" "state" "[I"] ++ wsX50)
def wsX5_takeRanks : List Cond := .code yX5_takeRanks cX5_takeRanks 3 none :: ([.fieldLink RX5 25 "JoinedSketchesModel" "ranks" "[I", .methodLink RX5 48 yX5_part, .instanceMethod yX5_part, .selects RX5 yX5_part yX5_part, .initialized RX5, .code yX5_part cX5_part 3 (some .int), .fieldLink RX5 7 "JoinedSketchesModel" "state" "[I"] ++ wsX50)
def wsX5_sumBy : List Cond := .code yX5_sumBy cX5_sumBy 4 (some .int) :: ([.constant RX5 75 (65536), .fieldLink RX5 25 "JoinedSketchesModel" "ranks" "[I"] ++ wsX50)
def wsX5_emptyBy : List Cond := .code yX5_emptyBy cX5_emptyBy 4 (some .int) :: ([.fieldLink RX5 25 "JoinedSketchesModel" "ranks" "[I"] ++ wsX50)
def wsX5_rawBy : List Cond := .code yX5_rawBy cX5_rawBy 2 (some .int) :: ([.constantLong RX5 54 (65536), .constantLong RX5 76 (7), .constantLong RX5 78 (10), .methodLink RX5 80 yX5_sumBy, .instanceMethod yX5_sumBy, .selects RX5 yX5_sumBy yX5_sumBy, .initialized RX5, .code yX5_sumBy cX5_sumBy 4 (some .int), .constant RX5 75 (65536), .fieldLink RX5 25 "JoinedSketchesModel" "ranks" "[I"] ++ wsX50)
def wsX5_estimateBy : List Cond := .code yX5_estimateBy cX5_estimateBy 6 (some .int) :: ([.methodLink RX5 83 yX5_rawBy, .instanceMethod yX5_rawBy, .selects RX5 yX5_rawBy yX5_rawBy, .initialized RX5, .code yX5_rawBy cX5_rawBy 2 (some .int), .constantLong RX5 54 (65536), .constantLong RX5 76 (7), .constantLong RX5 78 (10), .methodLink RX5 80 yX5_sumBy, .instanceMethod yX5_sumBy, .selects RX5 yX5_sumBy yX5_sumBy, .code yX5_sumBy cX5_sumBy 4 (some .int), .constant RX5 75 (65536), .fieldLink RX5 25 "JoinedSketchesModel" "ranks" "[I", .methodLink RX5 86 yX5_emptyBy, .instanceMethod yX5_emptyBy, .selects RX5 yX5_emptyBy yX5_emptyBy, .code yX5_emptyBy cX5_emptyBy 4 (some .int)] ++ wsX50)
def wsX5_estimateOf_r1 : List Cond := [Cond.methodLink RX5 89 yX5_takeRanks, Cond.instanceMethod yX5_takeRanks, Cond.selects RX5 yX5_takeRanks yX5_takeRanks, Cond.initialized RX5, Cond.code yX5_takeRanks cX5_takeRanks 3 none, Cond.fieldLink RX5 25 "JoinedSketchesModel" "ranks" "[I", Cond.methodLink RX5 48 yX5_part, Cond.instanceMethod yX5_part, Cond.selects RX5 yX5_part yX5_part, Cond.code yX5_part cX5_part 3 (some .int), Cond.fieldLink RX5 7 "JoinedSketchesModel" "state" "[I", Cond.methodLink RX5 59 yX5_bucketsOf, Cond.instanceMethod yX5_bucketsOf, Cond.selects RX5 yX5_bucketsOf yX5_bucketsOf, Cond.code yX5_bucketsOf cX5_bucketsOf 2 (some .int), Cond.methodLink RX5 93 yX5_estimateBy, Cond.instanceMethod yX5_estimateBy, Cond.selects RX5 yX5_estimateBy yX5_estimateBy, Cond.code yX5_estimateBy cX5_estimateBy 6 (some .int), Cond.methodLink RX5 83 yX5_rawBy, Cond.instanceMethod yX5_rawBy, Cond.selects RX5 yX5_rawBy yX5_rawBy, Cond.code yX5_rawBy cX5_rawBy 2 (some .int), Cond.constantLong RX5 54 (65536)]
def wsX5_estimateOf_r2 : List Cond := [Cond.constantLong RX5 76 (7), Cond.constantLong RX5 78 (10), Cond.methodLink RX5 80 yX5_sumBy, Cond.instanceMethod yX5_sumBy, Cond.selects RX5 yX5_sumBy yX5_sumBy, Cond.code yX5_sumBy cX5_sumBy 4 (some .int), Cond.constant RX5 75 (65536), Cond.methodLink RX5 86 yX5_emptyBy, Cond.instanceMethod yX5_emptyBy, Cond.selects RX5 yX5_emptyBy yX5_emptyBy, Cond.code yX5_emptyBy cX5_emptyBy 4 (some .int)]
def wsX5_estimateOf : List Cond := .code yX5_estimateOf cX5_estimateOf 2 (some .int) :: ((wsX5_estimateOf_r1 ++ wsX5_estimateOf_r2) ++ wsX50)
def wsX5_errorOf_r1 : List Cond := [Cond.methodLink RX5 59 yX5_bucketsOf, Cond.instanceMethod yX5_bucketsOf, Cond.selects RX5 yX5_bucketsOf yX5_bucketsOf, Cond.initialized RX5, Cond.code yX5_bucketsOf cX5_bucketsOf 2 (some .int), Cond.methodLink RX5 48 yX5_part, Cond.instanceMethod yX5_part, Cond.selects RX5 yX5_part yX5_part, Cond.code yX5_part cX5_part 3 (some .int), Cond.fieldLink RX5 7 "JoinedSketchesModel" "state" "[I", Cond.methodLink RX5 96 yX5_estimateOf, Cond.instanceMethod yX5_estimateOf, Cond.selects RX5 yX5_estimateOf yX5_estimateOf, Cond.code yX5_estimateOf cX5_estimateOf 2 (some .int), Cond.methodLink RX5 89 yX5_takeRanks, Cond.instanceMethod yX5_takeRanks, Cond.selects RX5 yX5_takeRanks yX5_takeRanks, Cond.code yX5_takeRanks cX5_takeRanks 3 none, Cond.fieldLink RX5 25 "JoinedSketchesModel" "ranks" "[I", Cond.methodLink RX5 93 yX5_estimateBy, Cond.instanceMethod yX5_estimateBy, Cond.selects RX5 yX5_estimateBy yX5_estimateBy, Cond.code yX5_estimateBy cX5_estimateBy 6 (some .int), Cond.methodLink RX5 83 yX5_rawBy]
def wsX5_errorOf_r2 : List Cond := [Cond.instanceMethod yX5_rawBy, Cond.selects RX5 yX5_rawBy yX5_rawBy, Cond.code yX5_rawBy cX5_rawBy 2 (some .int), Cond.constantLong RX5 54 (65536), Cond.constantLong RX5 76 (7), Cond.constantLong RX5 78 (10), Cond.methodLink RX5 80 yX5_sumBy, Cond.instanceMethod yX5_sumBy, Cond.selects RX5 yX5_sumBy yX5_sumBy, Cond.code yX5_sumBy cX5_sumBy 4 (some .int), Cond.constant RX5 75 (65536), Cond.methodLink RX5 86 yX5_emptyBy, Cond.instanceMethod yX5_emptyBy, Cond.selects RX5 yX5_emptyBy yX5_emptyBy, Cond.code yX5_emptyBy cX5_emptyBy 4 (some .int)]
def wsX5_errorOf : List Cond := .code yX5_errorOf cX5_errorOf 3 (some .int) :: ((wsX5_errorOf_r1 ++ wsX5_errorOf_r2) ++ wsX50)
def wsX5_isFull : List Cond := .code yX5_isFull cX5_isFull 2 (some .boolean) :: ([.methodLink RX5 48 yX5_part, .instanceMethod yX5_part, .selects RX5 yX5_part yX5_part, .initialized RX5, .code yX5_part cX5_part 3 (some .int), .fieldLink RX5 7 "JoinedSketchesModel" "state" "[I"] ++ wsX50)
def wsX5_isListed : List Cond := .code yX5_isListed cX5_isListed 5 (some .boolean) :: ([.methodLink RX5 48 yX5_part, .instanceMethod yX5_part, .selects RX5 yX5_part yX5_part, .initialized RX5, .code yX5_part cX5_part 3 (some .int), .fieldLink RX5 7 "JoinedSketchesModel" "state" "[I"] ++ wsX50)
def wsX5_becomesFull : List Cond := .code yX5_becomesFull cX5_becomesFull 3 none :: ([.methodLink RX5 31 yX5_setPart, .instanceMethod yX5_setPart, .selects RX5 yX5_setPart yX5_setPart, .initialized RX5, .code yX5_setPart cX5_setPart 4 none, .fieldLink RX5 7 "JoinedSketchesModel" "state" "[I"] ++ wsX50)
def wsX5_lists : List Cond := .code yX5_lists cX5_lists 4 none :: ([.methodLink RX5 99 yX5_isFull, .instanceMethod yX5_isFull, .selects RX5 yX5_isFull yX5_isFull, .initialized RX5, .code yX5_isFull cX5_isFull 2 (some .boolean), .methodLink RX5 48 yX5_part, .instanceMethod yX5_part, .selects RX5 yX5_part yX5_part, .code yX5_part cX5_part 3 (some .int), .fieldLink RX5 7 "JoinedSketchesModel" "state" "[I", .methodLink RX5 103 yX5_isListed, .instanceMethod yX5_isListed, .selects RX5 yX5_isListed yX5_isListed, .code yX5_isListed cX5_isListed 5 (some .boolean), .methodLink RX5 107 yX5_becomesFull, .instanceMethod yX5_becomesFull, .selects RX5 yX5_becomesFull yX5_becomesFull, .code yX5_becomesFull cX5_becomesFull 3 none, .methodLink RX5 31 yX5_setPart, .instanceMethod yX5_setPart, .selects RX5 yX5_setPart yX5_setPart, .code yX5_setPart cX5_setPart 4 none] ++ wsX50)
def wsX5_empties : List Cond := .code yX5_empties cX5_empties 4 (some .int) :: ([.methodLink RX5 72 yX5_filled, .instanceMethod yX5_filled, .selects RX5 yX5_filled yX5_filled, .initialized RX5, .code yX5_filled cX5_filled 4 (some .int), .methodLink RX5 59 yX5_bucketsOf, .instanceMethod yX5_bucketsOf, .selects RX5 yX5_bucketsOf yX5_bucketsOf, .code yX5_bucketsOf cX5_bucketsOf 2 (some .int), .methodLink RX5 48 yX5_part, .instanceMethod yX5_part, .selects RX5 yX5_part yX5_part, .code yX5_part cX5_part 3 (some .int), .fieldLink RX5 7 "JoinedSketchesModel" "state" "[I", .methodLink RX5 31 yX5_setPart, .instanceMethod yX5_setPart, .selects RX5 yX5_setPart yX5_setPart, .code yX5_setPart cX5_setPart 4 none] ++ wsX50)
def wsX5_adds_r1 : List Cond := [Cond.methodLink RX5 110 yX5_wouldChange, Cond.instanceMethod yX5_wouldChange, Cond.selects RX5 yX5_wouldChange yX5_wouldChange, Cond.initialized RX5, Cond.code yX5_wouldChange cX5_wouldChange 3 (some .boolean), Cond.methodLink RX5 66 yX5_rankIn, Cond.instanceMethod yX5_rankIn, Cond.selects RX5 yX5_rankIn yX5_rankIn, Cond.code yX5_rankIn cX5_rankIn 3 (some .int), Cond.fieldLink RX5 7 "JoinedSketchesModel" "state" "[I", Cond.methodLink RX5 56 yX5_hashOf, Cond.static yX5_hashOf, Cond.code yX5_hashOf cX5_hashOf 3 (some .int), Cond.constantLong RX5 52 (40503), Cond.constantLong RX5 54 (65536), Cond.methodLink RX5 48 yX5_part, Cond.instanceMethod yX5_part, Cond.selects RX5 yX5_part yX5_part, Cond.code yX5_part cX5_part 3 (some .int), Cond.methodLink RX5 63 yX5_rankOf, Cond.static yX5_rankOf, Cond.code yX5_rankOf cX5_rankOf 4 (some .int), Cond.methodLink RX5 69 yX5_bucketOf, Cond.instanceMethod yX5_bucketOf]
def wsX5_adds_r2 : List Cond := [Cond.selects RX5 yX5_bucketOf yX5_bucketOf, Cond.code yX5_bucketOf cX5_bucketOf 3 (some .int), Cond.methodLink RX5 59 yX5_bucketsOf, Cond.instanceMethod yX5_bucketsOf, Cond.selects RX5 yX5_bucketsOf yX5_bucketsOf, Cond.code yX5_bucketsOf cX5_bucketsOf 2 (some .int), Cond.methodLink RX5 31 yX5_setPart, Cond.instanceMethod yX5_setPart, Cond.selects RX5 yX5_setPart yX5_setPart, Cond.code yX5_setPart cX5_setPart 4 none, Cond.methodLink RX5 113 yX5_lists, Cond.instanceMethod yX5_lists, Cond.selects RX5 yX5_lists yX5_lists, Cond.code yX5_lists cX5_lists 4 none, Cond.methodLink RX5 99 yX5_isFull, Cond.instanceMethod yX5_isFull, Cond.selects RX5 yX5_isFull yX5_isFull, Cond.code yX5_isFull cX5_isFull 2 (some .boolean), Cond.methodLink RX5 103 yX5_isListed, Cond.instanceMethod yX5_isListed, Cond.selects RX5 yX5_isListed yX5_isListed, Cond.code yX5_isListed cX5_isListed 5 (some .boolean), Cond.methodLink RX5 107 yX5_becomesFull, Cond.instanceMethod yX5_becomesFull]
def wsX5_adds_r3 : List Cond := [Cond.selects RX5 yX5_becomesFull yX5_becomesFull, Cond.code yX5_becomesFull cX5_becomesFull 3 none]
def wsX5_adds : List Cond := .code yX5_adds cX5_adds 4 (some .int) :: ((wsX5_adds_r1 ++ (wsX5_adds_r2 ++ wsX5_adds_r3)) ++ wsX50)
def wsX5_salt_r1 : List Cond := [Cond.constant RX5 117 (65535), Cond.fieldLink RX5 7 "JoinedSketchesModel" "state" "[I", Cond.methodLink RX5 43 yX5_within, Cond.static yX5_within, Cond.initialized RX5, Cond.code yX5_within cX5_within 3 (some .boolean), Cond.methodLink RX5 118 yX5_record, Cond.instanceMethod yX5_record, Cond.selects RX5 yX5_record yX5_record, Cond.code yX5_record cX5_record 2 none, Cond.fieldLink RX5 35 "JoinedSketchesModel" "recorded" "I", Cond.fieldLink RX5 13 "JoinedSketchesModel" "history" "[I", Cond.methodLink RX5 39 yX5_moves, Cond.static yX5_moves, Cond.code yX5_moves cX5_moves 5 none, Cond.methodLink RX5 121 yX5_empties, Cond.instanceMethod yX5_empties, Cond.selects RX5 yX5_empties yX5_empties, Cond.code yX5_empties cX5_empties 4 (some .int), Cond.methodLink RX5 72 yX5_filled, Cond.instanceMethod yX5_filled, Cond.selects RX5 yX5_filled yX5_filled, Cond.code yX5_filled cX5_filled 4 (some .int), Cond.methodLink RX5 59 yX5_bucketsOf]
def wsX5_salt_r2 : List Cond := [Cond.instanceMethod yX5_bucketsOf, Cond.selects RX5 yX5_bucketsOf yX5_bucketsOf, Cond.code yX5_bucketsOf cX5_bucketsOf 2 (some .int), Cond.methodLink RX5 48 yX5_part, Cond.instanceMethod yX5_part, Cond.selects RX5 yX5_part yX5_part, Cond.code yX5_part cX5_part 3 (some .int), Cond.methodLink RX5 31 yX5_setPart, Cond.instanceMethod yX5_setPart, Cond.selects RX5 yX5_setPart yX5_setPart, Cond.code yX5_setPart cX5_setPart 4 none]
def wsX5_salt : List Cond := .code yX5_salt cX5_salt 4 (some .int) :: ((wsX5_salt_r1 ++ wsX5_salt_r2) ++ wsX50)
def wsX5_bits_r1 : List Cond := [Cond.methodLink RX5 124 yX5_isSketch, Cond.static yX5_isSketch, Cond.initialized RX5, Cond.code yX5_isSketch cX5_isSketch 1 (some .boolean), Cond.methodLink RX5 43 yX5_within, Cond.static yX5_within, Cond.code yX5_within cX5_within 3 (some .boolean), Cond.methodLink RX5 118 yX5_record, Cond.instanceMethod yX5_record, Cond.selects RX5 yX5_record yX5_record, Cond.code yX5_record cX5_record 2 none, Cond.fieldLink RX5 35 "JoinedSketchesModel" "recorded" "I", Cond.fieldLink RX5 13 "JoinedSketchesModel" "history" "[I", Cond.fieldLink RX5 7 "JoinedSketchesModel" "state" "[I", Cond.methodLink RX5 39 yX5_moves, Cond.static yX5_moves, Cond.code yX5_moves cX5_moves 5 none, Cond.methodLink RX5 48 yX5_part, Cond.instanceMethod yX5_part, Cond.selects RX5 yX5_part yX5_part, Cond.code yX5_part cX5_part 3 (some .int), Cond.methodLink RX5 121 yX5_empties, Cond.instanceMethod yX5_empties, Cond.selects RX5 yX5_empties yX5_empties]
def wsX5_bits_r2 : List Cond := [Cond.code yX5_empties cX5_empties 4 (some .int), Cond.methodLink RX5 72 yX5_filled, Cond.instanceMethod yX5_filled, Cond.selects RX5 yX5_filled yX5_filled, Cond.code yX5_filled cX5_filled 4 (some .int), Cond.methodLink RX5 59 yX5_bucketsOf, Cond.instanceMethod yX5_bucketsOf, Cond.selects RX5 yX5_bucketsOf yX5_bucketsOf, Cond.code yX5_bucketsOf cX5_bucketsOf 2 (some .int), Cond.methodLink RX5 31 yX5_setPart, Cond.instanceMethod yX5_setPart, Cond.selects RX5 yX5_setPart yX5_setPart, Cond.code yX5_setPart cX5_setPart 4 none]
def wsX5_bits : List Cond := .code yX5_bits cX5_bits 4 (some .int) :: ((wsX5_bits_r1 ++ wsX5_bits_r2) ++ wsX50)
def wsX5_add_r1 : List Cond := [Cond.methodLink RX5 124 yX5_isSketch, Cond.static yX5_isSketch, Cond.initialized RX5, Cond.code yX5_isSketch cX5_isSketch 1 (some .boolean), Cond.methodLink RX5 43 yX5_within, Cond.static yX5_within, Cond.code yX5_within cX5_within 3 (some .boolean), Cond.methodLink RX5 127 yX5_isThing, Cond.static yX5_isThing, Cond.code yX5_isThing cX5_isThing 1 (some .boolean), Cond.constant RX5 47 (99999), Cond.methodLink RX5 118 yX5_record, Cond.instanceMethod yX5_record, Cond.selects RX5 yX5_record yX5_record, Cond.code yX5_record cX5_record 2 none, Cond.fieldLink RX5 35 "JoinedSketchesModel" "recorded" "I", Cond.fieldLink RX5 13 "JoinedSketchesModel" "history" "[I", Cond.fieldLink RX5 7 "JoinedSketchesModel" "state" "[I", Cond.methodLink RX5 39 yX5_moves, Cond.static yX5_moves, Cond.code yX5_moves cX5_moves 5 none, Cond.methodLink RX5 130 yX5_adds, Cond.instanceMethod yX5_adds, Cond.selects RX5 yX5_adds yX5_adds]
def wsX5_add_r2 : List Cond := [Cond.code yX5_adds cX5_adds 4 (some .int), Cond.methodLink RX5 110 yX5_wouldChange, Cond.instanceMethod yX5_wouldChange, Cond.selects RX5 yX5_wouldChange yX5_wouldChange, Cond.code yX5_wouldChange cX5_wouldChange 3 (some .boolean), Cond.methodLink RX5 66 yX5_rankIn, Cond.instanceMethod yX5_rankIn, Cond.selects RX5 yX5_rankIn yX5_rankIn, Cond.code yX5_rankIn cX5_rankIn 3 (some .int), Cond.methodLink RX5 56 yX5_hashOf, Cond.static yX5_hashOf, Cond.code yX5_hashOf cX5_hashOf 3 (some .int), Cond.constantLong RX5 52 (40503), Cond.constantLong RX5 54 (65536), Cond.methodLink RX5 48 yX5_part, Cond.instanceMethod yX5_part, Cond.selects RX5 yX5_part yX5_part, Cond.code yX5_part cX5_part 3 (some .int), Cond.methodLink RX5 63 yX5_rankOf, Cond.static yX5_rankOf, Cond.code yX5_rankOf cX5_rankOf 4 (some .int), Cond.methodLink RX5 69 yX5_bucketOf, Cond.instanceMethod yX5_bucketOf, Cond.selects RX5 yX5_bucketOf yX5_bucketOf]
def wsX5_add_r3 : List Cond := [Cond.code yX5_bucketOf cX5_bucketOf 3 (some .int), Cond.methodLink RX5 59 yX5_bucketsOf, Cond.instanceMethod yX5_bucketsOf, Cond.selects RX5 yX5_bucketsOf yX5_bucketsOf, Cond.code yX5_bucketsOf cX5_bucketsOf 2 (some .int), Cond.methodLink RX5 31 yX5_setPart, Cond.instanceMethod yX5_setPart, Cond.selects RX5 yX5_setPart yX5_setPart, Cond.code yX5_setPart cX5_setPart 4 none, Cond.methodLink RX5 113 yX5_lists, Cond.instanceMethod yX5_lists, Cond.selects RX5 yX5_lists yX5_lists, Cond.code yX5_lists cX5_lists 4 none, Cond.methodLink RX5 99 yX5_isFull, Cond.instanceMethod yX5_isFull, Cond.selects RX5 yX5_isFull yX5_isFull, Cond.code yX5_isFull cX5_isFull 2 (some .boolean), Cond.methodLink RX5 103 yX5_isListed, Cond.instanceMethod yX5_isListed, Cond.selects RX5 yX5_isListed yX5_isListed, Cond.code yX5_isListed cX5_isListed 5 (some .boolean), Cond.methodLink RX5 107 yX5_becomesFull, Cond.instanceMethod yX5_becomesFull, Cond.selects RX5 yX5_becomesFull yX5_becomesFull]
def wsX5_add_r4 : List Cond := [Cond.code yX5_becomesFull cX5_becomesFull 3 none]
def wsX5_add : List Cond := .code yX5_add cX5_add 3 (some .int) :: ((wsX5_add_r1 ++ (wsX5_add_r2 ++ (wsX5_add_r3 ++ wsX5_add_r4))) ++ wsX50)
def wsX5_isRange : List Cond := .code yX5_isRange cX5_isRange 2 (some .boolean) :: ([.constant RX5 133 (100000), .methodLink RX5 127 yX5_isThing, .static yX5_isThing, .initialized RX5, .code yX5_isThing cX5_isThing 1 (some .boolean), .constant RX5 47 (99999), .methodLink RX5 43 yX5_within, .static yX5_within, .code yX5_within cX5_within 3 (some .boolean)])
def wsX5_addsRange_r1 : List Cond := [Cond.methodLink RX5 130 yX5_adds, Cond.instanceMethod yX5_adds, Cond.selects RX5 yX5_adds yX5_adds, Cond.initialized RX5, Cond.code yX5_adds cX5_adds 4 (some .int), Cond.methodLink RX5 110 yX5_wouldChange, Cond.instanceMethod yX5_wouldChange, Cond.selects RX5 yX5_wouldChange yX5_wouldChange, Cond.code yX5_wouldChange cX5_wouldChange 3 (some .boolean), Cond.methodLink RX5 66 yX5_rankIn, Cond.instanceMethod yX5_rankIn, Cond.selects RX5 yX5_rankIn yX5_rankIn, Cond.code yX5_rankIn cX5_rankIn 3 (some .int), Cond.fieldLink RX5 7 "JoinedSketchesModel" "state" "[I", Cond.methodLink RX5 56 yX5_hashOf, Cond.static yX5_hashOf, Cond.code yX5_hashOf cX5_hashOf 3 (some .int), Cond.constantLong RX5 52 (40503), Cond.constantLong RX5 54 (65536), Cond.methodLink RX5 48 yX5_part, Cond.instanceMethod yX5_part, Cond.selects RX5 yX5_part yX5_part, Cond.code yX5_part cX5_part 3 (some .int), Cond.methodLink RX5 63 yX5_rankOf]
def wsX5_addsRange_r2 : List Cond := [Cond.static yX5_rankOf, Cond.code yX5_rankOf cX5_rankOf 4 (some .int), Cond.methodLink RX5 69 yX5_bucketOf, Cond.instanceMethod yX5_bucketOf, Cond.selects RX5 yX5_bucketOf yX5_bucketOf, Cond.code yX5_bucketOf cX5_bucketOf 3 (some .int), Cond.methodLink RX5 59 yX5_bucketsOf, Cond.instanceMethod yX5_bucketsOf, Cond.selects RX5 yX5_bucketsOf yX5_bucketsOf, Cond.code yX5_bucketsOf cX5_bucketsOf 2 (some .int), Cond.methodLink RX5 31 yX5_setPart, Cond.instanceMethod yX5_setPart, Cond.selects RX5 yX5_setPart yX5_setPart, Cond.code yX5_setPart cX5_setPart 4 none, Cond.methodLink RX5 113 yX5_lists, Cond.instanceMethod yX5_lists, Cond.selects RX5 yX5_lists yX5_lists, Cond.code yX5_lists cX5_lists 4 none, Cond.methodLink RX5 99 yX5_isFull, Cond.instanceMethod yX5_isFull, Cond.selects RX5 yX5_isFull yX5_isFull, Cond.code yX5_isFull cX5_isFull 2 (some .boolean), Cond.methodLink RX5 103 yX5_isListed, Cond.instanceMethod yX5_isListed]
def wsX5_addsRange_r3 : List Cond := [Cond.selects RX5 yX5_isListed yX5_isListed, Cond.code yX5_isListed cX5_isListed 5 (some .boolean), Cond.methodLink RX5 107 yX5_becomesFull, Cond.instanceMethod yX5_becomesFull, Cond.selects RX5 yX5_becomesFull yX5_becomesFull, Cond.code yX5_becomesFull cX5_becomesFull 3 none]
def wsX5_addsRange : List Cond := .code yX5_addsRange cX5_addsRange 6 (some .int) :: ((wsX5_addsRange_r1 ++ (wsX5_addsRange_r2 ++ wsX5_addsRange_r3)) ++ wsX50)
def wsX5_addRange_r1 : List Cond := [Cond.methodLink RX5 124 yX5_isSketch, Cond.static yX5_isSketch, Cond.initialized RX5, Cond.code yX5_isSketch cX5_isSketch 1 (some .boolean), Cond.methodLink RX5 43 yX5_within, Cond.static yX5_within, Cond.code yX5_within cX5_within 3 (some .boolean), Cond.methodLink RX5 134 yX5_isRange, Cond.static yX5_isRange, Cond.code yX5_isRange cX5_isRange 2 (some .boolean), Cond.constant RX5 133 (100000), Cond.methodLink RX5 127 yX5_isThing, Cond.static yX5_isThing, Cond.code yX5_isThing cX5_isThing 1 (some .boolean), Cond.constant RX5 47 (99999), Cond.methodLink RX5 118 yX5_record, Cond.instanceMethod yX5_record, Cond.selects RX5 yX5_record yX5_record, Cond.code yX5_record cX5_record 2 none, Cond.fieldLink RX5 35 "JoinedSketchesModel" "recorded" "I", Cond.fieldLink RX5 13 "JoinedSketchesModel" "history" "[I", Cond.fieldLink RX5 7 "JoinedSketchesModel" "state" "[I", Cond.methodLink RX5 39 yX5_moves, Cond.static yX5_moves]
def wsX5_addRange_r2 : List Cond := [Cond.code yX5_moves cX5_moves 5 none, Cond.methodLink RX5 137 yX5_addsRange, Cond.instanceMethod yX5_addsRange, Cond.selects RX5 yX5_addsRange yX5_addsRange, Cond.code yX5_addsRange cX5_addsRange 6 (some .int), Cond.methodLink RX5 130 yX5_adds, Cond.instanceMethod yX5_adds, Cond.selects RX5 yX5_adds yX5_adds, Cond.code yX5_adds cX5_adds 4 (some .int), Cond.methodLink RX5 110 yX5_wouldChange, Cond.instanceMethod yX5_wouldChange, Cond.selects RX5 yX5_wouldChange yX5_wouldChange, Cond.code yX5_wouldChange cX5_wouldChange 3 (some .boolean), Cond.methodLink RX5 66 yX5_rankIn, Cond.instanceMethod yX5_rankIn, Cond.selects RX5 yX5_rankIn yX5_rankIn, Cond.code yX5_rankIn cX5_rankIn 3 (some .int), Cond.methodLink RX5 56 yX5_hashOf, Cond.static yX5_hashOf, Cond.code yX5_hashOf cX5_hashOf 3 (some .int), Cond.constantLong RX5 52 (40503), Cond.constantLong RX5 54 (65536), Cond.methodLink RX5 48 yX5_part, Cond.instanceMethod yX5_part]
def wsX5_addRange_r3 : List Cond := [Cond.selects RX5 yX5_part yX5_part, Cond.code yX5_part cX5_part 3 (some .int), Cond.methodLink RX5 63 yX5_rankOf, Cond.static yX5_rankOf, Cond.code yX5_rankOf cX5_rankOf 4 (some .int), Cond.methodLink RX5 69 yX5_bucketOf, Cond.instanceMethod yX5_bucketOf, Cond.selects RX5 yX5_bucketOf yX5_bucketOf, Cond.code yX5_bucketOf cX5_bucketOf 3 (some .int), Cond.methodLink RX5 59 yX5_bucketsOf, Cond.instanceMethod yX5_bucketsOf, Cond.selects RX5 yX5_bucketsOf yX5_bucketsOf, Cond.code yX5_bucketsOf cX5_bucketsOf 2 (some .int), Cond.methodLink RX5 31 yX5_setPart, Cond.instanceMethod yX5_setPart, Cond.selects RX5 yX5_setPart yX5_setPart, Cond.code yX5_setPart cX5_setPart 4 none, Cond.methodLink RX5 113 yX5_lists, Cond.instanceMethod yX5_lists, Cond.selects RX5 yX5_lists yX5_lists, Cond.code yX5_lists cX5_lists 4 none, Cond.methodLink RX5 99 yX5_isFull, Cond.instanceMethod yX5_isFull, Cond.selects RX5 yX5_isFull yX5_isFull]
def wsX5_addRange_r4 : List Cond := [Cond.code yX5_isFull cX5_isFull 2 (some .boolean), Cond.methodLink RX5 103 yX5_isListed, Cond.instanceMethod yX5_isListed, Cond.selects RX5 yX5_isListed yX5_isListed, Cond.code yX5_isListed cX5_isListed 5 (some .boolean), Cond.methodLink RX5 107 yX5_becomesFull, Cond.instanceMethod yX5_becomesFull, Cond.selects RX5 yX5_becomesFull yX5_becomesFull, Cond.code yX5_becomesFull cX5_becomesFull 3 none]
def wsX5_addRange : List Cond := .code yX5_addRange cX5_addRange 4 (some .int) :: ((wsX5_addRange_r1 ++ (wsX5_addRange_r2 ++ (wsX5_addRange_r3 ++ wsX5_addRange_r4))) ++ wsX50)
def wsX5_whyNotJoined : List Cond := .code yX5_whyNotJoined cX5_whyNotJoined 3 (some .int) :: ([.methodLink RX5 124 yX5_isSketch, .static yX5_isSketch, .initialized RX5, .code yX5_isSketch cX5_isSketch 1 (some .boolean), .methodLink RX5 43 yX5_within, .static yX5_within, .code yX5_within cX5_within 3 (some .boolean), .methodLink RX5 48 yX5_part, .instanceMethod yX5_part, .selects RX5 yX5_part yX5_part, .code yX5_part cX5_part 3 (some .int), .fieldLink RX5 7 "JoinedSketchesModel" "state" "[I"] ++ wsX50)
def wsX5_joins_r1 : List Cond := [Cond.methodLink RX5 59 yX5_bucketsOf, Cond.instanceMethod yX5_bucketsOf, Cond.selects RX5 yX5_bucketsOf yX5_bucketsOf, Cond.initialized RX5, Cond.code yX5_bucketsOf cX5_bucketsOf 2 (some .int), Cond.methodLink RX5 48 yX5_part, Cond.instanceMethod yX5_part, Cond.selects RX5 yX5_part yX5_part, Cond.code yX5_part cX5_part 3 (some .int), Cond.fieldLink RX5 7 "JoinedSketchesModel" "state" "[I", Cond.methodLink RX5 31 yX5_setPart, Cond.instanceMethod yX5_setPart, Cond.selects RX5 yX5_setPart yX5_setPart, Cond.code yX5_setPart cX5_setPart 4 none, Cond.methodLink RX5 99 yX5_isFull, Cond.instanceMethod yX5_isFull, Cond.selects RX5 yX5_isFull yX5_isFull, Cond.code yX5_isFull cX5_isFull 2 (some .boolean), Cond.methodLink RX5 107 yX5_becomesFull, Cond.instanceMethod yX5_becomesFull, Cond.selects RX5 yX5_becomesFull yX5_becomesFull, Cond.code yX5_becomesFull cX5_becomesFull 3 none, Cond.methodLink RX5 113 yX5_lists, Cond.instanceMethod yX5_lists]
def wsX5_joins_r2 : List Cond := [Cond.selects RX5 yX5_lists yX5_lists, Cond.code yX5_lists cX5_lists 4 none, Cond.methodLink RX5 103 yX5_isListed, Cond.instanceMethod yX5_isListed, Cond.selects RX5 yX5_isListed yX5_isListed, Cond.code yX5_isListed cX5_isListed 5 (some .boolean), Cond.methodLink RX5 96 yX5_estimateOf, Cond.instanceMethod yX5_estimateOf, Cond.selects RX5 yX5_estimateOf yX5_estimateOf, Cond.code yX5_estimateOf cX5_estimateOf 2 (some .int), Cond.methodLink RX5 89 yX5_takeRanks, Cond.instanceMethod yX5_takeRanks, Cond.selects RX5 yX5_takeRanks yX5_takeRanks, Cond.code yX5_takeRanks cX5_takeRanks 3 none, Cond.fieldLink RX5 25 "JoinedSketchesModel" "ranks" "[I", Cond.methodLink RX5 93 yX5_estimateBy, Cond.instanceMethod yX5_estimateBy, Cond.selects RX5 yX5_estimateBy yX5_estimateBy, Cond.code yX5_estimateBy cX5_estimateBy 6 (some .int), Cond.methodLink RX5 83 yX5_rawBy, Cond.instanceMethod yX5_rawBy, Cond.selects RX5 yX5_rawBy yX5_rawBy, Cond.code yX5_rawBy cX5_rawBy 2 (some .int), Cond.constantLong RX5 54 (65536)]
def wsX5_joins_r3 : List Cond := [Cond.constantLong RX5 76 (7), Cond.constantLong RX5 78 (10), Cond.methodLink RX5 80 yX5_sumBy, Cond.instanceMethod yX5_sumBy, Cond.selects RX5 yX5_sumBy yX5_sumBy, Cond.code yX5_sumBy cX5_sumBy 4 (some .int), Cond.constant RX5 75 (65536), Cond.methodLink RX5 86 yX5_emptyBy, Cond.instanceMethod yX5_emptyBy, Cond.selects RX5 yX5_emptyBy yX5_emptyBy, Cond.code yX5_emptyBy cX5_emptyBy 4 (some .int)]
def wsX5_joins : List Cond := .code yX5_joins cX5_joins 4 (some .int) :: ((wsX5_joins_r1 ++ (wsX5_joins_r2 ++ wsX5_joins_r3)) ++ wsX50)
def wsX5_join_r1 : List Cond := [Cond.methodLink RX5 141 yX5_whyNotJoined, Cond.instanceMethod yX5_whyNotJoined, Cond.selects RX5 yX5_whyNotJoined yX5_whyNotJoined, Cond.initialized RX5, Cond.code yX5_whyNotJoined cX5_whyNotJoined 3 (some .int), Cond.methodLink RX5 124 yX5_isSketch, Cond.static yX5_isSketch, Cond.code yX5_isSketch cX5_isSketch 1 (some .boolean), Cond.methodLink RX5 43 yX5_within, Cond.static yX5_within, Cond.code yX5_within cX5_within 3 (some .boolean), Cond.methodLink RX5 48 yX5_part, Cond.instanceMethod yX5_part, Cond.selects RX5 yX5_part yX5_part, Cond.code yX5_part cX5_part 3 (some .int), Cond.fieldLink RX5 7 "JoinedSketchesModel" "state" "[I", Cond.methodLink RX5 118 yX5_record, Cond.instanceMethod yX5_record, Cond.selects RX5 yX5_record yX5_record, Cond.code yX5_record cX5_record 2 none, Cond.fieldLink RX5 35 "JoinedSketchesModel" "recorded" "I", Cond.fieldLink RX5 13 "JoinedSketchesModel" "history" "[I", Cond.methodLink RX5 39 yX5_moves, Cond.static yX5_moves]
def wsX5_join_r2 : List Cond := [Cond.code yX5_moves cX5_moves 5 none, Cond.methodLink RX5 144 yX5_joins, Cond.instanceMethod yX5_joins, Cond.selects RX5 yX5_joins yX5_joins, Cond.code yX5_joins cX5_joins 4 (some .int), Cond.methodLink RX5 59 yX5_bucketsOf, Cond.instanceMethod yX5_bucketsOf, Cond.selects RX5 yX5_bucketsOf yX5_bucketsOf, Cond.code yX5_bucketsOf cX5_bucketsOf 2 (some .int), Cond.methodLink RX5 31 yX5_setPart, Cond.instanceMethod yX5_setPart, Cond.selects RX5 yX5_setPart yX5_setPart, Cond.code yX5_setPart cX5_setPart 4 none, Cond.methodLink RX5 99 yX5_isFull, Cond.instanceMethod yX5_isFull, Cond.selects RX5 yX5_isFull yX5_isFull, Cond.code yX5_isFull cX5_isFull 2 (some .boolean), Cond.methodLink RX5 107 yX5_becomesFull, Cond.instanceMethod yX5_becomesFull, Cond.selects RX5 yX5_becomesFull yX5_becomesFull, Cond.code yX5_becomesFull cX5_becomesFull 3 none, Cond.methodLink RX5 113 yX5_lists, Cond.instanceMethod yX5_lists, Cond.selects RX5 yX5_lists yX5_lists]
def wsX5_join_r3 : List Cond := [Cond.code yX5_lists cX5_lists 4 none, Cond.methodLink RX5 103 yX5_isListed, Cond.instanceMethod yX5_isListed, Cond.selects RX5 yX5_isListed yX5_isListed, Cond.code yX5_isListed cX5_isListed 5 (some .boolean), Cond.methodLink RX5 96 yX5_estimateOf, Cond.instanceMethod yX5_estimateOf, Cond.selects RX5 yX5_estimateOf yX5_estimateOf, Cond.code yX5_estimateOf cX5_estimateOf 2 (some .int), Cond.methodLink RX5 89 yX5_takeRanks, Cond.instanceMethod yX5_takeRanks, Cond.selects RX5 yX5_takeRanks yX5_takeRanks, Cond.code yX5_takeRanks cX5_takeRanks 3 none, Cond.fieldLink RX5 25 "JoinedSketchesModel" "ranks" "[I", Cond.methodLink RX5 93 yX5_estimateBy, Cond.instanceMethod yX5_estimateBy, Cond.selects RX5 yX5_estimateBy yX5_estimateBy, Cond.code yX5_estimateBy cX5_estimateBy 6 (some .int), Cond.methodLink RX5 83 yX5_rawBy, Cond.instanceMethod yX5_rawBy, Cond.selects RX5 yX5_rawBy yX5_rawBy, Cond.code yX5_rawBy cX5_rawBy 2 (some .int), Cond.constantLong RX5 54 (65536), Cond.constantLong RX5 76 (7)]
def wsX5_join_r4 : List Cond := [Cond.constantLong RX5 78 (10), Cond.methodLink RX5 80 yX5_sumBy, Cond.instanceMethod yX5_sumBy, Cond.selects RX5 yX5_sumBy yX5_sumBy, Cond.code yX5_sumBy cX5_sumBy 4 (some .int), Cond.constant RX5 75 (65536), Cond.methodLink RX5 86 yX5_emptyBy, Cond.instanceMethod yX5_emptyBy, Cond.selects RX5 yX5_emptyBy yX5_emptyBy, Cond.code yX5_emptyBy cX5_emptyBy 4 (some .int)]
def wsX5_join : List Cond := .code yX5_join cX5_join 4 (some .int) :: ((wsX5_join_r1 ++ (wsX5_join_r2 ++ (wsX5_join_r3 ++ wsX5_join_r4))) ++ wsX50)
def wsX5_whyNotFolded : List Cond := .code yX5_whyNotFolded cX5_whyNotFolded 2 (some .int) :: ([.methodLink RX5 124 yX5_isSketch, .static yX5_isSketch, .initialized RX5, .code yX5_isSketch cX5_isSketch 1 (some .boolean), .methodLink RX5 43 yX5_within, .static yX5_within, .code yX5_within cX5_within 3 (some .boolean), .methodLink RX5 48 yX5_part, .instanceMethod yX5_part, .selects RX5 yX5_part yX5_part, .code yX5_part cX5_part 3 (some .int), .fieldLink RX5 7 "JoinedSketchesModel" "state" "[I"] ++ wsX50)
def wsX5_folds : List Cond := .code yX5_folds cX5_folds 6 (some .int) :: ([.methodLink RX5 59 yX5_bucketsOf, .instanceMethod yX5_bucketsOf, .selects RX5 yX5_bucketsOf yX5_bucketsOf, .initialized RX5, .code yX5_bucketsOf cX5_bucketsOf 2 (some .int), .methodLink RX5 48 yX5_part, .instanceMethod yX5_part, .selects RX5 yX5_part yX5_part, .code yX5_part cX5_part 3 (some .int), .fieldLink RX5 7 "JoinedSketchesModel" "state" "[I", .methodLink RX5 31 yX5_setPart, .instanceMethod yX5_setPart, .selects RX5 yX5_setPart yX5_setPart, .code yX5_setPart cX5_setPart 4 none] ++ wsX50)
def wsX5_fold_r1 : List Cond := [Cond.methodLink RX5 147 yX5_whyNotFolded, Cond.instanceMethod yX5_whyNotFolded, Cond.selects RX5 yX5_whyNotFolded yX5_whyNotFolded, Cond.initialized RX5, Cond.code yX5_whyNotFolded cX5_whyNotFolded 2 (some .int), Cond.methodLink RX5 124 yX5_isSketch, Cond.static yX5_isSketch, Cond.code yX5_isSketch cX5_isSketch 1 (some .boolean), Cond.methodLink RX5 43 yX5_within, Cond.static yX5_within, Cond.code yX5_within cX5_within 3 (some .boolean), Cond.methodLink RX5 48 yX5_part, Cond.instanceMethod yX5_part, Cond.selects RX5 yX5_part yX5_part, Cond.code yX5_part cX5_part 3 (some .int), Cond.fieldLink RX5 7 "JoinedSketchesModel" "state" "[I", Cond.methodLink RX5 118 yX5_record, Cond.instanceMethod yX5_record, Cond.selects RX5 yX5_record yX5_record, Cond.code yX5_record cX5_record 2 none, Cond.fieldLink RX5 35 "JoinedSketchesModel" "recorded" "I", Cond.fieldLink RX5 13 "JoinedSketchesModel" "history" "[I", Cond.methodLink RX5 39 yX5_moves, Cond.static yX5_moves]
def wsX5_fold_r2 : List Cond := [Cond.code yX5_moves cX5_moves 5 none, Cond.methodLink RX5 150 yX5_folds, Cond.instanceMethod yX5_folds, Cond.selects RX5 yX5_folds yX5_folds, Cond.code yX5_folds cX5_folds 6 (some .int), Cond.methodLink RX5 59 yX5_bucketsOf, Cond.instanceMethod yX5_bucketsOf, Cond.selects RX5 yX5_bucketsOf yX5_bucketsOf, Cond.code yX5_bucketsOf cX5_bucketsOf 2 (some .int), Cond.methodLink RX5 31 yX5_setPart, Cond.instanceMethod yX5_setPart, Cond.selects RX5 yX5_setPart yX5_setPart, Cond.code yX5_setPart cX5_setPart 4 none]
def wsX5_fold : List Cond := .code yX5_fold cX5_fold 3 (some .int) :: ((wsX5_fold_r1 ++ wsX5_fold_r2) ++ wsX50)
def wsX5_empty_r1 : List Cond := [Cond.methodLink RX5 124 yX5_isSketch, Cond.static yX5_isSketch, Cond.initialized RX5, Cond.code yX5_isSketch cX5_isSketch 1 (some .boolean), Cond.methodLink RX5 43 yX5_within, Cond.static yX5_within, Cond.code yX5_within cX5_within 3 (some .boolean), Cond.methodLink RX5 118 yX5_record, Cond.instanceMethod yX5_record, Cond.selects RX5 yX5_record yX5_record, Cond.code yX5_record cX5_record 2 none, Cond.fieldLink RX5 35 "JoinedSketchesModel" "recorded" "I", Cond.fieldLink RX5 13 "JoinedSketchesModel" "history" "[I", Cond.fieldLink RX5 7 "JoinedSketchesModel" "state" "[I", Cond.methodLink RX5 39 yX5_moves, Cond.static yX5_moves, Cond.code yX5_moves cX5_moves 5 none, Cond.methodLink RX5 121 yX5_empties, Cond.instanceMethod yX5_empties, Cond.selects RX5 yX5_empties yX5_empties, Cond.code yX5_empties cX5_empties 4 (some .int), Cond.methodLink RX5 72 yX5_filled, Cond.instanceMethod yX5_filled, Cond.selects RX5 yX5_filled yX5_filled]
def wsX5_empty_r2 : List Cond := [Cond.code yX5_filled cX5_filled 4 (some .int), Cond.methodLink RX5 59 yX5_bucketsOf, Cond.instanceMethod yX5_bucketsOf, Cond.selects RX5 yX5_bucketsOf yX5_bucketsOf, Cond.code yX5_bucketsOf cX5_bucketsOf 2 (some .int), Cond.methodLink RX5 48 yX5_part, Cond.instanceMethod yX5_part, Cond.selects RX5 yX5_part yX5_part, Cond.code yX5_part cX5_part 3 (some .int), Cond.methodLink RX5 31 yX5_setPart, Cond.instanceMethod yX5_setPart, Cond.selects RX5 yX5_setPart yX5_setPart, Cond.code yX5_setPart cX5_setPart 4 none]
def wsX5_empty : List Cond := .code yX5_empty cX5_empty 2 (some .int) :: ((wsX5_empty_r1 ++ wsX5_empty_r2) ++ wsX50)
def wsX5_thing_r1 : List Cond := [Cond.fieldLink RX5 7 "JoinedSketchesModel" "state" "[I", Cond.methodLink RX5 124 yX5_isSketch, Cond.static yX5_isSketch, Cond.initialized RX5, Cond.code yX5_isSketch cX5_isSketch 1 (some .boolean), Cond.methodLink RX5 43 yX5_within, Cond.static yX5_within, Cond.code yX5_within cX5_within 3 (some .boolean), Cond.methodLink RX5 127 yX5_isThing, Cond.static yX5_isThing, Cond.code yX5_isThing cX5_isThing 1 (some .boolean), Cond.constant RX5 47 (99999), Cond.methodLink RX5 56 yX5_hashOf, Cond.static yX5_hashOf, Cond.code yX5_hashOf cX5_hashOf 3 (some .int), Cond.constantLong RX5 52 (40503), Cond.constantLong RX5 54 (65536), Cond.methodLink RX5 69 yX5_bucketOf, Cond.instanceMethod yX5_bucketOf, Cond.selects RX5 yX5_bucketOf yX5_bucketOf, Cond.code yX5_bucketOf cX5_bucketOf 3 (some .int), Cond.methodLink RX5 59 yX5_bucketsOf, Cond.instanceMethod yX5_bucketsOf, Cond.selects RX5 yX5_bucketsOf yX5_bucketsOf]
def wsX5_thing_r2 : List Cond := [Cond.code yX5_bucketsOf cX5_bucketsOf 2 (some .int), Cond.methodLink RX5 48 yX5_part, Cond.instanceMethod yX5_part, Cond.selects RX5 yX5_part yX5_part, Cond.code yX5_part cX5_part 3 (some .int), Cond.methodLink RX5 66 yX5_rankIn, Cond.instanceMethod yX5_rankIn, Cond.selects RX5 yX5_rankIn yX5_rankIn, Cond.code yX5_rankIn cX5_rankIn 3 (some .int), Cond.methodLink RX5 63 yX5_rankOf, Cond.static yX5_rankOf, Cond.code yX5_rankOf cX5_rankOf 4 (some .int), Cond.methodLink RX5 110 yX5_wouldChange, Cond.instanceMethod yX5_wouldChange, Cond.selects RX5 yX5_wouldChange yX5_wouldChange, Cond.code yX5_wouldChange cX5_wouldChange 3 (some .boolean)]
def wsX5_thing : List Cond := .code yX5_thing cX5_thing 4 (some .int) :: ((wsX5_thing_r1 ++ wsX5_thing_r2) ++ wsX50)
def wsX5_bucket : List Cond := .code yX5_bucket cX5_bucket 3 (some .int) :: ([.methodLink RX5 124 yX5_isSketch, .static yX5_isSketch, .initialized RX5, .code yX5_isSketch cX5_isSketch 1 (some .boolean), .methodLink RX5 43 yX5_within, .static yX5_within, .code yX5_within cX5_within 3 (some .boolean), .methodLink RX5 59 yX5_bucketsOf, .instanceMethod yX5_bucketsOf, .selects RX5 yX5_bucketsOf yX5_bucketsOf, .code yX5_bucketsOf cX5_bucketsOf 2 (some .int), .methodLink RX5 48 yX5_part, .instanceMethod yX5_part, .selects RX5 yX5_part yX5_part, .code yX5_part cX5_part 3 (some .int), .fieldLink RX5 7 "JoinedSketchesModel" "state" "[I"] ++ wsX50)
def wsX5_greatestRank : List Cond := .code yX5_greatestRank cX5_greatestRank 4 (some .int) :: ([.methodLink RX5 59 yX5_bucketsOf, .instanceMethod yX5_bucketsOf, .selects RX5 yX5_bucketsOf yX5_bucketsOf, .initialized RX5, .code yX5_bucketsOf cX5_bucketsOf 2 (some .int), .methodLink RX5 48 yX5_part, .instanceMethod yX5_part, .selects RX5 yX5_part yX5_part, .code yX5_part cX5_part 3 (some .int), .fieldLink RX5 7 "JoinedSketchesModel" "state" "[I"] ++ wsX50)
def wsX5_ofSketch_r1 : List Cond := [Cond.methodLink RX5 124 yX5_isSketch, Cond.static yX5_isSketch, Cond.initialized RX5, Cond.code yX5_isSketch cX5_isSketch 1 (some .boolean), Cond.methodLink RX5 43 yX5_within, Cond.static yX5_within, Cond.code yX5_within cX5_within 3 (some .boolean), Cond.methodLink RX5 59 yX5_bucketsOf, Cond.instanceMethod yX5_bucketsOf, Cond.selects RX5 yX5_bucketsOf yX5_bucketsOf, Cond.code yX5_bucketsOf cX5_bucketsOf 2 (some .int), Cond.methodLink RX5 48 yX5_part, Cond.instanceMethod yX5_part, Cond.selects RX5 yX5_part yX5_part, Cond.code yX5_part cX5_part 3 (some .int), Cond.fieldLink RX5 7 "JoinedSketchesModel" "state" "[I", Cond.methodLink RX5 89 yX5_takeRanks, Cond.instanceMethod yX5_takeRanks, Cond.selects RX5 yX5_takeRanks yX5_takeRanks, Cond.code yX5_takeRanks cX5_takeRanks 3 none, Cond.fieldLink RX5 25 "JoinedSketchesModel" "ranks" "[I", Cond.methodLink RX5 86 yX5_emptyBy, Cond.instanceMethod yX5_emptyBy, Cond.selects RX5 yX5_emptyBy yX5_emptyBy]
def wsX5_ofSketch_r2 : List Cond := [Cond.code yX5_emptyBy cX5_emptyBy 4 (some .int), Cond.methodLink RX5 153 yX5_greatestRank, Cond.instanceMethod yX5_greatestRank, Cond.selects RX5 yX5_greatestRank yX5_greatestRank, Cond.code yX5_greatestRank cX5_greatestRank 4 (some .int), Cond.methodLink RX5 80 yX5_sumBy, Cond.instanceMethod yX5_sumBy, Cond.selects RX5 yX5_sumBy yX5_sumBy, Cond.code yX5_sumBy cX5_sumBy 4 (some .int), Cond.constant RX5 75 (65536), Cond.methodLink RX5 83 yX5_rawBy, Cond.instanceMethod yX5_rawBy, Cond.selects RX5 yX5_rawBy yX5_rawBy, Cond.code yX5_rawBy cX5_rawBy 2 (some .int), Cond.constantLong RX5 54 (65536), Cond.constantLong RX5 76 (7), Cond.constantLong RX5 78 (10), Cond.methodLink RX5 93 yX5_estimateBy, Cond.instanceMethod yX5_estimateBy, Cond.selects RX5 yX5_estimateBy yX5_estimateBy, Cond.code yX5_estimateBy cX5_estimateBy 6 (some .int), Cond.methodLink RX5 156 yX5_errorOf, Cond.instanceMethod yX5_errorOf, Cond.selects RX5 yX5_errorOf yX5_errorOf]
def wsX5_ofSketch_r3 : List Cond := [Cond.code yX5_errorOf cX5_errorOf 3 (some .int), Cond.methodLink RX5 96 yX5_estimateOf, Cond.instanceMethod yX5_estimateOf, Cond.selects RX5 yX5_estimateOf yX5_estimateOf, Cond.code yX5_estimateOf cX5_estimateOf 2 (some .int)]
def wsX5_ofSketch : List Cond := .code yX5_ofSketch cX5_ofSketch 4 (some .int) :: ((wsX5_ofSketch_r1 ++ (wsX5_ofSketch_r2 ++ wsX5_ofSketch_r3)) ++ wsX50)
def wsX5_withRank : List Cond := .code yX5_withRank cX5_withRank 6 (some .long) :: ([.constantLong RX5 159 (-1), .constantLong RX5 161 (-2), .methodLink RX5 124 yX5_isSketch, .static yX5_isSketch, .initialized RX5, .code yX5_isSketch cX5_isSketch 1 (some .boolean), .methodLink RX5 43 yX5_within, .static yX5_within, .code yX5_within cX5_within 3 (some .boolean), .methodLink RX5 59 yX5_bucketsOf, .instanceMethod yX5_bucketsOf, .selects RX5 yX5_bucketsOf yX5_bucketsOf, .code yX5_bucketsOf cX5_bucketsOf 2 (some .int), .methodLink RX5 48 yX5_part, .instanceMethod yX5_part, .selects RX5 yX5_part yX5_part, .code yX5_part cX5_part 3 (some .int), .fieldLink RX5 7 "JoinedSketchesModel" "state" "[I"] ++ wsX50)
def wsX5_listed : List Cond := .code yX5_listed cX5_listed 3 (some .int) :: ([.methodLink RX5 124 yX5_isSketch, .static yX5_isSketch, .initialized RX5, .code yX5_isSketch cX5_isSketch 1 (some .boolean), .methodLink RX5 43 yX5_within, .static yX5_within, .code yX5_within cX5_within 3 (some .boolean), .methodLink RX5 48 yX5_part, .instanceMethod yX5_part, .selects RX5 yX5_part yX5_part, .code yX5_part cX5_part 3 (some .int), .fieldLink RX5 7 "JoinedSketchesModel" "state" "[I"] ++ wsX50)
def wsX5_sketchesFilled : List Cond := .code yX5_sketchesFilled cX5_sketchesFilled 3 (some .int) :: ([.methodLink RX5 72 yX5_filled, .instanceMethod yX5_filled, .selects RX5 yX5_filled yX5_filled, .initialized RX5, .code yX5_filled cX5_filled 4 (some .int), .methodLink RX5 59 yX5_bucketsOf, .instanceMethod yX5_bucketsOf, .selects RX5 yX5_bucketsOf yX5_bucketsOf, .code yX5_bucketsOf cX5_bucketsOf 2 (some .int), .methodLink RX5 48 yX5_part, .instanceMethod yX5_part, .selects RX5 yX5_part yX5_part, .code yX5_part cX5_part 3 (some .int), .fieldLink RX5 7 "JoinedSketchesModel" "state" "[I"] ++ wsX50)
def wsX5_fullLists : List Cond := .code yX5_fullLists cX5_fullLists 3 (some .int) :: ([.methodLink RX5 99 yX5_isFull, .instanceMethod yX5_isFull, .selects RX5 yX5_isFull yX5_isFull, .initialized RX5, .code yX5_isFull cX5_isFull 2 (some .boolean), .methodLink RX5 48 yX5_part, .instanceMethod yX5_part, .selects RX5 yX5_part yX5_part, .code yX5_part cX5_part 3 (some .int), .fieldLink RX5 7 "JoinedSketchesModel" "state" "[I"] ++ wsX50)
def wsX5_count_r1 : List Cond := [Cond.fieldLink RX5 7 "JoinedSketchesModel" "state" "[I", Cond.fieldLink RX5 173 "JoinedSketchesModel" "padLength" "I", Cond.fieldLink RX5 35 "JoinedSketchesModel" "recorded" "I", Cond.methodLink RX5 163 yX5_sketchesFilled, Cond.instanceMethod yX5_sketchesFilled, Cond.selects RX5 yX5_sketchesFilled yX5_sketchesFilled, Cond.initialized RX5, Cond.code yX5_sketchesFilled cX5_sketchesFilled 3 (some .int), Cond.methodLink RX5 72 yX5_filled, Cond.instanceMethod yX5_filled, Cond.selects RX5 yX5_filled yX5_filled, Cond.code yX5_filled cX5_filled 4 (some .int), Cond.methodLink RX5 59 yX5_bucketsOf, Cond.instanceMethod yX5_bucketsOf, Cond.selects RX5 yX5_bucketsOf yX5_bucketsOf, Cond.code yX5_bucketsOf cX5_bucketsOf 2 (some .int), Cond.methodLink RX5 48 yX5_part, Cond.instanceMethod yX5_part, Cond.selects RX5 yX5_part yX5_part, Cond.code yX5_part cX5_part 3 (some .int), Cond.methodLink RX5 167 yX5_allFilled, Cond.instanceMethod yX5_allFilled, Cond.selects RX5 yX5_allFilled yX5_allFilled, Cond.code yX5_allFilled cX5_allFilled 3 (some .int)]
def wsX5_count_r2 : List Cond := [Cond.methodLink RX5 170 yX5_fullLists, Cond.instanceMethod yX5_fullLists, Cond.selects RX5 yX5_fullLists yX5_fullLists, Cond.code yX5_fullLists cX5_fullLists 3 (some .int), Cond.methodLink RX5 99 yX5_isFull, Cond.instanceMethod yX5_isFull, Cond.selects RX5 yX5_isFull yX5_isFull, Cond.code yX5_isFull cX5_isFull 2 (some .boolean)]
def wsX5_count : List Cond := .code yX5_count cX5_count 2 (some .int) :: ((wsX5_count_r1 ++ wsX5_count_r2) ++ wsX50)
def wsX5_together_r1 : List Cond := [Cond.fieldLink RX5 25 "JoinedSketchesModel" "ranks" "[I", Cond.methodLink RX5 141 yX5_whyNotJoined, Cond.instanceMethod yX5_whyNotJoined, Cond.selects RX5 yX5_whyNotJoined yX5_whyNotJoined, Cond.initialized RX5, Cond.code yX5_whyNotJoined cX5_whyNotJoined 3 (some .int), Cond.methodLink RX5 124 yX5_isSketch, Cond.static yX5_isSketch, Cond.code yX5_isSketch cX5_isSketch 1 (some .boolean), Cond.methodLink RX5 43 yX5_within, Cond.static yX5_within, Cond.code yX5_within cX5_within 3 (some .boolean), Cond.methodLink RX5 48 yX5_part, Cond.instanceMethod yX5_part, Cond.selects RX5 yX5_part yX5_part, Cond.code yX5_part cX5_part 3 (some .int), Cond.fieldLink RX5 7 "JoinedSketchesModel" "state" "[I", Cond.methodLink RX5 89 yX5_takeRanks, Cond.instanceMethod yX5_takeRanks, Cond.selects RX5 yX5_takeRanks yX5_takeRanks, Cond.code yX5_takeRanks cX5_takeRanks 3 none, Cond.methodLink RX5 59 yX5_bucketsOf, Cond.instanceMethod yX5_bucketsOf, Cond.selects RX5 yX5_bucketsOf yX5_bucketsOf]
def wsX5_together_r2 : List Cond := [Cond.code yX5_bucketsOf cX5_bucketsOf 2 (some .int), Cond.methodLink RX5 93 yX5_estimateBy, Cond.instanceMethod yX5_estimateBy, Cond.selects RX5 yX5_estimateBy yX5_estimateBy, Cond.code yX5_estimateBy cX5_estimateBy 6 (some .int), Cond.methodLink RX5 83 yX5_rawBy, Cond.instanceMethod yX5_rawBy, Cond.selects RX5 yX5_rawBy yX5_rawBy, Cond.code yX5_rawBy cX5_rawBy 2 (some .int), Cond.constantLong RX5 54 (65536), Cond.constantLong RX5 76 (7), Cond.constantLong RX5 78 (10), Cond.methodLink RX5 80 yX5_sumBy, Cond.instanceMethod yX5_sumBy, Cond.selects RX5 yX5_sumBy yX5_sumBy, Cond.code yX5_sumBy cX5_sumBy 4 (some .int), Cond.constant RX5 75 (65536), Cond.methodLink RX5 86 yX5_emptyBy, Cond.instanceMethod yX5_emptyBy, Cond.selects RX5 yX5_emptyBy yX5_emptyBy, Cond.code yX5_emptyBy cX5_emptyBy 4 (some .int)]
def wsX5_together : List Cond := .code yX5_together cX5_together 5 (some .int) :: ((wsX5_together_r1 ++ wsX5_together_r2) ++ wsX50)
def wsX5_shareBits : List Cond := .code yX5_shareBits cX5_shareBits 3 (some .int) :: ([])
def wsX5_alike : List Cond := .code yX5_alike cX5_alike 6 (some .int) :: ([.methodLink RX5 141 yX5_whyNotJoined, .instanceMethod yX5_whyNotJoined, .selects RX5 yX5_whyNotJoined yX5_whyNotJoined, .initialized RX5, .code yX5_whyNotJoined cX5_whyNotJoined 3 (some .int), .methodLink RX5 124 yX5_isSketch, .static yX5_isSketch, .code yX5_isSketch cX5_isSketch 1 (some .boolean), .methodLink RX5 43 yX5_within, .static yX5_within, .code yX5_within cX5_within 3 (some .boolean), .methodLink RX5 48 yX5_part, .instanceMethod yX5_part, .selects RX5 yX5_part yX5_part, .code yX5_part cX5_part 3 (some .int), .fieldLink RX5 7 "JoinedSketchesModel" "state" "[I", .methodLink RX5 59 yX5_bucketsOf, .instanceMethod yX5_bucketsOf, .selects RX5 yX5_bucketsOf yX5_bucketsOf, .code yX5_bucketsOf cX5_bucketsOf 2 (some .int), .methodLink RX5 176 yX5_shareBits, .static yX5_shareBits, .code yX5_shareBits cX5_shareBits 3 (some .int)] ++ wsX50)
def wsX5_off_r1 : List Cond := [Cond.constant RX5 133 (100000), Cond.methodLink RX5 124 yX5_isSketch, Cond.static yX5_isSketch, Cond.initialized RX5, Cond.code yX5_isSketch cX5_isSketch 1 (some .boolean), Cond.methodLink RX5 43 yX5_within, Cond.static yX5_within, Cond.code yX5_within cX5_within 3 (some .boolean), Cond.methodLink RX5 99 yX5_isFull, Cond.instanceMethod yX5_isFull, Cond.selects RX5 yX5_isFull yX5_isFull, Cond.code yX5_isFull cX5_isFull 2 (some .boolean), Cond.methodLink RX5 48 yX5_part, Cond.instanceMethod yX5_part, Cond.selects RX5 yX5_part yX5_part, Cond.code yX5_part cX5_part 3 (some .int), Cond.fieldLink RX5 7 "JoinedSketchesModel" "state" "[I", Cond.methodLink RX5 96 yX5_estimateOf, Cond.instanceMethod yX5_estimateOf, Cond.selects RX5 yX5_estimateOf yX5_estimateOf, Cond.code yX5_estimateOf cX5_estimateOf 2 (some .int), Cond.methodLink RX5 89 yX5_takeRanks, Cond.instanceMethod yX5_takeRanks, Cond.selects RX5 yX5_takeRanks yX5_takeRanks]
def wsX5_off_r2 : List Cond := [Cond.code yX5_takeRanks cX5_takeRanks 3 none, Cond.fieldLink RX5 25 "JoinedSketchesModel" "ranks" "[I", Cond.methodLink RX5 59 yX5_bucketsOf, Cond.instanceMethod yX5_bucketsOf, Cond.selects RX5 yX5_bucketsOf yX5_bucketsOf, Cond.code yX5_bucketsOf cX5_bucketsOf 2 (some .int), Cond.methodLink RX5 93 yX5_estimateBy, Cond.instanceMethod yX5_estimateBy, Cond.selects RX5 yX5_estimateBy yX5_estimateBy, Cond.code yX5_estimateBy cX5_estimateBy 6 (some .int), Cond.methodLink RX5 83 yX5_rawBy, Cond.instanceMethod yX5_rawBy, Cond.selects RX5 yX5_rawBy yX5_rawBy, Cond.code yX5_rawBy cX5_rawBy 2 (some .int), Cond.constantLong RX5 54 (65536), Cond.constantLong RX5 76 (7), Cond.constantLong RX5 78 (10), Cond.methodLink RX5 80 yX5_sumBy, Cond.instanceMethod yX5_sumBy, Cond.selects RX5 yX5_sumBy yX5_sumBy, Cond.code yX5_sumBy cX5_sumBy 4 (some .int), Cond.constant RX5 75 (65536), Cond.methodLink RX5 86 yX5_emptyBy, Cond.instanceMethod yX5_emptyBy]
def wsX5_off_r3 : List Cond := [Cond.selects RX5 yX5_emptyBy yX5_emptyBy, Cond.code yX5_emptyBy cX5_emptyBy 4 (some .int)]
def wsX5_off : List Cond := .code yX5_off cX5_off 2 (some .int) :: ((wsX5_off_r1 ++ (wsX5_off_r2 ++ wsX5_off_r3)) ++ wsX50)
def wsX5_nextNew_r1 : List Cond := [Cond.constant RX5 133 (100000), Cond.methodLink RX5 124 yX5_isSketch, Cond.static yX5_isSketch, Cond.initialized RX5, Cond.code yX5_isSketch cX5_isSketch 1 (some .boolean), Cond.methodLink RX5 43 yX5_within, Cond.static yX5_within, Cond.code yX5_within cX5_within 3 (some .boolean), Cond.methodLink RX5 127 yX5_isThing, Cond.static yX5_isThing, Cond.code yX5_isThing cX5_isThing 1 (some .boolean), Cond.constant RX5 47 (99999), Cond.methodLink RX5 110 yX5_wouldChange, Cond.instanceMethod yX5_wouldChange, Cond.selects RX5 yX5_wouldChange yX5_wouldChange, Cond.code yX5_wouldChange cX5_wouldChange 3 (some .boolean), Cond.methodLink RX5 66 yX5_rankIn, Cond.instanceMethod yX5_rankIn, Cond.selects RX5 yX5_rankIn yX5_rankIn, Cond.code yX5_rankIn cX5_rankIn 3 (some .int), Cond.fieldLink RX5 7 "JoinedSketchesModel" "state" "[I", Cond.methodLink RX5 56 yX5_hashOf, Cond.static yX5_hashOf, Cond.code yX5_hashOf cX5_hashOf 3 (some .int)]
def wsX5_nextNew_r2 : List Cond := [Cond.constantLong RX5 52 (40503), Cond.constantLong RX5 54 (65536), Cond.methodLink RX5 48 yX5_part, Cond.instanceMethod yX5_part, Cond.selects RX5 yX5_part yX5_part, Cond.code yX5_part cX5_part 3 (some .int), Cond.methodLink RX5 63 yX5_rankOf, Cond.static yX5_rankOf, Cond.code yX5_rankOf cX5_rankOf 4 (some .int), Cond.methodLink RX5 69 yX5_bucketOf, Cond.instanceMethod yX5_bucketOf, Cond.selects RX5 yX5_bucketOf yX5_bucketOf, Cond.code yX5_bucketOf cX5_bucketOf 3 (some .int), Cond.methodLink RX5 59 yX5_bucketsOf, Cond.instanceMethod yX5_bucketsOf, Cond.selects RX5 yX5_bucketsOf yX5_bucketsOf, Cond.code yX5_bucketsOf cX5_bucketsOf 2 (some .int)]
def wsX5_nextNew : List Cond := .code yX5_nextNew cX5_nextNew 4 (some .int) :: ((wsX5_nextNew_r1 ++ wsX5_nextNew_r2) ++ wsX50)
def wsX5_takeRanksBy : List Cond := .code yX5_takeRanksBy cX5_takeRanksBy 7 none :: ([.fieldLink RX5 25 "JoinedSketchesModel" "ranks" "[I", .methodLink RX5 48 yX5_part, .instanceMethod yX5_part, .selects RX5 yX5_part yX5_part, .initialized RX5, .code yX5_part cX5_part 3 (some .int), .fieldLink RX5 7 "JoinedSketchesModel" "state" "[I", .methodLink RX5 56 yX5_hashOf, .static yX5_hashOf, .code yX5_hashOf cX5_hashOf 3 (some .int), .constantLong RX5 52 (40503), .constantLong RX5 54 (65536), .methodLink RX5 59 yX5_bucketsOf, .instanceMethod yX5_bucketsOf, .selects RX5 yX5_bucketsOf yX5_bucketsOf, .code yX5_bucketsOf cX5_bucketsOf 2 (some .int), .methodLink RX5 63 yX5_rankOf, .static yX5_rankOf, .code yX5_rankOf cX5_rankOf 4 (some .int)] ++ wsX50)
def wsX5_bestSalt_r1 : List Cond := [Cond.methodLink RX5 124 yX5_isSketch, Cond.static yX5_isSketch, Cond.initialized RX5, Cond.code yX5_isSketch cX5_isSketch 1 (some .boolean), Cond.methodLink RX5 43 yX5_within, Cond.static yX5_within, Cond.code yX5_within cX5_within 3 (some .boolean), Cond.methodLink RX5 99 yX5_isFull, Cond.instanceMethod yX5_isFull, Cond.selects RX5 yX5_isFull yX5_isFull, Cond.code yX5_isFull cX5_isFull 2 (some .boolean), Cond.methodLink RX5 48 yX5_part, Cond.instanceMethod yX5_part, Cond.selects RX5 yX5_part yX5_part, Cond.code yX5_part cX5_part 3 (some .int), Cond.fieldLink RX5 7 "JoinedSketchesModel" "state" "[I", Cond.methodLink RX5 179 yX5_takeRanksBy, Cond.instanceMethod yX5_takeRanksBy, Cond.selects RX5 yX5_takeRanksBy yX5_takeRanksBy, Cond.code yX5_takeRanksBy cX5_takeRanksBy 7 none, Cond.fieldLink RX5 25 "JoinedSketchesModel" "ranks" "[I", Cond.methodLink RX5 56 yX5_hashOf, Cond.static yX5_hashOf, Cond.code yX5_hashOf cX5_hashOf 3 (some .int)]
def wsX5_bestSalt_r2 : List Cond := [Cond.constantLong RX5 52 (40503), Cond.constantLong RX5 54 (65536), Cond.methodLink RX5 59 yX5_bucketsOf, Cond.instanceMethod yX5_bucketsOf, Cond.selects RX5 yX5_bucketsOf yX5_bucketsOf, Cond.code yX5_bucketsOf cX5_bucketsOf 2 (some .int), Cond.methodLink RX5 63 yX5_rankOf, Cond.static yX5_rankOf, Cond.code yX5_rankOf cX5_rankOf 4 (some .int), Cond.methodLink RX5 93 yX5_estimateBy, Cond.instanceMethod yX5_estimateBy, Cond.selects RX5 yX5_estimateBy yX5_estimateBy, Cond.code yX5_estimateBy cX5_estimateBy 6 (some .int), Cond.methodLink RX5 83 yX5_rawBy, Cond.instanceMethod yX5_rawBy, Cond.selects RX5 yX5_rawBy yX5_rawBy, Cond.code yX5_rawBy cX5_rawBy 2 (some .int), Cond.constantLong RX5 76 (7), Cond.constantLong RX5 78 (10), Cond.methodLink RX5 80 yX5_sumBy, Cond.instanceMethod yX5_sumBy, Cond.selects RX5 yX5_sumBy yX5_sumBy, Cond.code yX5_sumBy cX5_sumBy 4 (some .int), Cond.constant RX5 75 (65536)]
def wsX5_bestSalt_r3 : List Cond := [Cond.methodLink RX5 86 yX5_emptyBy, Cond.instanceMethod yX5_emptyBy, Cond.selects RX5 yX5_emptyBy yX5_emptyBy, Cond.code yX5_emptyBy cX5_emptyBy 4 (some .int)]
def wsX5_bestSalt : List Cond := .code yX5_bestSalt cX5_bestSalt 8 (some .int) :: ((wsX5_bestSalt_r1 ++ (wsX5_bestSalt_r2 ++ wsX5_bestSalt_r3)) ++ wsX50)
def wsX5_put : List Cond := .code yX5_put cX5_put 8 (some .int) :: ([.constantLong RX5 182 (255), .fieldLink RX5 173 "JoinedSketchesModel" "padLength" "I", .fieldLink RX5 22 "JoinedSketchesModel" "pad" "[I", .methodLink RX5 43 yX5_within, .static yX5_within, .initialized RX5, .code yX5_within cX5_within 3 (some .boolean)] ++ wsX50)
def wsX5_wipe : List Cond := .code yX5_wipe cX5_wipe 2 (some .int) :: ([.fieldLink RX5 173 "JoinedSketchesModel" "padLength" "I"] ++ wsX50)
def wsX5_character : List Cond := .code yX5_character cX5_character 2 (some .int) :: ([.fieldLink RX5 173 "JoinedSketchesModel" "padLength" "I", .fieldLink RX5 22 "JoinedSketchesModel" "pad" "[I"] ++ wsX50)
def wsX5_isNext : List Cond := .code yX5_isNext cX5_isNext 3 (some .boolean) :: ([.fieldLink RX5 184 "JoinedSketchesModel" "at" "I", .methodLink RX5 187 yX5_character, .instanceMethod yX5_character, .selects RX5 yX5_character yX5_character, .initialized RX5, .code yX5_character cX5_character 2 (some .int), .fieldLink RX5 173 "JoinedSketchesModel" "padLength" "I", .fieldLink RX5 22 "JoinedSketchesModel" "pad" "[I"] ++ wsX50)
def wsX5_takeDigit : List Cond := .code yX5_takeDigit cX5_takeDigit 3 (some .int) :: ([.fieldLink RX5 184 "JoinedSketchesModel" "at" "I", .methodLink RX5 187 yX5_character, .instanceMethod yX5_character, .selects RX5 yX5_character yX5_character, .initialized RX5, .code yX5_character cX5_character 2 (some .int), .fieldLink RX5 173 "JoinedSketchesModel" "padLength" "I", .fieldLink RX5 22 "JoinedSketchesModel" "pad" "[I", .methodLink RX5 43 yX5_within, .static yX5_within, .code yX5_within cX5_within 3 (some .boolean)] ++ wsX50)
def wsX5_takesNumber : List Cond := .code yX5_takesNumber cX5_takesNumber 2 (some .boolean) :: ([.fieldLink RX5 184 "JoinedSketchesModel" "at" "I", .fieldLink RX5 28 "JoinedSketchesModel" "numbers" "[I", .fieldLink RX5 193 "JoinedSketchesModel" "numbersMany" "I", .methodLink RX5 190 yX5_takeDigit, .instanceMethod yX5_takeDigit, .selects RX5 yX5_takeDigit yX5_takeDigit, .initialized RX5, .code yX5_takeDigit cX5_takeDigit 3 (some .int), .methodLink RX5 187 yX5_character, .instanceMethod yX5_character, .selects RX5 yX5_character yX5_character, .code yX5_character cX5_character 2 (some .int), .fieldLink RX5 173 "JoinedSketchesModel" "padLength" "I", .fieldLink RX5 22 "JoinedSketchesModel" "pad" "[I", .methodLink RX5 43 yX5_within, .static yX5_within, .code yX5_within cX5_within 3 (some .boolean)] ++ wsX50)
def wsX5_readsRest_r1 : List Cond := [Cond.fieldLink RX5 196 "JoinedSketchesModel" "letter" "I", Cond.fieldLink RX5 28 "JoinedSketchesModel" "numbers" "[I", Cond.fieldLink RX5 184 "JoinedSketchesModel" "at" "I", Cond.methodLink RX5 199 yX5_takesNumber, Cond.instanceMethod yX5_takesNumber, Cond.selects RX5 yX5_takesNumber yX5_takesNumber, Cond.initialized RX5, Cond.code yX5_takesNumber cX5_takesNumber 2 (some .boolean), Cond.fieldLink RX5 193 "JoinedSketchesModel" "numbersMany" "I", Cond.methodLink RX5 190 yX5_takeDigit, Cond.instanceMethod yX5_takeDigit, Cond.selects RX5 yX5_takeDigit yX5_takeDigit, Cond.code yX5_takeDigit cX5_takeDigit 3 (some .int), Cond.methodLink RX5 187 yX5_character, Cond.instanceMethod yX5_character, Cond.selects RX5 yX5_character yX5_character, Cond.code yX5_character cX5_character 2 (some .int), Cond.fieldLink RX5 173 "JoinedSketchesModel" "padLength" "I", Cond.fieldLink RX5 22 "JoinedSketchesModel" "pad" "[I", Cond.methodLink RX5 43 yX5_within, Cond.static yX5_within, Cond.code yX5_within cX5_within 3 (some .boolean), Cond.methodLink RX5 203 yX5_isNext, Cond.instanceMethod yX5_isNext]
def wsX5_readsRest_r2 : List Cond := [Cond.selects RX5 yX5_isNext yX5_isNext, Cond.code yX5_isNext cX5_isNext 3 (some .boolean)]
def wsX5_readsRest : List Cond := .code yX5_readsRest cX5_readsRest 2 (some .boolean) :: ((wsX5_readsRest_r1 ++ wsX5_readsRest_r2) ++ wsX50)
def wsX5_readsOrder_r1 : List Cond := [Cond.fieldLink RX5 193 "JoinedSketchesModel" "numbersMany" "I", Cond.fieldLink RX5 206 "JoinedSketchesModel" "sketch" "I", Cond.fieldLink RX5 184 "JoinedSketchesModel" "at" "I", Cond.fieldLink RX5 196 "JoinedSketchesModel" "letter" "I", Cond.methodLink RX5 190 yX5_takeDigit, Cond.instanceMethod yX5_takeDigit, Cond.selects RX5 yX5_takeDigit yX5_takeDigit, Cond.initialized RX5, Cond.code yX5_takeDigit cX5_takeDigit 3 (some .int), Cond.methodLink RX5 187 yX5_character, Cond.instanceMethod yX5_character, Cond.selects RX5 yX5_character yX5_character, Cond.code yX5_character cX5_character 2 (some .int), Cond.fieldLink RX5 173 "JoinedSketchesModel" "padLength" "I", Cond.fieldLink RX5 22 "JoinedSketchesModel" "pad" "[I", Cond.methodLink RX5 43 yX5_within, Cond.static yX5_within, Cond.code yX5_within cX5_within 3 (some .boolean), Cond.methodLink RX5 209 yX5_readsRest, Cond.instanceMethod yX5_readsRest, Cond.selects RX5 yX5_readsRest yX5_readsRest, Cond.code yX5_readsRest cX5_readsRest 2 (some .boolean), Cond.fieldLink RX5 28 "JoinedSketchesModel" "numbers" "[I", Cond.methodLink RX5 199 yX5_takesNumber]
def wsX5_readsOrder_r2 : List Cond := [Cond.instanceMethod yX5_takesNumber, Cond.selects RX5 yX5_takesNumber yX5_takesNumber, Cond.code yX5_takesNumber cX5_takesNumber 2 (some .boolean), Cond.methodLink RX5 203 yX5_isNext, Cond.instanceMethod yX5_isNext, Cond.selects RX5 yX5_isNext yX5_isNext, Cond.code yX5_isNext cX5_isNext 3 (some .boolean)]
def wsX5_readsOrder : List Cond := .code yX5_readsOrder cX5_readsOrder 1 (some .boolean) :: ((wsX5_readsOrder_r1 ++ wsX5_readsOrder_r2) ++ wsX50)
def wsX5_findFault_r1 : List Cond := [Cond.fieldLink RX5 184 "JoinedSketchesModel" "at" "I", Cond.fieldLink RX5 173 "JoinedSketchesModel" "padLength" "I", Cond.methodLink RX5 212 yX5_readsOrder, Cond.instanceMethod yX5_readsOrder, Cond.selects RX5 yX5_readsOrder yX5_readsOrder, Cond.initialized RX5, Cond.code yX5_readsOrder cX5_readsOrder 1 (some .boolean), Cond.fieldLink RX5 193 "JoinedSketchesModel" "numbersMany" "I", Cond.fieldLink RX5 206 "JoinedSketchesModel" "sketch" "I", Cond.fieldLink RX5 196 "JoinedSketchesModel" "letter" "I", Cond.methodLink RX5 190 yX5_takeDigit, Cond.instanceMethod yX5_takeDigit, Cond.selects RX5 yX5_takeDigit yX5_takeDigit, Cond.code yX5_takeDigit cX5_takeDigit 3 (some .int), Cond.methodLink RX5 187 yX5_character, Cond.instanceMethod yX5_character, Cond.selects RX5 yX5_character yX5_character, Cond.code yX5_character cX5_character 2 (some .int), Cond.fieldLink RX5 22 "JoinedSketchesModel" "pad" "[I", Cond.methodLink RX5 43 yX5_within, Cond.static yX5_within, Cond.code yX5_within cX5_within 3 (some .boolean), Cond.methodLink RX5 209 yX5_readsRest, Cond.instanceMethod yX5_readsRest]
def wsX5_findFault_r2 : List Cond := [Cond.selects RX5 yX5_readsRest yX5_readsRest, Cond.code yX5_readsRest cX5_readsRest 2 (some .boolean), Cond.fieldLink RX5 28 "JoinedSketchesModel" "numbers" "[I", Cond.methodLink RX5 199 yX5_takesNumber, Cond.instanceMethod yX5_takesNumber, Cond.selects RX5 yX5_takesNumber yX5_takesNumber, Cond.code yX5_takesNumber cX5_takesNumber 2 (some .boolean), Cond.methodLink RX5 203 yX5_isNext, Cond.instanceMethod yX5_isNext, Cond.selects RX5 yX5_isNext yX5_isNext, Cond.code yX5_isNext cX5_isNext 3 (some .boolean)]
def wsX5_findFault : List Cond := .code yX5_findFault cX5_findFault 1 (some .int) :: ((wsX5_findFault_r1 ++ wsX5_findFault_r2) ++ wsX50)
def wsX5_fault_r1 : List Cond := [Cond.methodLink RX5 215 yX5_findFault, Cond.instanceMethod yX5_findFault, Cond.selects RX5 yX5_findFault yX5_findFault, Cond.initialized RX5, Cond.code yX5_findFault cX5_findFault 1 (some .int), Cond.fieldLink RX5 184 "JoinedSketchesModel" "at" "I", Cond.fieldLink RX5 173 "JoinedSketchesModel" "padLength" "I", Cond.methodLink RX5 212 yX5_readsOrder, Cond.instanceMethod yX5_readsOrder, Cond.selects RX5 yX5_readsOrder yX5_readsOrder, Cond.code yX5_readsOrder cX5_readsOrder 1 (some .boolean), Cond.fieldLink RX5 193 "JoinedSketchesModel" "numbersMany" "I", Cond.fieldLink RX5 206 "JoinedSketchesModel" "sketch" "I", Cond.fieldLink RX5 196 "JoinedSketchesModel" "letter" "I", Cond.methodLink RX5 190 yX5_takeDigit, Cond.instanceMethod yX5_takeDigit, Cond.selects RX5 yX5_takeDigit yX5_takeDigit, Cond.code yX5_takeDigit cX5_takeDigit 3 (some .int), Cond.methodLink RX5 187 yX5_character, Cond.instanceMethod yX5_character, Cond.selects RX5 yX5_character yX5_character, Cond.code yX5_character cX5_character 2 (some .int), Cond.fieldLink RX5 22 "JoinedSketchesModel" "pad" "[I", Cond.methodLink RX5 43 yX5_within]
def wsX5_fault_r2 : List Cond := [Cond.static yX5_within, Cond.code yX5_within cX5_within 3 (some .boolean), Cond.methodLink RX5 209 yX5_readsRest, Cond.instanceMethod yX5_readsRest, Cond.selects RX5 yX5_readsRest yX5_readsRest, Cond.code yX5_readsRest cX5_readsRest 2 (some .boolean), Cond.fieldLink RX5 28 "JoinedSketchesModel" "numbers" "[I", Cond.methodLink RX5 199 yX5_takesNumber, Cond.instanceMethod yX5_takesNumber, Cond.selects RX5 yX5_takesNumber yX5_takesNumber, Cond.code yX5_takesNumber cX5_takesNumber 2 (some .boolean), Cond.methodLink RX5 203 yX5_isNext, Cond.instanceMethod yX5_isNext, Cond.selects RX5 yX5_isNext yX5_isNext, Cond.code yX5_isNext cX5_isNext 3 (some .boolean)]
def wsX5_fault : List Cond := .code yX5_fault cX5_fault 1 (some .int) :: ((wsX5_fault_r1 ++ wsX5_fault_r2) ++ wsX50)
def wsX5_canDo_r1 : List Cond := [Cond.fieldLink RX5 196 "JoinedSketchesModel" "letter" "I", Cond.fieldLink RX5 206 "JoinedSketchesModel" "sketch" "I", Cond.fieldLink RX5 28 "JoinedSketchesModel" "numbers" "[I", Cond.methodLink RX5 141 yX5_whyNotJoined, Cond.instanceMethod yX5_whyNotJoined, Cond.selects RX5 yX5_whyNotJoined yX5_whyNotJoined, Cond.initialized RX5, Cond.code yX5_whyNotJoined cX5_whyNotJoined 3 (some .int), Cond.methodLink RX5 124 yX5_isSketch, Cond.static yX5_isSketch, Cond.code yX5_isSketch cX5_isSketch 1 (some .boolean), Cond.methodLink RX5 43 yX5_within, Cond.static yX5_within, Cond.code yX5_within cX5_within 3 (some .boolean), Cond.methodLink RX5 48 yX5_part, Cond.instanceMethod yX5_part, Cond.selects RX5 yX5_part yX5_part, Cond.code yX5_part cX5_part 3 (some .int), Cond.fieldLink RX5 7 "JoinedSketchesModel" "state" "[I", Cond.methodLink RX5 134 yX5_isRange, Cond.static yX5_isRange, Cond.code yX5_isRange cX5_isRange 2 (some .boolean), Cond.constant RX5 133 (100000), Cond.methodLink RX5 127 yX5_isThing]
def wsX5_canDo_r2 : List Cond := [Cond.static yX5_isThing, Cond.code yX5_isThing cX5_isThing 1 (some .boolean), Cond.constant RX5 47 (99999), Cond.methodLink RX5 147 yX5_whyNotFolded, Cond.instanceMethod yX5_whyNotFolded, Cond.selects RX5 yX5_whyNotFolded yX5_whyNotFolded, Cond.code yX5_whyNotFolded cX5_whyNotFolded 2 (some .int)]
def wsX5_canDo : List Cond := .code yX5_canDo cX5_canDo 1 (some .boolean) :: ((wsX5_canDo_r1 ++ wsX5_canDo_r2) ++ wsX50)
def wsX5_does_r1 : List Cond := [Cond.fieldLink RX5 196 "JoinedSketchesModel" "letter" "I", Cond.fieldLink RX5 193 "JoinedSketchesModel" "numbersMany" "I", Cond.fieldLink RX5 206 "JoinedSketchesModel" "sketch" "I", Cond.fieldLink RX5 28 "JoinedSketchesModel" "numbers" "[I", Cond.methodLink RX5 130 yX5_adds, Cond.instanceMethod yX5_adds, Cond.selects RX5 yX5_adds yX5_adds, Cond.initialized RX5, Cond.code yX5_adds cX5_adds 4 (some .int), Cond.methodLink RX5 110 yX5_wouldChange, Cond.instanceMethod yX5_wouldChange, Cond.selects RX5 yX5_wouldChange yX5_wouldChange, Cond.code yX5_wouldChange cX5_wouldChange 3 (some .boolean), Cond.methodLink RX5 66 yX5_rankIn, Cond.instanceMethod yX5_rankIn, Cond.selects RX5 yX5_rankIn yX5_rankIn, Cond.code yX5_rankIn cX5_rankIn 3 (some .int), Cond.fieldLink RX5 7 "JoinedSketchesModel" "state" "[I", Cond.methodLink RX5 56 yX5_hashOf, Cond.static yX5_hashOf, Cond.code yX5_hashOf cX5_hashOf 3 (some .int), Cond.constantLong RX5 52 (40503), Cond.constantLong RX5 54 (65536), Cond.methodLink RX5 48 yX5_part]
def wsX5_does_r2 : List Cond := [Cond.instanceMethod yX5_part, Cond.selects RX5 yX5_part yX5_part, Cond.code yX5_part cX5_part 3 (some .int), Cond.methodLink RX5 63 yX5_rankOf, Cond.static yX5_rankOf, Cond.code yX5_rankOf cX5_rankOf 4 (some .int), Cond.methodLink RX5 69 yX5_bucketOf, Cond.instanceMethod yX5_bucketOf, Cond.selects RX5 yX5_bucketOf yX5_bucketOf, Cond.code yX5_bucketOf cX5_bucketOf 3 (some .int), Cond.methodLink RX5 59 yX5_bucketsOf, Cond.instanceMethod yX5_bucketsOf, Cond.selects RX5 yX5_bucketsOf yX5_bucketsOf, Cond.code yX5_bucketsOf cX5_bucketsOf 2 (some .int), Cond.methodLink RX5 31 yX5_setPart, Cond.instanceMethod yX5_setPart, Cond.selects RX5 yX5_setPart yX5_setPart, Cond.code yX5_setPart cX5_setPart 4 none, Cond.methodLink RX5 113 yX5_lists, Cond.instanceMethod yX5_lists, Cond.selects RX5 yX5_lists yX5_lists, Cond.code yX5_lists cX5_lists 4 none, Cond.methodLink RX5 99 yX5_isFull, Cond.instanceMethod yX5_isFull]
def wsX5_does_r3 : List Cond := [Cond.selects RX5 yX5_isFull yX5_isFull, Cond.code yX5_isFull cX5_isFull 2 (some .boolean), Cond.methodLink RX5 103 yX5_isListed, Cond.instanceMethod yX5_isListed, Cond.selects RX5 yX5_isListed yX5_isListed, Cond.code yX5_isListed cX5_isListed 5 (some .boolean), Cond.methodLink RX5 107 yX5_becomesFull, Cond.instanceMethod yX5_becomesFull, Cond.selects RX5 yX5_becomesFull yX5_becomesFull, Cond.code yX5_becomesFull cX5_becomesFull 3 none, Cond.methodLink RX5 144 yX5_joins, Cond.instanceMethod yX5_joins, Cond.selects RX5 yX5_joins yX5_joins, Cond.code yX5_joins cX5_joins 4 (some .int), Cond.methodLink RX5 96 yX5_estimateOf, Cond.instanceMethod yX5_estimateOf, Cond.selects RX5 yX5_estimateOf yX5_estimateOf, Cond.code yX5_estimateOf cX5_estimateOf 2 (some .int), Cond.methodLink RX5 89 yX5_takeRanks, Cond.instanceMethod yX5_takeRanks, Cond.selects RX5 yX5_takeRanks yX5_takeRanks, Cond.code yX5_takeRanks cX5_takeRanks 3 none, Cond.fieldLink RX5 25 "JoinedSketchesModel" "ranks" "[I", Cond.methodLink RX5 93 yX5_estimateBy]
def wsX5_does_r4 : List Cond := [Cond.instanceMethod yX5_estimateBy, Cond.selects RX5 yX5_estimateBy yX5_estimateBy, Cond.code yX5_estimateBy cX5_estimateBy 6 (some .int), Cond.methodLink RX5 83 yX5_rawBy, Cond.instanceMethod yX5_rawBy, Cond.selects RX5 yX5_rawBy yX5_rawBy, Cond.code yX5_rawBy cX5_rawBy 2 (some .int), Cond.constantLong RX5 76 (7), Cond.constantLong RX5 78 (10), Cond.methodLink RX5 80 yX5_sumBy, Cond.instanceMethod yX5_sumBy, Cond.selects RX5 yX5_sumBy yX5_sumBy, Cond.code yX5_sumBy cX5_sumBy 4 (some .int), Cond.constant RX5 75 (65536), Cond.methodLink RX5 86 yX5_emptyBy, Cond.instanceMethod yX5_emptyBy, Cond.selects RX5 yX5_emptyBy yX5_emptyBy, Cond.code yX5_emptyBy cX5_emptyBy 4 (some .int), Cond.methodLink RX5 137 yX5_addsRange, Cond.instanceMethod yX5_addsRange, Cond.selects RX5 yX5_addsRange yX5_addsRange, Cond.code yX5_addsRange cX5_addsRange 6 (some .int), Cond.methodLink RX5 150 yX5_folds, Cond.instanceMethod yX5_folds]
def wsX5_does_r5 : List Cond := [Cond.selects RX5 yX5_folds yX5_folds, Cond.code yX5_folds cX5_folds 6 (some .int), Cond.methodLink RX5 121 yX5_empties, Cond.instanceMethod yX5_empties, Cond.selects RX5 yX5_empties yX5_empties, Cond.code yX5_empties cX5_empties 4 (some .int), Cond.methodLink RX5 72 yX5_filled, Cond.instanceMethod yX5_filled, Cond.selects RX5 yX5_filled yX5_filled, Cond.code yX5_filled cX5_filled 4 (some .int)]
def wsX5_does : List Cond := .code yX5_does cX5_does 2 none :: ((wsX5_does_r1 ++ (wsX5_does_r2 ++ (wsX5_does_r3 ++ (wsX5_does_r4 ++ wsX5_does_r5)))) ++ wsX50)
def wsX5_carryOut_r1 : List Cond := [Cond.fieldLink RX5 184 "JoinedSketchesModel" "at" "I", Cond.fieldLink RX5 173 "JoinedSketchesModel" "padLength" "I", Cond.methodLink RX5 215 yX5_findFault, Cond.instanceMethod yX5_findFault, Cond.selects RX5 yX5_findFault yX5_findFault, Cond.initialized RX5, Cond.code yX5_findFault cX5_findFault 1 (some .int), Cond.methodLink RX5 212 yX5_readsOrder, Cond.instanceMethod yX5_readsOrder, Cond.selects RX5 yX5_readsOrder yX5_readsOrder, Cond.code yX5_readsOrder cX5_readsOrder 1 (some .boolean), Cond.fieldLink RX5 193 "JoinedSketchesModel" "numbersMany" "I", Cond.fieldLink RX5 206 "JoinedSketchesModel" "sketch" "I", Cond.fieldLink RX5 196 "JoinedSketchesModel" "letter" "I", Cond.methodLink RX5 190 yX5_takeDigit, Cond.instanceMethod yX5_takeDigit, Cond.selects RX5 yX5_takeDigit yX5_takeDigit, Cond.code yX5_takeDigit cX5_takeDigit 3 (some .int), Cond.methodLink RX5 187 yX5_character, Cond.instanceMethod yX5_character, Cond.selects RX5 yX5_character yX5_character, Cond.code yX5_character cX5_character 2 (some .int), Cond.fieldLink RX5 22 "JoinedSketchesModel" "pad" "[I", Cond.methodLink RX5 43 yX5_within]
def wsX5_carryOut_r2 : List Cond := [Cond.static yX5_within, Cond.code yX5_within cX5_within 3 (some .boolean), Cond.methodLink RX5 209 yX5_readsRest, Cond.instanceMethod yX5_readsRest, Cond.selects RX5 yX5_readsRest yX5_readsRest, Cond.code yX5_readsRest cX5_readsRest 2 (some .boolean), Cond.fieldLink RX5 28 "JoinedSketchesModel" "numbers" "[I", Cond.methodLink RX5 199 yX5_takesNumber, Cond.instanceMethod yX5_takesNumber, Cond.selects RX5 yX5_takesNumber yX5_takesNumber, Cond.code yX5_takesNumber cX5_takesNumber 2 (some .boolean), Cond.methodLink RX5 203 yX5_isNext, Cond.instanceMethod yX5_isNext, Cond.selects RX5 yX5_isNext yX5_isNext, Cond.code yX5_isNext cX5_isNext 3 (some .boolean), Cond.methodLink RX5 118 yX5_record, Cond.instanceMethod yX5_record, Cond.selects RX5 yX5_record yX5_record, Cond.code yX5_record cX5_record 2 none, Cond.fieldLink RX5 35 "JoinedSketchesModel" "recorded" "I", Cond.fieldLink RX5 13 "JoinedSketchesModel" "history" "[I", Cond.fieldLink RX5 7 "JoinedSketchesModel" "state" "[I", Cond.methodLink RX5 39 yX5_moves, Cond.static yX5_moves]
def wsX5_carryOut_r3 : List Cond := [Cond.code yX5_moves cX5_moves 5 none, Cond.methodLink RX5 218 yX5_canDo, Cond.instanceMethod yX5_canDo, Cond.selects RX5 yX5_canDo yX5_canDo, Cond.code yX5_canDo cX5_canDo 1 (some .boolean), Cond.methodLink RX5 141 yX5_whyNotJoined, Cond.instanceMethod yX5_whyNotJoined, Cond.selects RX5 yX5_whyNotJoined yX5_whyNotJoined, Cond.code yX5_whyNotJoined cX5_whyNotJoined 3 (some .int), Cond.methodLink RX5 124 yX5_isSketch, Cond.static yX5_isSketch, Cond.code yX5_isSketch cX5_isSketch 1 (some .boolean), Cond.methodLink RX5 48 yX5_part, Cond.instanceMethod yX5_part, Cond.selects RX5 yX5_part yX5_part, Cond.code yX5_part cX5_part 3 (some .int), Cond.methodLink RX5 134 yX5_isRange, Cond.static yX5_isRange, Cond.code yX5_isRange cX5_isRange 2 (some .boolean), Cond.constant RX5 133 (100000), Cond.methodLink RX5 127 yX5_isThing, Cond.static yX5_isThing, Cond.code yX5_isThing cX5_isThing 1 (some .boolean), Cond.constant RX5 47 (99999)]
def wsX5_carryOut_r4 : List Cond := [Cond.methodLink RX5 147 yX5_whyNotFolded, Cond.instanceMethod yX5_whyNotFolded, Cond.selects RX5 yX5_whyNotFolded yX5_whyNotFolded, Cond.code yX5_whyNotFolded cX5_whyNotFolded 2 (some .int), Cond.methodLink RX5 221 yX5_does, Cond.instanceMethod yX5_does, Cond.selects RX5 yX5_does yX5_does, Cond.code yX5_does cX5_does 2 none, Cond.methodLink RX5 130 yX5_adds, Cond.instanceMethod yX5_adds, Cond.selects RX5 yX5_adds yX5_adds, Cond.code yX5_adds cX5_adds 4 (some .int), Cond.methodLink RX5 110 yX5_wouldChange, Cond.instanceMethod yX5_wouldChange, Cond.selects RX5 yX5_wouldChange yX5_wouldChange, Cond.code yX5_wouldChange cX5_wouldChange 3 (some .boolean), Cond.methodLink RX5 66 yX5_rankIn, Cond.instanceMethod yX5_rankIn, Cond.selects RX5 yX5_rankIn yX5_rankIn, Cond.code yX5_rankIn cX5_rankIn 3 (some .int), Cond.methodLink RX5 56 yX5_hashOf, Cond.static yX5_hashOf, Cond.code yX5_hashOf cX5_hashOf 3 (some .int), Cond.constantLong RX5 52 (40503)]
def wsX5_carryOut_r5 : List Cond := [Cond.constantLong RX5 54 (65536), Cond.methodLink RX5 63 yX5_rankOf, Cond.static yX5_rankOf, Cond.code yX5_rankOf cX5_rankOf 4 (some .int), Cond.methodLink RX5 69 yX5_bucketOf, Cond.instanceMethod yX5_bucketOf, Cond.selects RX5 yX5_bucketOf yX5_bucketOf, Cond.code yX5_bucketOf cX5_bucketOf 3 (some .int), Cond.methodLink RX5 59 yX5_bucketsOf, Cond.instanceMethod yX5_bucketsOf, Cond.selects RX5 yX5_bucketsOf yX5_bucketsOf, Cond.code yX5_bucketsOf cX5_bucketsOf 2 (some .int), Cond.methodLink RX5 31 yX5_setPart, Cond.instanceMethod yX5_setPart, Cond.selects RX5 yX5_setPart yX5_setPart, Cond.code yX5_setPart cX5_setPart 4 none, Cond.methodLink RX5 113 yX5_lists, Cond.instanceMethod yX5_lists, Cond.selects RX5 yX5_lists yX5_lists, Cond.code yX5_lists cX5_lists 4 none, Cond.methodLink RX5 99 yX5_isFull, Cond.instanceMethod yX5_isFull, Cond.selects RX5 yX5_isFull yX5_isFull, Cond.code yX5_isFull cX5_isFull 2 (some .boolean)]
def wsX5_carryOut_r6 : List Cond := [Cond.methodLink RX5 103 yX5_isListed, Cond.instanceMethod yX5_isListed, Cond.selects RX5 yX5_isListed yX5_isListed, Cond.code yX5_isListed cX5_isListed 5 (some .boolean), Cond.methodLink RX5 107 yX5_becomesFull, Cond.instanceMethod yX5_becomesFull, Cond.selects RX5 yX5_becomesFull yX5_becomesFull, Cond.code yX5_becomesFull cX5_becomesFull 3 none, Cond.methodLink RX5 144 yX5_joins, Cond.instanceMethod yX5_joins, Cond.selects RX5 yX5_joins yX5_joins, Cond.code yX5_joins cX5_joins 4 (some .int), Cond.methodLink RX5 96 yX5_estimateOf, Cond.instanceMethod yX5_estimateOf, Cond.selects RX5 yX5_estimateOf yX5_estimateOf, Cond.code yX5_estimateOf cX5_estimateOf 2 (some .int), Cond.methodLink RX5 89 yX5_takeRanks, Cond.instanceMethod yX5_takeRanks, Cond.selects RX5 yX5_takeRanks yX5_takeRanks, Cond.code yX5_takeRanks cX5_takeRanks 3 none, Cond.fieldLink RX5 25 "JoinedSketchesModel" "ranks" "[I", Cond.methodLink RX5 93 yX5_estimateBy, Cond.instanceMethod yX5_estimateBy, Cond.selects RX5 yX5_estimateBy yX5_estimateBy]
def wsX5_carryOut_r7 : List Cond := [Cond.code yX5_estimateBy cX5_estimateBy 6 (some .int), Cond.methodLink RX5 83 yX5_rawBy, Cond.instanceMethod yX5_rawBy, Cond.selects RX5 yX5_rawBy yX5_rawBy, Cond.code yX5_rawBy cX5_rawBy 2 (some .int), Cond.constantLong RX5 76 (7), Cond.constantLong RX5 78 (10), Cond.methodLink RX5 80 yX5_sumBy, Cond.instanceMethod yX5_sumBy, Cond.selects RX5 yX5_sumBy yX5_sumBy, Cond.code yX5_sumBy cX5_sumBy 4 (some .int), Cond.constant RX5 75 (65536), Cond.methodLink RX5 86 yX5_emptyBy, Cond.instanceMethod yX5_emptyBy, Cond.selects RX5 yX5_emptyBy yX5_emptyBy, Cond.code yX5_emptyBy cX5_emptyBy 4 (some .int), Cond.methodLink RX5 137 yX5_addsRange, Cond.instanceMethod yX5_addsRange, Cond.selects RX5 yX5_addsRange yX5_addsRange, Cond.code yX5_addsRange cX5_addsRange 6 (some .int), Cond.methodLink RX5 150 yX5_folds, Cond.instanceMethod yX5_folds, Cond.selects RX5 yX5_folds yX5_folds, Cond.code yX5_folds cX5_folds 6 (some .int)]
def wsX5_carryOut_r8 : List Cond := [Cond.methodLink RX5 121 yX5_empties, Cond.instanceMethod yX5_empties, Cond.selects RX5 yX5_empties yX5_empties, Cond.code yX5_empties cX5_empties 4 (some .int), Cond.methodLink RX5 72 yX5_filled, Cond.instanceMethod yX5_filled, Cond.selects RX5 yX5_filled yX5_filled, Cond.code yX5_filled cX5_filled 4 (some .int)]
def wsX5_carryOut : List Cond := .code yX5_carryOut cX5_carryOut 3 (some .int) :: ((wsX5_carryOut_r1 ++ (wsX5_carryOut_r2 ++ (wsX5_carryOut_r3 ++ (wsX5_carryOut_r4 ++ (wsX5_carryOut_r5 ++ (wsX5_carryOut_r6 ++ (wsX5_carryOut_r7 ++ wsX5_carryOut_r8))))))) ++ wsX50)
def wsX5_undo : List Cond := .code yX5_undo cX5_undo 1 (some .int) :: ([.fieldLink RX5 35 "JoinedSketchesModel" "recorded" "I", .fieldLink RX5 13 "JoinedSketchesModel" "history" "[I", .fieldLink RX5 7 "JoinedSketchesModel" "state" "[I", .methodLink RX5 39 yX5_moves, .static yX5_moves, .initialized RX5, .code yX5_moves cX5_moves 5 none] ++ wsX50)
def wsX5_save_r1 : List Cond := [Cond.fieldLink RX5 7 "JoinedSketchesModel" "state" "[I", Cond.fieldLink RX5 16 "JoinedSketchesModel" "slots" "[I", Cond.fieldLink RX5 19 "JoinedSketchesModel" "isSaved" "[I", Cond.methodLink RX5 43 yX5_within, Cond.static yX5_within, Cond.initialized RX5, Cond.code yX5_within cX5_within 3 (some .boolean), Cond.methodLink RX5 39 yX5_moves, Cond.static yX5_moves, Cond.code yX5_moves cX5_moves 5 none, Cond.methodLink RX5 167 yX5_allFilled, Cond.instanceMethod yX5_allFilled, Cond.selects RX5 yX5_allFilled yX5_allFilled, Cond.code yX5_allFilled cX5_allFilled 3 (some .int), Cond.methodLink RX5 72 yX5_filled, Cond.instanceMethod yX5_filled, Cond.selects RX5 yX5_filled yX5_filled, Cond.code yX5_filled cX5_filled 4 (some .int), Cond.methodLink RX5 59 yX5_bucketsOf, Cond.instanceMethod yX5_bucketsOf, Cond.selects RX5 yX5_bucketsOf yX5_bucketsOf, Cond.code yX5_bucketsOf cX5_bucketsOf 2 (some .int), Cond.methodLink RX5 48 yX5_part, Cond.instanceMethod yX5_part]
def wsX5_save_r2 : List Cond := [Cond.selects RX5 yX5_part yX5_part, Cond.code yX5_part cX5_part 3 (some .int)]
def wsX5_save : List Cond := .code yX5_save cX5_save 2 (some .int) :: ((wsX5_save_r1 ++ wsX5_save_r2) ++ wsX50)
def wsX5_restore_r1 : List Cond := [Cond.fieldLink RX5 19 "JoinedSketchesModel" "isSaved" "[I", Cond.fieldLink RX5 16 "JoinedSketchesModel" "slots" "[I", Cond.fieldLink RX5 7 "JoinedSketchesModel" "state" "[I", Cond.methodLink RX5 43 yX5_within, Cond.static yX5_within, Cond.initialized RX5, Cond.code yX5_within cX5_within 3 (some .boolean), Cond.methodLink RX5 118 yX5_record, Cond.instanceMethod yX5_record, Cond.selects RX5 yX5_record yX5_record, Cond.code yX5_record cX5_record 2 none, Cond.fieldLink RX5 35 "JoinedSketchesModel" "recorded" "I", Cond.fieldLink RX5 13 "JoinedSketchesModel" "history" "[I", Cond.methodLink RX5 39 yX5_moves, Cond.static yX5_moves, Cond.code yX5_moves cX5_moves 5 none, Cond.methodLink RX5 167 yX5_allFilled, Cond.instanceMethod yX5_allFilled, Cond.selects RX5 yX5_allFilled yX5_allFilled, Cond.code yX5_allFilled cX5_allFilled 3 (some .int), Cond.methodLink RX5 72 yX5_filled, Cond.instanceMethod yX5_filled, Cond.selects RX5 yX5_filled yX5_filled, Cond.code yX5_filled cX5_filled 4 (some .int)]
def wsX5_restore_r2 : List Cond := [Cond.methodLink RX5 59 yX5_bucketsOf, Cond.instanceMethod yX5_bucketsOf, Cond.selects RX5 yX5_bucketsOf yX5_bucketsOf, Cond.code yX5_bucketsOf cX5_bucketsOf 2 (some .int), Cond.methodLink RX5 48 yX5_part, Cond.instanceMethod yX5_part, Cond.selects RX5 yX5_part yX5_part, Cond.code yX5_part cX5_part 3 (some .int)]
def wsX5_restore : List Cond := .code yX5_restore cX5_restore 2 (some .int) :: ((wsX5_restore_r1 ++ wsX5_restore_r2) ++ wsX50)
def wsJ9_abs_0f7a4 : List Cond := .code yJ9_abs_0f7a4 cJ9_abs_0f7a4 1 (some .int) :: ([])
def wsJ9_max_7cf53 : List Cond := .code yJ9_max_7cf53 cJ9_max_7cf53 2 (some .int) :: ([])
def wsL_law_r1 : List Cond := [Cond.classLink RL 7 RX4, Cond.instantiable RX4 6, Cond.initialized RX4, Cond.classLink RL 10 RX5, Cond.instantiable RX5 13, Cond.initialized RX5, Cond.constantLong RL 89 (4294967295), Cond.methodLink RL 9 yX4_init, Cond.instanceMethod yX4_init, Cond.code yX4_init cX4_init 2 none, Cond.methodLink RX4 1 objectInit, Cond.instanceMethod objectInit, Cond.code objectInit ⟨#[0xb1]⟩ 1 none, Cond.classLink RX4 7 RX3, Cond.instantiable RX3 2, Cond.initialized RX3, Cond.fieldLink RX4 10 "JoinedSketches" "now" "LJoinedSketches$State;", Cond.classLink RX4 16 RX0, Cond.instantiable RX0 3, Cond.initialized RX0, Cond.fieldLink RX4 19 "JoinedSketches" "history" "LJoinedSketches$History;", Cond.fieldLink RX4 23 "JoinedSketches" "slots" "[LJoinedSketches$State;", Cond.arrayClass .boolean, Cond.fieldLink RX4 27 "JoinedSketches" "saved" "[Z"]
def wsL_law_r2 : List Cond := [Cond.classLink RX4 31 RX1, Cond.instantiable RX1 7, Cond.initialized RX1, Cond.fieldLink RX4 34 "JoinedSketches" "pad" "LJoinedSketches$Pad;", Cond.classLink RX4 38 RX2, Cond.instantiable RX2 5, Cond.initialized RX2, Cond.fieldLink RX4 41 "JoinedSketches" "trial" "LJoinedSketches$Sketch;", Cond.methodLink RX4 9 yX3_init, Cond.instanceMethod yX3_init, Cond.code yX3_init cX3_init 2 none, Cond.methodLink RX3 3 objectInit, Cond.fieldLink RX3 9 "JoinedSketches$State" "salt" "I", Cond.classLink RX3 15 RX2, Cond.fieldLink RX3 17 "JoinedSketches$State" "sketches" "[LJoinedSketches$Sketch;", Cond.instanceMethod yX2_init, Cond.code yX2_init cX2_init 1 none, Cond.methodLink RX2 3 objectInit, Cond.fieldLink RX2 9 "JoinedSketches$Sketch" "bits" "I", Cond.arrayClass .int, Cond.fieldLink RX2 15 "JoinedSketches$Sketch" "ranks" "[I", Cond.fieldLink RX2 19 "JoinedSketches$Sketch" "things" "[I", Cond.fieldLink RX2 22 "JoinedSketches$Sketch" "listLength" "I", Cond.fieldLink RX2 25 "JoinedSketches$Sketch" "full" "Z"]
def wsL_law_r3 : List Cond := [Cond.methodLink RX4 18 yX0_init, Cond.instanceMethod yX0_init, Cond.code yX0_init cX0_init 2 none, Cond.methodLink RX0 3 objectInit, Cond.classLink RX0 9 RX3, Cond.fieldLink RX0 11 "JoinedSketches$History" "ring" "[LJoinedSketches$State;", Cond.fieldLink RX0 17 "JoinedSketches$History" "oldest" "I", Cond.fieldLink RX0 21 "JoinedSketches$History" "size" "I", Cond.methodLink RX0 24 yX3_init, Cond.instanceMethod yX1_init, Cond.code yX1_init cX1_init 1 none, Cond.methodLink RX1 3 objectInit, Cond.arrayClass .char, Cond.fieldLink RX1 9 "JoinedSketches$Pad" "signs" "[C", Cond.fieldLink RX1 15 "JoinedSketches$Pad" "length" "I", Cond.fieldLink RX1 19 "JoinedSketches$Pad" "at" "I", Cond.fieldLink RX1 22 "JoinedSketches$Pad" "sketch" "I", Cond.fieldLink RX1 25 "JoinedSketches$Pad" "verb" "I", Cond.fieldLink RX1 28 "JoinedSketches$Pad" "numbers" "[I", Cond.fieldLink RX1 32 "JoinedSketches$Pad" "many" "I", Cond.methodLink RL 12 yX5_init, Cond.instanceMethod yX5_init, Cond.code yX5_init cX5_init 2 none, Cond.methodLink RX5 1 objectInit]
def wsL_law_r4 : List Cond := [Cond.fieldLink RX5 7 "JoinedSketchesModel" "state" "[I", Cond.fieldLink RX5 13 "JoinedSketchesModel" "history" "[I", Cond.fieldLink RX5 16 "JoinedSketchesModel" "slots" "[I", Cond.fieldLink RX5 19 "JoinedSketchesModel" "isSaved" "[I", Cond.fieldLink RX5 22 "JoinedSketchesModel" "pad" "[I", Cond.fieldLink RX5 25 "JoinedSketchesModel" "ranks" "[I", Cond.fieldLink RX5 28 "JoinedSketchesModel" "numbers" "[I", Cond.methodLink RX5 31 yX5_setPart, Cond.instanceMethod yX5_setPart, Cond.selects RX5 yX5_setPart yX5_setPart, Cond.code yX5_setPart cX5_setPart 4 none, Cond.methodLink RL 13 yX4_salt, Cond.instanceMethod yX4_salt, Cond.selects RX4 yX4_salt yX4_salt, Cond.code yX4_salt cX4_salt 3 (some .int), Cond.constant RX4 45 (65536), Cond.methodLink RX4 46 yX0_record, Cond.instanceMethod yX0_record, Cond.selects RX0 yX0_record yX0_record, Cond.code yX0_record cX0_record 2 none, Cond.methodLink RX0 25 yJ9_floorMod_7cf53, Cond.static yJ9_floorMod_7cf53, Cond.initialized RJ9, Cond.code yJ9_floorMod_7cf53 cJ9_floorMod_7cf53 3 (some .int)]
def wsL_law_r5 : List Cond := [Cond.methodLink RX0 31 yX3_copyFrom, Cond.instanceMethod yX3_copyFrom, Cond.selects RX3 yX3_copyFrom yX3_copyFrom, Cond.code yX3_copyFrom cX3_copyFrom 3 none, Cond.methodLink RX3 29 yX2_copyFrom, Cond.instanceMethod yX2_copyFrom, Cond.selects RX2 yX2_copyFrom yX2_copyFrom, Cond.code yX2_copyFrom cX2_copyFrom 2 none, Cond.methodLink RX2 84 arraycopyName, Cond.native arraycopyName, Cond.static arraycopyName, Cond.initialized "java/lang/System", Cond.methodLink RX4 54 yX3_changeSalt, Cond.instanceMethod yX3_changeSalt, Cond.selects RX3 yX3_changeSalt yX3_changeSalt, Cond.code yX3_changeSalt cX3_changeSalt 6 none, Cond.methodLink RX3 25 yX2_startAgain, Cond.instanceMethod yX2_startAgain, Cond.selects RX2 yX2_startAgain yX2_startAgain, Cond.code yX2_startAgain cX2_startAgain 2 none, Cond.methodLink RX2 78 yJ7_fill_53178, Cond.static yJ7_fill_53178, Cond.initialized RJ7, Cond.code yJ7_fill_53178 cJ7_fill_53178 4 none]
def wsL_law_r6 : List Cond := [Cond.methodLink RL 17 yX5_salt, Cond.instanceMethod yX5_salt, Cond.selects RX5 yX5_salt yX5_salt, Cond.code yX5_salt cX5_salt 4 (some .int), Cond.constant RX5 117 (65535), Cond.methodLink RX5 43 yX5_within, Cond.static yX5_within, Cond.code yX5_within cX5_within 3 (some .boolean), Cond.methodLink RX5 118 yX5_record, Cond.instanceMethod yX5_record, Cond.selects RX5 yX5_record yX5_record, Cond.code yX5_record cX5_record 2 none, Cond.fieldLink RX5 35 "JoinedSketchesModel" "recorded" "I", Cond.methodLink RX5 39 yX5_moves, Cond.static yX5_moves, Cond.code yX5_moves cX5_moves 5 none, Cond.methodLink RX5 121 yX5_empties, Cond.instanceMethod yX5_empties, Cond.selects RX5 yX5_empties yX5_empties, Cond.code yX5_empties cX5_empties 4 (some .int), Cond.methodLink RX5 72 yX5_filled, Cond.instanceMethod yX5_filled, Cond.selects RX5 yX5_filled yX5_filled, Cond.code yX5_filled cX5_filled 4 (some .int)]
def wsL_law_r7 : List Cond := [Cond.methodLink RX5 59 yX5_bucketsOf, Cond.instanceMethod yX5_bucketsOf, Cond.selects RX5 yX5_bucketsOf yX5_bucketsOf, Cond.code yX5_bucketsOf cX5_bucketsOf 2 (some .int), Cond.methodLink RX5 48 yX5_part, Cond.instanceMethod yX5_part, Cond.selects RX5 yX5_part yX5_part, Cond.code yX5_part cX5_part 3 (some .int), Cond.methodLink RL 18 yX4_bits, Cond.instanceMethod yX4_bits, Cond.selects RX4 yX4_bits yX4_bits, Cond.code yX4_bits cX4_bits 5 (some .int), Cond.methodLink RX4 58 yX3_sketchAt, Cond.instanceMethod yX3_sketchAt, Cond.selects RX3 yX3_sketchAt yX3_sketchAt, Cond.code yX3_sketchAt cX3_sketchAt 2 (some (.object "JoinedSketches$Sketch")), Cond.methodLink RX4 65 yX2_startAgain, Cond.methodLink RL 22 yX5_bits, Cond.instanceMethod yX5_bits, Cond.selects RX5 yX5_bits yX5_bits, Cond.code yX5_bits cX5_bits 4 (some .int), Cond.methodLink RX5 124 yX5_isSketch, Cond.static yX5_isSketch, Cond.code yX5_isSketch cX5_isSketch 1 (some .boolean)]
def wsL_law_r8 : List Cond := [Cond.methodLink RL 23 yX4_add, Cond.instanceMethod yX4_add, Cond.selects RX4 yX4_add yX4_add, Cond.code yX4_add cX4_add 4 (some .int), Cond.methodLink RX4 68 yX4_isThing, Cond.static yX4_isThing, Cond.code yX4_isThing cX4_isThing 1 (some .boolean), Cond.constant RX4 184 (100000), Cond.methodLink RX4 72 yX4_takeThings, Cond.instanceMethod yX4_takeThings, Cond.selects RX4 yX4_takeThings yX4_takeThings, Cond.code yX4_takeThings cX4_takeThings 6 (some .int), Cond.methodLink RX4 105 yX4_hashOf, Cond.static yX4_hashOf, Cond.code yX4_hashOf cX4_hashOf 3 (some .int), Cond.constant RX4 224 (40503), Cond.constant RX4 225 (65535), Cond.methodLink RX4 226 yX2_takeHash, Cond.instanceMethod yX2_takeHash, Cond.selects RX2 yX2_takeHash yX2_takeHash, Cond.code yX2_takeHash cX2_takeHash 2 (some .boolean), Cond.methodLink RX2 46 yX2_bucketOf, Cond.instanceMethod yX2_bucketOf, Cond.selects RX2 yX2_bucketOf yX2_bucketOf]
def wsL_law_r9 : List Cond := [Cond.code yX2_bucketOf cX2_bucketOf 2 (some .int), Cond.methodLink RX2 33 yX2_buckets, Cond.instanceMethod yX2_buckets, Cond.selects RX2 yX2_buckets yX2_buckets, Cond.code yX2_buckets cX2_buckets 1 (some .int), Cond.methodLink RX2 43 yX2_rankOf, Cond.instanceMethod yX2_rankOf, Cond.selects RX2 yX2_rankOf yX2_rankOf, Cond.code yX2_rankOf cX2_rankOf 4 (some .int), Cond.methodLink RX2 37 yJ6_bitCount_0f7a4, Cond.static yJ6_bitCount_0f7a4, Cond.initialized RJ6, Cond.code yJ6_bitCount_0f7a4 cJ6_bitCount_0f7a4 1 (some .int), Cond.constant RJ6 265 (1431655765), Cond.constant RJ6 266 (858993459), Cond.constant RJ6 267 (252645135), Cond.methodLink RX2 52 yX2_raise, Cond.instanceMethod yX2_raise, Cond.selects RX2 yX2_raise yX2_raise, Cond.code yX2_raise cX2_raise 3 (some .boolean), Cond.methodLink RX2 29 yX2_hasBucket, Cond.instanceMethod yX2_hasBucket, Cond.selects RX2 yX2_hasBucket yX2_hasBucket, Cond.code yX2_hasBucket cX2_hasBucket 2 (some .boolean)]
def wsL_law_r10 : List Cond := [Cond.methodLink RX4 229 yX2_list, Cond.instanceMethod yX2_list, Cond.selects RX2 yX2_list yX2_list, Cond.code yX2_list cX2_list 2 none, Cond.methodLink RX2 56 yX2_isListed, Cond.instanceMethod yX2_isListed, Cond.selects RX2 yX2_isListed yX2_isListed, Cond.code yX2_isListed cX2_isListed 3 (some .boolean), Cond.methodLink RX2 59 yX2_fillList, Cond.instanceMethod yX2_fillList, Cond.selects RX2 yX2_fillList yX2_fillList, Cond.code yX2_fillList cX2_fillList 1 none, Cond.methodLink RL 26 yX5_add, Cond.instanceMethod yX5_add, Cond.selects RX5 yX5_add yX5_add, Cond.code yX5_add cX5_add 3 (some .int), Cond.methodLink RX5 127 yX5_isThing, Cond.static yX5_isThing, Cond.code yX5_isThing cX5_isThing 1 (some .boolean), Cond.constant RX5 47 (99999), Cond.methodLink RX5 130 yX5_adds, Cond.instanceMethod yX5_adds, Cond.selects RX5 yX5_adds yX5_adds, Cond.code yX5_adds cX5_adds 4 (some .int)]
def wsL_law_r11 : List Cond := [Cond.methodLink RX5 110 yX5_wouldChange, Cond.instanceMethod yX5_wouldChange, Cond.selects RX5 yX5_wouldChange yX5_wouldChange, Cond.code yX5_wouldChange cX5_wouldChange 3 (some .boolean), Cond.methodLink RX5 66 yX5_rankIn, Cond.instanceMethod yX5_rankIn, Cond.selects RX5 yX5_rankIn yX5_rankIn, Cond.code yX5_rankIn cX5_rankIn 3 (some .int), Cond.methodLink RX5 56 yX5_hashOf, Cond.static yX5_hashOf, Cond.code yX5_hashOf cX5_hashOf 3 (some .int), Cond.constantLong RX5 52 (40503), Cond.constantLong RX5 54 (65536), Cond.methodLink RX5 63 yX5_rankOf, Cond.static yX5_rankOf, Cond.code yX5_rankOf cX5_rankOf 4 (some .int), Cond.methodLink RX5 69 yX5_bucketOf, Cond.instanceMethod yX5_bucketOf, Cond.selects RX5 yX5_bucketOf yX5_bucketOf, Cond.code yX5_bucketOf cX5_bucketOf 3 (some .int), Cond.methodLink RX5 113 yX5_lists, Cond.instanceMethod yX5_lists, Cond.selects RX5 yX5_lists yX5_lists, Cond.code yX5_lists cX5_lists 4 none]
def wsL_law_r12 : List Cond := [Cond.methodLink RX5 99 yX5_isFull, Cond.instanceMethod yX5_isFull, Cond.selects RX5 yX5_isFull yX5_isFull, Cond.code yX5_isFull cX5_isFull 2 (some .boolean), Cond.methodLink RX5 103 yX5_isListed, Cond.instanceMethod yX5_isListed, Cond.selects RX5 yX5_isListed yX5_isListed, Cond.code yX5_isListed cX5_isListed 5 (some .boolean), Cond.methodLink RX5 107 yX5_becomesFull, Cond.instanceMethod yX5_becomesFull, Cond.selects RX5 yX5_becomesFull yX5_becomesFull, Cond.code yX5_becomesFull cX5_becomesFull 3 none, Cond.methodLink RL 27 yX4_addRange, Cond.instanceMethod yX4_addRange, Cond.selects RX4 yX4_addRange yX4_addRange, Cond.code yX4_addRange cX4_addRange 5 (some .int), Cond.methodLink RX4 76 yX4_isRange, Cond.static yX4_isRange, Cond.code yX4_isRange cX4_isRange 2 (some .boolean), Cond.methodLink RL 31 yX5_addRange, Cond.instanceMethod yX5_addRange, Cond.selects RX5 yX5_addRange yX5_addRange, Cond.code yX5_addRange cX5_addRange 4 (some .int), Cond.methodLink RX5 134 yX5_isRange]
def wsL_law_r13 : List Cond := [Cond.static yX5_isRange, Cond.code yX5_isRange cX5_isRange 2 (some .boolean), Cond.constant RX5 133 (100000), Cond.methodLink RX5 137 yX5_addsRange, Cond.instanceMethod yX5_addsRange, Cond.selects RX5 yX5_addsRange yX5_addsRange, Cond.code yX5_addsRange cX5_addsRange 6 (some .int), Cond.methodLink RL 32 yX4_join, Cond.instanceMethod yX4_join, Cond.selects RX4 yX4_join yX4_join, Cond.code yX4_join cX4_join 5 (some .int), Cond.methodLink RX4 80 yX4_areToJoin, Cond.static yX4_areToJoin, Cond.code yX4_areToJoin cX4_areToJoin 2 (some .boolean), Cond.methodLink RX4 84 yX2_takeAll, Cond.instanceMethod yX2_takeAll, Cond.selects RX2 yX2_takeAll yX2_takeAll, Cond.code yX2_takeAll cX2_takeAll 3 none, Cond.methodLink RX2 49 yX2_rankIn, Cond.instanceMethod yX2_rankIn, Cond.selects RX2 yX2_rankIn yX2_rankIn, Cond.code yX2_rankIn cX2_rankIn 2 (some .int), Cond.methodLink RX2 65 yX2_thingAt, Cond.instanceMethod yX2_thingAt]
def wsL_law_r14 : List Cond := [Cond.selects RX2 yX2_thingAt yX2_thingAt, Cond.code yX2_thingAt cX2_thingAt 2 (some .int), Cond.methodLink RX2 62 yX2_hasPlace, Cond.instanceMethod yX2_hasPlace, Cond.selects RX2 yX2_hasPlace yX2_hasPlace, Cond.code yX2_hasPlace cX2_hasPlace 2 (some .boolean), Cond.methodLink RX2 68 yX2_list, Cond.methodLink RX4 88 yX2_estimate, Cond.instanceMethod yX2_estimate, Cond.selects RX2 yX2_estimate yX2_estimate, Cond.code yX2_estimate cX2_estimate 3 (some .int), Cond.methodLink RX2 103 yX2_rawEstimate, Cond.instanceMethod yX2_rawEstimate, Cond.selects RX2 yX2_rawEstimate yX2_rawEstimate, Cond.code yX2_rawEstimate cX2_rawEstimate 5 (some .int), Cond.constantLong RX2 94 (10), Cond.constantLong RX2 99 (65536), Cond.constantLong RX2 101 (7), Cond.methodLink RX2 96 yX2_rankSum, Cond.instanceMethod yX2_rankSum, Cond.selects RX2 yX2_rankSum yX2_rankSum, Cond.code yX2_rankSum cX2_rankSum 3 (some .int), Cond.constant RX2 93 (65536), Cond.methodLink RX2 106 yX2_emptyBuckets]
def wsL_law_r15 : List Cond := [Cond.instanceMethod yX2_emptyBuckets, Cond.selects RX2 yX2_emptyBuckets yX2_emptyBuckets, Cond.code yX2_emptyBuckets cX2_emptyBuckets 1 (some .int), Cond.methodLink RX2 90 yX2_filledBuckets, Cond.instanceMethod yX2_filledBuckets, Cond.selects RX2 yX2_filledBuckets yX2_filledBuckets, Cond.code yX2_filledBuckets cX2_filledBuckets 3 (some .int), Cond.methodLink RX2 109 yX2_estimateByEmpty, Cond.instanceMethod yX2_estimateByEmpty, Cond.selects RX2 yX2_estimateByEmpty yX2_estimateByEmpty, Cond.code yX2_estimateByEmpty cX2_estimateByEmpty 4 (some .int), Cond.methodLink RX2 72 Lib.Math.max.name, Cond.static Lib.Math.max.name, Cond.initialized "java/lang/Math", Cond.code Lib.Math.max.name Lib.Math.max.code 2 (some .int), Cond.methodLink RL 35 yX5_join, Cond.instanceMethod yX5_join, Cond.selects RX5 yX5_join yX5_join, Cond.code yX5_join cX5_join 4 (some .int), Cond.methodLink RX5 141 yX5_whyNotJoined, Cond.instanceMethod yX5_whyNotJoined, Cond.selects RX5 yX5_whyNotJoined yX5_whyNotJoined, Cond.code yX5_whyNotJoined cX5_whyNotJoined 3 (some .int), Cond.methodLink RX5 144 yX5_joins]
def wsL_law_r16 : List Cond := [Cond.instanceMethod yX5_joins, Cond.selects RX5 yX5_joins yX5_joins, Cond.code yX5_joins cX5_joins 4 (some .int), Cond.methodLink RX5 96 yX5_estimateOf, Cond.instanceMethod yX5_estimateOf, Cond.selects RX5 yX5_estimateOf yX5_estimateOf, Cond.code yX5_estimateOf cX5_estimateOf 2 (some .int), Cond.methodLink RX5 89 yX5_takeRanks, Cond.instanceMethod yX5_takeRanks, Cond.selects RX5 yX5_takeRanks yX5_takeRanks, Cond.code yX5_takeRanks cX5_takeRanks 3 none, Cond.methodLink RX5 93 yX5_estimateBy, Cond.instanceMethod yX5_estimateBy, Cond.selects RX5 yX5_estimateBy yX5_estimateBy, Cond.code yX5_estimateBy cX5_estimateBy 6 (some .int), Cond.methodLink RX5 83 yX5_rawBy, Cond.instanceMethod yX5_rawBy, Cond.selects RX5 yX5_rawBy yX5_rawBy, Cond.code yX5_rawBy cX5_rawBy 2 (some .int), Cond.constantLong RX5 76 (7), Cond.constantLong RX5 78 (10), Cond.methodLink RX5 80 yX5_sumBy, Cond.instanceMethod yX5_sumBy, Cond.selects RX5 yX5_sumBy yX5_sumBy]
def wsL_law_r17 : List Cond := [Cond.code yX5_sumBy cX5_sumBy 4 (some .int), Cond.constant RX5 75 (65536), Cond.methodLink RX5 86 yX5_emptyBy, Cond.instanceMethod yX5_emptyBy, Cond.selects RX5 yX5_emptyBy yX5_emptyBy, Cond.code yX5_emptyBy cX5_emptyBy 4 (some .int), Cond.methodLink RL 36 yX4_fold, Cond.instanceMethod yX4_fold, Cond.selects RX4 yX4_fold yX4_fold, Cond.code yX4_fold cX4_fold 3 (some .int), Cond.methodLink RX4 92 yX4_isToFold, Cond.static yX4_isToFold, Cond.code yX4_isToFold cX4_isToFold 1 (some .boolean), Cond.methodLink RX4 96 yX2_halve, Cond.instanceMethod yX2_halve, Cond.selects RX2 yX2_halve yX2_halve, Cond.code yX2_halve cX2_halve 5 none, Cond.methodLink RX4 99 yX2_buckets, Cond.methodLink RL 39 yX5_fold, Cond.instanceMethod yX5_fold, Cond.selects RX5 yX5_fold yX5_fold, Cond.code yX5_fold cX5_fold 3 (some .int), Cond.methodLink RX5 147 yX5_whyNotFolded, Cond.instanceMethod yX5_whyNotFolded]
def wsL_law_r18 : List Cond := [Cond.selects RX5 yX5_whyNotFolded yX5_whyNotFolded, Cond.code yX5_whyNotFolded cX5_whyNotFolded 2 (some .int), Cond.methodLink RX5 150 yX5_folds, Cond.instanceMethod yX5_folds, Cond.selects RX5 yX5_folds yX5_folds, Cond.code yX5_folds cX5_folds 6 (some .int), Cond.methodLink RL 40 yX4_empty, Cond.instanceMethod yX4_empty, Cond.selects RX4 yX4_empty yX4_empty, Cond.code yX4_empty cX4_empty 4 (some .int), Cond.methodLink RX4 102 yX2_filledBuckets, Cond.methodLink RL 43 yX5_empty, Cond.instanceMethod yX5_empty, Cond.selects RX5 yX5_empty yX5_empty, Cond.code yX5_empty cX5_empty 2 (some .int), Cond.methodLink RL 44 yX4_thing, Cond.instanceMethod yX4_thing, Cond.selects RX4 yX4_thing yX4_thing, Cond.code yX4_thing cX4_thing 6 (some .int), Cond.methodLink RX4 109 yX2_bucketOf, Cond.methodLink RX4 113 yX2_rankOf, Cond.methodLink RX4 116 yX2_wouldChangeBy, Cond.instanceMethod yX2_wouldChangeBy, Cond.selects RX2 yX2_wouldChangeBy yX2_wouldChangeBy]
def wsL_law_r19 : List Cond := [Cond.code yX2_wouldChangeBy cX2_wouldChangeBy 2 (some .boolean), Cond.methodLink RL 47 yX5_thing, Cond.instanceMethod yX5_thing, Cond.selects RX5 yX5_thing yX5_thing, Cond.code yX5_thing cX5_thing 4 (some .int), Cond.methodLink RL 48 yX4_bucket, Cond.instanceMethod yX4_bucket, Cond.selects RX4 yX4_bucket yX4_bucket, Cond.code yX4_bucket cX4_bucket 4 (some .int), Cond.methodLink RX4 119 yX2_hasBucket, Cond.methodLink RX4 122 yX2_rankIn, Cond.methodLink RL 51 yX5_bucket, Cond.instanceMethod yX5_bucket, Cond.selects RX5 yX5_bucket yX5_bucket, Cond.code yX5_bucket cX5_bucket 3 (some .int), Cond.methodLink RL 52 yX4_ofSketch, Cond.instanceMethod yX4_ofSketch, Cond.selects RX4 yX4_ofSketch yX4_ofSketch, Cond.code yX4_ofSketch cX4_ofSketch 4 (some .int), Cond.methodLink RX4 125 yX2_emptyBuckets, Cond.methodLink RX4 128 yX2_greatestRank, Cond.instanceMethod yX2_greatestRank, Cond.selects RX2 yX2_greatestRank yX2_greatestRank, Cond.code yX2_greatestRank cX2_greatestRank 3 (some .int)]
def wsL_law_r20 : List Cond := [Cond.methodLink RX4 131 yX2_rankSum, Cond.methodLink RX4 134 yX2_rawEstimate, Cond.methodLink RX4 137 yX2_toldError, Cond.instanceMethod yX2_toldError, Cond.selects RX2 yX2_toldError yX2_toldError, Cond.code yX2_toldError cX2_toldError 3 (some .int), Cond.constantLong RX2 112 (100), Cond.constantLong RX2 120 (104), Cond.methodLink RX2 114 yX2_rootOfBuckets, Cond.instanceMethod yX2_rootOfBuckets, Cond.selects RX2 yX2_rootOfBuckets yX2_rootOfBuckets, Cond.code yX2_rootOfBuckets cX2_rootOfBuckets 3 (some .int), Cond.methodLink RX2 117 yX2_estimate, Cond.methodLink RL 55 yX5_ofSketch, Cond.instanceMethod yX5_ofSketch, Cond.selects RX5 yX5_ofSketch yX5_ofSketch, Cond.code yX5_ofSketch cX5_ofSketch 4 (some .int), Cond.methodLink RX5 153 yX5_greatestRank, Cond.instanceMethod yX5_greatestRank, Cond.selects RX5 yX5_greatestRank yX5_greatestRank, Cond.code yX5_greatestRank cX5_greatestRank 4 (some .int), Cond.methodLink RX5 156 yX5_errorOf, Cond.instanceMethod yX5_errorOf, Cond.selects RX5 yX5_errorOf yX5_errorOf]
def wsL_law_r21 : List Cond := [Cond.code yX5_errorOf cX5_errorOf 3 (some .int), Cond.methodLink RL 56 yX4_withRank, Cond.instanceMethod yX4_withRank, Cond.selects RX4 yX4_withRank yX4_withRank, Cond.code yX4_withRank cX4_withRank 4 (some .long), Cond.constantLong RX4 147 (-1), Cond.constantLong RX4 149 (-2), Cond.methodLink RX4 151 yX2_bucketsWithRank, Cond.instanceMethod yX2_bucketsWithRank, Cond.selects RX2 yX2_bucketsWithRank yX2_bucketsWithRank, Cond.code yX2_bucketsWithRank cX2_bucketsWithRank 5 (some .long), Cond.methodLink RL 60 yX5_withRank, Cond.instanceMethod yX5_withRank, Cond.selects RX5 yX5_withRank yX5_withRank, Cond.code yX5_withRank cX5_withRank 6 (some .long), Cond.constantLong RX5 159 (-1), Cond.constantLong RX5 161 (-2), Cond.methodLink RL 61 yX4_listed, Cond.instanceMethod yX4_listed, Cond.selects RX4 yX4_listed yX4_listed, Cond.code yX4_listed cX4_listed 4 (some .int), Cond.methodLink RX4 155 yX2_hasPlace, Cond.methodLink RX4 158 yX2_thingAt, Cond.methodLink RL 64 yX5_listed]
def wsL_law_r22 : List Cond := [Cond.instanceMethod yX5_listed, Cond.selects RX5 yX5_listed yX5_listed, Cond.code yX5_listed cX5_listed 3 (some .int), Cond.methodLink RL 65 yX4_count, Cond.instanceMethod yX4_count, Cond.selects RX4 yX4_count yX4_count, Cond.code yX4_count cX4_count 2 (some .int), Cond.methodLink RX4 161 yX3_filledSketches, Cond.instanceMethod yX3_filledSketches, Cond.selects RX3 yX3_filledSketches yX3_filledSketches, Cond.code yX3_filledSketches cX3_filledSketches 6 (some .int), Cond.methodLink RX3 33 yX2_filledBuckets, Cond.methodLink RX4 164 yX3_filledBuckets, Cond.instanceMethod yX3_filledBuckets, Cond.selects RX3 yX3_filledBuckets yX3_filledBuckets, Cond.code yX3_filledBuckets cX3_filledBuckets 6 (some .int), Cond.methodLink RX4 165 yX3_fullLists, Cond.instanceMethod yX3_fullLists, Cond.selects RX3 yX3_fullLists yX3_fullLists, Cond.code yX3_fullLists cX3_fullLists 6 (some .int), Cond.methodLink RL 68 yX5_count, Cond.instanceMethod yX5_count, Cond.selects RX5 yX5_count yX5_count, Cond.code yX5_count cX5_count 2 (some .int)]
def wsL_law_r23 : List Cond := [Cond.fieldLink RX5 173 "JoinedSketchesModel" "padLength" "I", Cond.methodLink RX5 163 yX5_sketchesFilled, Cond.instanceMethod yX5_sketchesFilled, Cond.selects RX5 yX5_sketchesFilled yX5_sketchesFilled, Cond.code yX5_sketchesFilled cX5_sketchesFilled 3 (some .int), Cond.methodLink RX5 167 yX5_allFilled, Cond.instanceMethod yX5_allFilled, Cond.selects RX5 yX5_allFilled yX5_allFilled, Cond.code yX5_allFilled cX5_allFilled 3 (some .int), Cond.methodLink RX5 170 yX5_fullLists, Cond.instanceMethod yX5_fullLists, Cond.selects RX5 yX5_fullLists yX5_fullLists, Cond.code yX5_fullLists cX5_fullLists 3 (some .int), Cond.methodLink RL 69 yX4_together, Cond.instanceMethod yX4_together, Cond.selects RX4 yX4_together yX4_together, Cond.code yX4_together cX4_together 5 (some .int), Cond.methodLink RX4 174 yX2_copyFrom, Cond.methodLink RL 72 yX5_together, Cond.instanceMethod yX5_together, Cond.selects RX5 yX5_together yX5_together, Cond.code yX5_together cX5_together 5 (some .int), Cond.methodLink RL 73 yX4_alike, Cond.instanceMethod yX4_alike]
def wsL_law_r24 : List Cond := [Cond.selects RX4 yX4_alike yX4_alike, Cond.code yX4_alike cX4_alike 5 (some .int), Cond.methodLink RX4 177 yX2_sameBuckets, Cond.instanceMethod yX2_sameBuckets, Cond.selects RX2 yX2_sameBuckets yX2_sameBuckets, Cond.code yX2_sameBuckets cX2_sameBuckets 4 (some .int), Cond.methodLink RX4 181 yX4_bitsOfShare, Cond.static yX4_bitsOfShare, Cond.code yX4_bitsOfShare cX4_bitsOfShare 5 (some .int), Cond.constant RX4 237 (8388607), Cond.methodLink RL 76 yX5_alike, Cond.instanceMethod yX5_alike, Cond.selects RX5 yX5_alike yX5_alike, Cond.code yX5_alike cX5_alike 6 (some .int), Cond.methodLink RX5 176 yX5_shareBits, Cond.static yX5_shareBits, Cond.code yX5_shareBits cX5_shareBits 3 (some .int), Cond.methodLink RL 77 yX4_off, Cond.instanceMethod yX4_off, Cond.selects RX4 yX4_off yX4_off, Cond.code yX4_off cX4_off 3 (some .int), Cond.methodLink RL 80 yX5_off, Cond.instanceMethod yX5_off, Cond.selects RX5 yX5_off yX5_off]
def wsL_law_r25 : List Cond := [Cond.code yX5_off cX5_off 2 (some .int), Cond.methodLink RL 81 yX4_nextNew, Cond.instanceMethod yX4_nextNew, Cond.selects RX4 yX4_nextNew yX4_nextNew, Cond.code yX4_nextNew cX4_nextNew 5 (some .int), Cond.methodLink RL 84 yX5_nextNew, Cond.instanceMethod yX5_nextNew, Cond.selects RX5 yX5_nextNew yX5_nextNew, Cond.code yX5_nextNew cX5_nextNew 4 (some .int), Cond.methodLink RL 85 yX4_bestSalt, Cond.instanceMethod yX4_bestSalt, Cond.selects RX4 yX4_bestSalt yX4_bestSalt, Cond.code yX4_bestSalt cX4_bestSalt 7 (some .int), Cond.methodLink RX4 185 yX4_distanceBySalt, Cond.instanceMethod yX4_distanceBySalt, Cond.selects RX4 yX4_distanceBySalt yX4_distanceBySalt, Cond.code yX4_distanceBySalt cX4_distanceBySalt 4 (some .int), Cond.methodLink RX4 232 Lib.Math.abs.name, Cond.static Lib.Math.abs.name, Cond.code Lib.Math.abs.name Lib.Math.abs.code 1 (some .int), Cond.methodLink RL 88 yX5_bestSalt, Cond.instanceMethod yX5_bestSalt, Cond.selects RX5 yX5_bestSalt yX5_bestSalt, Cond.code yX5_bestSalt cX5_bestSalt 8 (some .int)]
def wsL_law_r26 : List Cond := [Cond.methodLink RX5 179 yX5_takeRanksBy, Cond.instanceMethod yX5_takeRanksBy, Cond.selects RX5 yX5_takeRanksBy yX5_takeRanksBy, Cond.code yX5_takeRanksBy cX5_takeRanksBy 7 none, Cond.methodLink RL 91 yX4_put, Cond.instanceMethod yX4_put, Cond.selects RX4 yX4_put yX4_put, Cond.code yX4_put cX4_put 5 (some .int), Cond.constantLong RX4 193 (255), Cond.methodLink RX4 189 yX4_charactersIn, Cond.static yX4_charactersIn, Cond.code yX4_charactersIn cX4_charactersIn 7 (some .int), Cond.methodLink RX4 195 yX1_append, Cond.instanceMethod yX1_append, Cond.selects RX1 yX1_append yX1_append, Cond.code yX1_append cX1_append 2 none, Cond.methodLink RL 95 yX5_put, Cond.instanceMethod yX5_put, Cond.selects RX5 yX5_put yX5_put, Cond.code yX5_put cX5_put 8 (some .int), Cond.constantLong RX5 182 (255), Cond.methodLink RL 96 yX4_wipe, Cond.instanceMethod yX4_wipe, Cond.selects RX4 yX4_wipe yX4_wipe]
def wsL_law_r27 : List Cond := [Cond.code yX4_wipe cX4_wipe 2 (some .int), Cond.methodLink RX4 199 yX1_clear, Cond.instanceMethod yX1_clear, Cond.selects RX1 yX1_clear yX1_clear, Cond.code yX1_clear cX1_clear 1 none, Cond.methodLink RL 100 yX5_wipe, Cond.instanceMethod yX5_wipe, Cond.selects RX5 yX5_wipe yX5_wipe, Cond.code yX5_wipe cX5_wipe 2 (some .int), Cond.methodLink RL 101 yX4_fault, Cond.instanceMethod yX4_fault, Cond.selects RX4 yX4_fault yX4_fault, Cond.code yX4_fault cX4_fault 1 (some .int), Cond.methodLink RX4 202 yX1_faultPlace, Cond.instanceMethod yX1_faultPlace, Cond.selects RX1 yX1_faultPlace yX1_faultPlace, Cond.code yX1_faultPlace cX1_faultPlace 2 (some .int), Cond.methodLink RX1 35 yX1_goToStart, Cond.instanceMethod yX1_goToStart, Cond.selects RX1 yX1_goToStart yX1_goToStart, Cond.code yX1_goToStart cX1_goToStart 1 none, Cond.methodLink RX1 38 yX1_readOrder, Cond.instanceMethod yX1_readOrder, Cond.selects RX1 yX1_readOrder yX1_readOrder]
def wsL_law_r28 : List Cond := [Cond.code yX1_readOrder cX1_readOrder 1 (some .boolean), Cond.methodLink RX1 46 yX1_standsAtSketch, Cond.instanceMethod yX1_standsAtSketch, Cond.selects RX1 yX1_standsAtSketch yX1_standsAtSketch, Cond.code yX1_standsAtSketch cX1_standsAtSketch 2 (some .boolean), Cond.methodLink RX1 49 yX1_digit, Cond.instanceMethod yX1_digit, Cond.selects RX1 yX1_digit yX1_digit, Cond.code yX1_digit cX1_digit 2 (some .int), Cond.methodLink RX1 53 yX1_sign, Cond.instanceMethod yX1_sign, Cond.selects RX1 yX1_sign yX1_sign, Cond.code yX1_sign cX1_sign 1 (some .char), Cond.methodLink RX1 57 yX1_readThings, Cond.instanceMethod yX1_readThings, Cond.selects RX1 yX1_readThings yX1_readThings, Cond.code yX1_readThings cX1_readThings 2 (some .boolean), Cond.methodLink RX1 63 yX1_readNumber, Cond.instanceMethod yX1_readNumber, Cond.selects RX1 yX1_readNumber yX1_readNumber, Cond.code yX1_readNumber cX1_readNumber 4 (some .boolean), Cond.constant RX1 70 (100000), Cond.methodLink RX1 66 yX1_keepNumber, Cond.instanceMethod yX1_keepNumber]
def wsL_law_r29 : List Cond := [Cond.selects RX1 yX1_keepNumber yX1_keepNumber, Cond.code yX1_keepNumber cX1_keepNumber 2 none, Cond.methodLink RX1 42 yX1_accept, Cond.instanceMethod yX1_accept, Cond.selects RX1 yX1_accept yX1_accept, Cond.code yX1_accept cX1_accept 2 (some .boolean), Cond.methodLink RX1 60 yX1_readOther, Cond.instanceMethod yX1_readOther, Cond.selects RX1 yX1_readOther yX1_readOther, Cond.code yX1_readOther cX1_readOther 1 (some .boolean), Cond.methodLink RL 104 yX5_fault, Cond.instanceMethod yX5_fault, Cond.selects RX5 yX5_fault yX5_fault, Cond.code yX5_fault cX5_fault 1 (some .int), Cond.methodLink RX5 215 yX5_findFault, Cond.instanceMethod yX5_findFault, Cond.selects RX5 yX5_findFault yX5_findFault, Cond.code yX5_findFault cX5_findFault 1 (some .int), Cond.fieldLink RX5 184 "JoinedSketchesModel" "at" "I", Cond.methodLink RX5 212 yX5_readsOrder, Cond.instanceMethod yX5_readsOrder, Cond.selects RX5 yX5_readsOrder yX5_readsOrder, Cond.code yX5_readsOrder cX5_readsOrder 1 (some .boolean), Cond.fieldLink RX5 193 "JoinedSketchesModel" "numbersMany" "I"]
def wsL_law_r30 : List Cond := [Cond.fieldLink RX5 206 "JoinedSketchesModel" "sketch" "I", Cond.fieldLink RX5 196 "JoinedSketchesModel" "letter" "I", Cond.methodLink RX5 190 yX5_takeDigit, Cond.instanceMethod yX5_takeDigit, Cond.selects RX5 yX5_takeDigit yX5_takeDigit, Cond.code yX5_takeDigit cX5_takeDigit 3 (some .int), Cond.methodLink RX5 187 yX5_character, Cond.instanceMethod yX5_character, Cond.selects RX5 yX5_character yX5_character, Cond.code yX5_character cX5_character 2 (some .int), Cond.methodLink RX5 209 yX5_readsRest, Cond.instanceMethod yX5_readsRest, Cond.selects RX5 yX5_readsRest yX5_readsRest, Cond.code yX5_readsRest cX5_readsRest 2 (some .boolean), Cond.methodLink RX5 199 yX5_takesNumber, Cond.instanceMethod yX5_takesNumber, Cond.selects RX5 yX5_takesNumber yX5_takesNumber, Cond.code yX5_takesNumber cX5_takesNumber 2 (some .boolean), Cond.methodLink RX5 203 yX5_isNext, Cond.instanceMethod yX5_isNext, Cond.selects RX5 yX5_isNext yX5_isNext, Cond.code yX5_isNext cX5_isNext 3 (some .boolean), Cond.methodLink RL 105 yX4_carryOut, Cond.instanceMethod yX4_carryOut]
def wsL_law_r31 : List Cond := [Cond.selects RX4 yX4_carryOut yX4_carryOut, Cond.code yX4_carryOut cX4_carryOut 2 (some .int), Cond.methodLink RX4 205 yX1_goToStart, Cond.methodLink RX4 208 yX1_readOrder, Cond.methodLink RX4 212 yX4_carryOrderOut, Cond.instanceMethod yX4_carryOrderOut, Cond.selects RX4 yX4_carryOrderOut yX4_carryOrderOut, Cond.code yX4_carryOrderOut cX4_carryOrderOut 2 (some .boolean), Cond.methodLink RX4 244 yX4_carryThingsOut, Cond.instanceMethod yX4_carryThingsOut, Cond.selects RX4 yX4_carryThingsOut yX4_carryThingsOut, Cond.code yX4_carryThingsOut cX4_carryThingsOut 3 (some .boolean), Cond.methodLink RX4 259 yX1_numberAt, Cond.instanceMethod yX1_numberAt, Cond.selects RX1 yX1_numberAt yX1_numberAt, Cond.code yX1_numberAt cX1_numberAt 2 (some .int), Cond.methodLink RX4 247 yX4_carryJoinOut, Cond.instanceMethod yX4_carryJoinOut, Cond.selects RX4 yX4_carryJoinOut yX4_carryJoinOut, Cond.code yX4_carryJoinOut cX4_carryJoinOut 3 (some .boolean), Cond.methodLink RX4 250 yX4_carryRangeOut, Cond.instanceMethod yX4_carryRangeOut, Cond.selects RX4 yX4_carryRangeOut yX4_carryRangeOut, Cond.code yX4_carryRangeOut cX4_carryRangeOut 4 (some .boolean)]
def wsL_law_r32 : List Cond := [Cond.methodLink RX4 253 yX4_carryFoldOut, Cond.static yX4_carryFoldOut, Cond.code yX4_carryFoldOut cX4_carryFoldOut 1 (some .boolean), Cond.methodLink RX4 215 yX1_accept, Cond.methodLink RL 108 yX5_carryOut, Cond.instanceMethod yX5_carryOut, Cond.selects RX5 yX5_carryOut yX5_carryOut, Cond.code yX5_carryOut cX5_carryOut 3 (some .int), Cond.methodLink RX5 218 yX5_canDo, Cond.instanceMethod yX5_canDo, Cond.selects RX5 yX5_canDo yX5_canDo, Cond.code yX5_canDo cX5_canDo 1 (some .boolean), Cond.methodLink RX5 221 yX5_does, Cond.instanceMethod yX5_does, Cond.selects RX5 yX5_does yX5_does, Cond.code yX5_does cX5_does 2 none, Cond.methodLink RL 109 yX4_undo, Cond.instanceMethod yX4_undo, Cond.selects RX4 yX4_undo yX4_undo, Cond.code yX4_undo cX4_undo 1 (some .int), Cond.methodLink RX4 219 yX0_takeBack, Cond.instanceMethod yX0_takeBack, Cond.selects RX0 yX0_takeBack yX0_takeBack, Cond.code yX0_takeBack cX0_takeBack 2 none]
def wsL_law_r33 : List Cond := [Cond.methodLink RL 112 yX5_undo, Cond.instanceMethod yX5_undo, Cond.selects RX5 yX5_undo yX5_undo, Cond.code yX5_undo cX5_undo 1 (some .int), Cond.methodLink RL 113 yX4_save, Cond.instanceMethod yX4_save, Cond.selects RX4 yX4_save yX4_save, Cond.code yX4_save cX4_save 2 (some .int), Cond.methodLink RX4 222 yX3_copyFrom, Cond.methodLink RL 116 yX5_save, Cond.instanceMethod yX5_save, Cond.selects RX5 yX5_save yX5_save, Cond.code yX5_save cX5_save 2 (some .int), Cond.methodLink RL 117 yX4_restore, Cond.instanceMethod yX4_restore, Cond.selects RX4 yX4_restore yX4_restore, Cond.code yX4_restore cX4_restore 2 (some .int), Cond.methodLink RL 120 yX5_restore, Cond.instanceMethod yX5_restore, Cond.selects RX5 yX5_restore yX5_restore, Cond.code yX5_restore cX5_restore 2 (some .int)]
def wsL_law : List Cond := (wsL_law_r1 ++ (wsL_law_r2 ++ (wsL_law_r3 ++ (wsL_law_r4 ++ (wsL_law_r5 ++ (wsL_law_r6 ++ (wsL_law_r7 ++ (wsL_law_r8 ++ (wsL_law_r9 ++ (wsL_law_r10 ++ (wsL_law_r11 ++ (wsL_law_r12 ++ (wsL_law_r13 ++ (wsL_law_r14 ++ (wsL_law_r15 ++ (wsL_law_r16 ++ (wsL_law_r17 ++ (wsL_law_r18 ++ (wsL_law_r19 ++ (wsL_law_r20 ++ (wsL_law_r21 ++ (wsL_law_r22 ++ (wsL_law_r23 ++ (wsL_law_r24 ++ (wsL_law_r25 ++ (wsL_law_r26 ++ (wsL_law_r27 ++ (wsL_law_r28 ++ (wsL_law_r29 ++ (wsL_law_r30 ++ (wsL_law_r31 ++ (wsL_law_r32 ++ wsL_law_r33)))))))))))))))))))))))))))))))) ++ wsX40 ++ wsX50 ++ wsX30 ++ wsX00 ++ wsX10 ++ wsX20 ++ ([] : List Cond)
theorem inJ6 : ∀ w ∈ wsJ60, w ∈ lw_tbl := by decide +kernel
theorem inJ9 : ∀ w ∈ wsJ90, w ∈ lw_tbl := by decide +kernel
theorem inJ10 : ∀ w ∈ wsJ100, w ∈ lw_tbl := by decide +kernel
theorem inJ7 : ∀ w ∈ wsJ70, w ∈ lw_tbl := by decide +kernel
set_option maxRecDepth 20000 in
theorem ggX0_init_X3_init : GoodIn wsX0_init wsX3_init := goodIn_r _ [12, 13, 2, 3, 14, 15, 16, 17, 18, 19, 20, 21, 22, 23, 24, 25, 26, 27, 31, 32, 33, 34, 35, 36, 37] (by decide +kernel) (by decide +kernel)
set_option maxRecDepth 20000 in
theorem gX0_init_X3_init : GoodIn wsX0_init (wsX3_init) := ggX0_init_X3_init
end
section
theorem dX0_init_0 : decode cX0_init 0 = .ok (.aload_n 0, 1) := by decide +kernel
theorem dX0_init_1 : decode cX0_init 1 = .ok (.invokespecial 3, 3) := by decide +kernel
theorem dX0_init_4 : decode cX0_init 4 = .ok (.aload_n 0, 1) := by decide +kernel
theorem dX0_init_5 : decode cX0_init 5 = .ok (.bipush 6, 2) := by decide +kernel
theorem dX0_init_7 : decode cX0_init 7 = .ok (.anewarray 9, 3) := by decide +kernel
theorem dX0_init_10 : decode cX0_init 10 = .ok (.putfield 11, 3) := by decide +kernel
theorem dX0_init_13 : decode cX0_init 13 = .ok (.aload_n 0, 1) := by decide +kernel
theorem dX0_init_14 : decode cX0_init 14 = .ok (.iconst 0, 1) := by decide +kernel
theorem dX0_init_15 : decode cX0_init 15 = .ok (.putfield 17, 3) := by decide +kernel
theorem dX0_init_18 : decode cX0_init 18 = .ok (.aload_n 0, 1) := by decide +kernel
theorem dX0_init_19 : decode cX0_init 19 = .ok (.iconst 0, 1) := by decide +kernel
theorem dX0_init_20 : decode cX0_init 20 = .ok (.putfield 21, 3) := by decide +kernel
theorem dX0_init_23 : decode cX0_init 23 = .ok (.iconst 0, 1) := by decide +kernel
theorem dX0_init_24 : decode cX0_init 24 = .ok (.istore_n 1, 1) := by decide +kernel
theorem dX0_init_25 : decode cX0_init 25 = .ok (.iload_n 1, 1) := by decide +kernel
theorem dX0_init_26 : decode cX0_init 26 = .ok (.bipush 6, 2) := by decide +kernel
theorem dX0_init_28 : decode cX0_init 28 = .ok (.if_icmp .ge 22, 3) := by decide +kernel
theorem dX0_init_31 : decode cX0_init 31 = .ok (.aload_n 0, 1) := by decide +kernel
theorem dX0_init_32 : decode cX0_init 32 = .ok (.getfield 11, 3) := by decide +kernel
theorem dX0_init_35 : decode cX0_init 35 = .ok (.iload_n 1, 1) := by decide +kernel
theorem dX0_init_36 : decode cX0_init 36 = .ok (.new 9, 3) := by decide +kernel
theorem dX0_init_39 : decode cX0_init 39 = .ok (.dup, 1) := by decide +kernel
theorem dX0_init_40 : decode cX0_init 40 = .ok (.invokespecial 24, 3) := by decide +kernel
theorem dX0_init_43 : decode cX0_init 43 = .ok (.aastore, 1) := by decide +kernel
theorem dX0_init_44 : decode cX0_init 44 = .ok (.iinc 1 1, 3) := by decide +kernel
theorem dX0_init_47 : decode cX0_init 47 = .ok (.goto (-22), 3) := by decide +kernel
theorem dX0_init_50 : decode cX0_init 50 = .ok (.return_, 1) := by decide +kernel
set_option maxRecDepth 20000 in
theorem ggX0_record_J9_floorMod_7cf53 : GoodIn wsX0_record wsJ9_floorMod_7cf53 := goodIn_r _ [7] (by decide +kernel) (by decide +kernel)
set_option maxRecDepth 20000 in
theorem gX0_record_J9_floorMod_7cf53 : GoodIn wsX0_record (va_wsS RX0 25 yJ9_floorMod_7cf53 wsJ9_floorMod_7cf53) := goodIn_app (goodIn_of _ (by decide +kernel)) ggX0_record_J9_floorMod_7cf53
set_option maxRecDepth 20000 in
theorem ggX0_record_X3_copyFrom : GoodIn wsX0_record wsX3_copyFrom := goodIn_r _ [12, 13, 14, 15, 16, 17, 18, 19, 20, 21, 22, 23, 24, 25, 26, 27, 28, 32, 33, 34, 35, 36, 37, 38] (by decide +kernel) (by decide +kernel)
set_option maxRecDepth 20000 in
theorem gX0_record_X3_copyFrom : GoodIn wsX0_record (wsV RX0 31 RX3 yX3_copyFrom wsX3_copyFrom) := goodIn_app (goodIn_of _ (by decide +kernel)) ggX0_record_X3_copyFrom
theorem dX0_record_0 : decode cX0_record 0 = .ok (.aload_n 0, 1) := by decide +kernel
theorem dX0_record_1 : decode cX0_record 1 = .ok (.getfield 21, 3) := by decide +kernel
theorem dX0_record_4 : decode cX0_record 4 = .ok (.bipush 6, 2) := by decide +kernel
theorem dX0_record_6 : decode cX0_record 6 = .ok (.if_icmp .ne 26, 3) := by decide +kernel
theorem dX0_record_9 : decode cX0_record 9 = .ok (.aload_n 0, 1) := by decide +kernel
theorem dX0_record_10 : decode cX0_record 10 = .ok (.aload_n 0, 1) := by decide +kernel
theorem dX0_record_11 : decode cX0_record 11 = .ok (.getfield 17, 3) := by decide +kernel
theorem dX0_record_14 : decode cX0_record 14 = .ok (.iconst 1, 1) := by decide +kernel
theorem dX0_record_15 : decode cX0_record 15 = .ok (.iadd, 1) := by decide +kernel
theorem dX0_record_16 : decode cX0_record 16 = .ok (.bipush 6, 2) := by decide +kernel
theorem dX0_record_18 : decode cX0_record 18 = .ok (.irem, 1) := by decide +kernel
theorem dX0_record_19 : decode cX0_record 19 = .ok (.putfield 17, 3) := by decide +kernel
theorem dX0_record_22 : decode cX0_record 22 = .ok (.aload_n 0, 1) := by decide +kernel
theorem dX0_record_23 : decode cX0_record 23 = .ok (.dup, 1) := by decide +kernel
theorem dX0_record_24 : decode cX0_record 24 = .ok (.getfield 21, 3) := by decide +kernel
theorem dX0_record_27 : decode cX0_record 27 = .ok (.iconst 1, 1) := by decide +kernel
theorem dX0_record_28 : decode cX0_record 28 = .ok (.isub, 1) := by decide +kernel
theorem dX0_record_29 : decode cX0_record 29 = .ok (.putfield 21, 3) := by decide +kernel
theorem dX0_record_32 : decode cX0_record 32 = .ok (.aload_n 0, 1) := by decide +kernel
theorem dX0_record_33 : decode cX0_record 33 = .ok (.getfield 11, 3) := by decide +kernel
theorem dX0_record_36 : decode cX0_record 36 = .ok (.aload_n 0, 1) := by decide +kernel
theorem dX0_record_37 : decode cX0_record 37 = .ok (.getfield 17, 3) := by decide +kernel
theorem dX0_record_40 : decode cX0_record 40 = .ok (.aload_n 0, 1) := by decide +kernel
theorem dX0_record_41 : decode cX0_record 41 = .ok (.getfield 21, 3) := by decide +kernel
theorem dX0_record_44 : decode cX0_record 44 = .ok (.iadd, 1) := by decide +kernel
theorem dX0_record_45 : decode cX0_record 45 = .ok (.bipush 6, 2) := by decide +kernel
theorem dX0_record_47 : decode cX0_record 47 = .ok (.invokestatic 25, 3) := by decide +kernel
theorem dX0_record_50 : decode cX0_record 50 = .ok (.aaload, 1) := by decide +kernel
theorem dX0_record_51 : decode cX0_record 51 = .ok (.aload_n 1, 1) := by decide +kernel
theorem dX0_record_52 : decode cX0_record 52 = .ok (.invokevirtual 31, 3) := by decide +kernel
theorem dX0_record_55 : decode cX0_record 55 = .ok (.aload_n 0, 1) := by decide +kernel
theorem dX0_record_56 : decode cX0_record 56 = .ok (.dup, 1) := by decide +kernel
theorem dX0_record_57 : decode cX0_record 57 = .ok (.getfield 21, 3) := by decide +kernel
theorem dX0_record_60 : decode cX0_record 60 = .ok (.iconst 1, 1) := by decide +kernel
theorem dX0_record_61 : decode cX0_record 61 = .ok (.iadd, 1) := by decide +kernel
theorem dX0_record_62 : decode cX0_record 62 = .ok (.putfield 21, 3) := by decide +kernel
theorem dX0_record_65 : decode cX0_record 65 = .ok (.return_, 1) := by decide +kernel
set_option maxRecDepth 20000 in
theorem ggX0_takeBack_J9_floorMod_7cf53 : GoodIn wsX0_takeBack wsJ9_floorMod_7cf53 := goodIn_r _ [7] (by decide +kernel) (by decide +kernel)
set_option maxRecDepth 20000 in
theorem gX0_takeBack_J9_floorMod_7cf53 : GoodIn wsX0_takeBack (va_wsS RX0 25 yJ9_floorMod_7cf53 wsJ9_floorMod_7cf53) := goodIn_app (goodIn_of _ (by decide +kernel)) ggX0_takeBack_J9_floorMod_7cf53
set_option maxRecDepth 20000 in
theorem ggX0_takeBack_X3_copyFrom : GoodIn wsX0_takeBack wsX3_copyFrom := goodIn_r _ [12, 13, 14, 15, 16, 17, 18, 19, 20, 21, 22, 23, 24, 25, 26, 27, 28, 32, 33, 34, 35, 36, 37, 38] (by decide +kernel) (by decide +kernel)
set_option maxRecDepth 20000 in
theorem gX0_takeBack_X3_copyFrom : GoodIn wsX0_takeBack (wsV RX0 31 RX3 yX3_copyFrom wsX3_copyFrom) := goodIn_app (goodIn_of _ (by decide +kernel)) ggX0_takeBack_X3_copyFrom
theorem dX0_takeBack_0 : decode cX0_takeBack 0 = .ok (.aload_n 0, 1) := by decide +kernel
theorem dX0_takeBack_1 : decode cX0_takeBack 1 = .ok (.getfield 21, 3) := by decide +kernel
theorem dX0_takeBack_4 : decode cX0_takeBack 4 = .ok (.ifCond .gt 4, 3) := by decide +kernel
theorem dX0_takeBack_7 : decode cX0_takeBack 7 = .ok (.return_, 1) := by decide +kernel
theorem dX0_takeBack_8 : decode cX0_takeBack 8 = .ok (.aload_n 0, 1) := by decide +kernel
theorem dX0_takeBack_9 : decode cX0_takeBack 9 = .ok (.dup, 1) := by decide +kernel
theorem dX0_takeBack_10 : decode cX0_takeBack 10 = .ok (.getfield 21, 3) := by decide +kernel
theorem dX0_takeBack_13 : decode cX0_takeBack 13 = .ok (.iconst 1, 1) := by decide +kernel
theorem dX0_takeBack_14 : decode cX0_takeBack 14 = .ok (.isub, 1) := by decide +kernel
theorem dX0_takeBack_15 : decode cX0_takeBack 15 = .ok (.putfield 21, 3) := by decide +kernel
theorem dX0_takeBack_18 : decode cX0_takeBack 18 = .ok (.aload_n 1, 1) := by decide +kernel
theorem dX0_takeBack_19 : decode cX0_takeBack 19 = .ok (.aload_n 0, 1) := by decide +kernel
theorem dX0_takeBack_20 : decode cX0_takeBack 20 = .ok (.getfield 11, 3) := by decide +kernel
theorem dX0_takeBack_23 : decode cX0_takeBack 23 = .ok (.aload_n 0, 1) := by decide +kernel
theorem dX0_takeBack_24 : decode cX0_takeBack 24 = .ok (.getfield 17, 3) := by decide +kernel
theorem dX0_takeBack_27 : decode cX0_takeBack 27 = .ok (.aload_n 0, 1) := by decide +kernel
theorem dX0_takeBack_28 : decode cX0_takeBack 28 = .ok (.getfield 21, 3) := by decide +kernel
theorem dX0_takeBack_31 : decode cX0_takeBack 31 = .ok (.iadd, 1) := by decide +kernel
theorem dX0_takeBack_32 : decode cX0_takeBack 32 = .ok (.bipush 6, 2) := by decide +kernel
theorem dX0_takeBack_34 : decode cX0_takeBack 34 = .ok (.invokestatic 25, 3) := by decide +kernel
theorem dX0_takeBack_37 : decode cX0_takeBack 37 = .ok (.aaload, 1) := by decide +kernel
theorem dX0_takeBack_38 : decode cX0_takeBack 38 = .ok (.invokevirtual 31, 3) := by decide +kernel
theorem dX0_takeBack_41 : decode cX0_takeBack 41 = .ok (.return_, 1) := by decide +kernel
theorem dX1_init_0 : decode cX1_init 0 = .ok (.aload_n 0, 1) := by decide +kernel
theorem dX1_init_1 : decode cX1_init 1 = .ok (.invokespecial 3, 3) := by decide +kernel
theorem dX1_init_4 : decode cX1_init 4 = .ok (.aload_n 0, 1) := by decide +kernel
theorem dX1_init_5 : decode cX1_init 5 = .ok (.bipush 80, 2) := by decide +kernel
theorem dX1_init_7 : decode cX1_init 7 = .ok (.newarray .char, 2) := by decide +kernel
theorem dX1_init_9 : decode cX1_init 9 = .ok (.putfield 9, 3) := by decide +kernel
theorem dX1_init_12 : decode cX1_init 12 = .ok (.aload_n 0, 1) := by decide +kernel
theorem dX1_init_13 : decode cX1_init 13 = .ok (.iconst 0, 1) := by decide +kernel
theorem dX1_init_14 : decode cX1_init 14 = .ok (.putfield 15, 3) := by decide +kernel
theorem dX1_init_17 : decode cX1_init 17 = .ok (.aload_n 0, 1) := by decide +kernel
theorem dX1_init_18 : decode cX1_init 18 = .ok (.iconst 0, 1) := by decide +kernel
theorem dX1_init_19 : decode cX1_init 19 = .ok (.putfield 19, 3) := by decide +kernel
theorem dX1_init_22 : decode cX1_init 22 = .ok (.aload_n 0, 1) := by decide +kernel
theorem dX1_init_23 : decode cX1_init 23 = .ok (.iconst 0, 1) := by decide +kernel
theorem dX1_init_24 : decode cX1_init 24 = .ok (.putfield 22, 3) := by decide +kernel
theorem dX1_init_27 : decode cX1_init 27 = .ok (.aload_n 0, 1) := by decide +kernel
theorem dX1_init_28 : decode cX1_init 28 = .ok (.bipush 33, 2) := by decide +kernel
theorem dX1_init_30 : decode cX1_init 30 = .ok (.putfield 25, 3) := by decide +kernel
theorem dX1_init_33 : decode cX1_init 33 = .ok (.aload_n 0, 1) := by decide +kernel
theorem dX1_init_34 : decode cX1_init 34 = .ok (.bipush 80, 2) := by decide +kernel
theorem dX1_init_36 : decode cX1_init 36 = .ok (.newarray .int, 2) := by decide +kernel
theorem dX1_init_38 : decode cX1_init 38 = .ok (.putfield 28, 3) := by decide +kernel
theorem dX1_init_41 : decode cX1_init 41 = .ok (.aload_n 0, 1) := by decide +kernel
theorem dX1_init_42 : decode cX1_init 42 = .ok (.iconst 0, 1) := by decide +kernel
theorem dX1_init_43 : decode cX1_init 43 = .ok (.putfield 32, 3) := by decide +kernel
theorem dX1_init_46 : decode cX1_init 46 = .ok (.return_, 1) := by decide +kernel
theorem dX1_append_0 : decode cX1_append 0 = .ok (.aload_n 0, 1) := by decide +kernel
theorem dX1_append_1 : decode cX1_append 1 = .ok (.getfield 15, 3) := by decide +kernel
theorem dX1_append_4 : decode cX1_append 4 = .ok (.aload_n 0, 1) := by decide +kernel
theorem dX1_append_5 : decode cX1_append 5 = .ok (.getfield 9, 3) := by decide +kernel
theorem dX1_append_8 : decode cX1_append 8 = .ok (.arraylength, 1) := by decide +kernel
theorem dX1_append_9 : decode cX1_append 9 = .ok (.if_icmp .ge 23, 3) := by decide +kernel
theorem dX1_append_12 : decode cX1_append 12 = .ok (.aload_n 0, 1) := by decide +kernel
theorem dX1_append_13 : decode cX1_append 13 = .ok (.getfield 9, 3) := by decide +kernel
theorem dX1_append_16 : decode cX1_append 16 = .ok (.aload_n 0, 1) := by decide +kernel
theorem dX1_append_17 : decode cX1_append 17 = .ok (.getfield 15, 3) := by decide +kernel
theorem dX1_append_20 : decode cX1_append 20 = .ok (.iload_n 1, 1) := by decide +kernel
theorem dX1_append_21 : decode cX1_append 21 = .ok (.castore, 1) := by decide +kernel
theorem dX1_append_22 : decode cX1_append 22 = .ok (.aload_n 0, 1) := by decide +kernel
theorem dX1_append_23 : decode cX1_append 23 = .ok (.dup, 1) := by decide +kernel
theorem dX1_append_24 : decode cX1_append 24 = .ok (.getfield 15, 3) := by decide +kernel
theorem dX1_append_27 : decode cX1_append 27 = .ok (.iconst 1, 1) := by decide +kernel
theorem dX1_append_28 : decode cX1_append 28 = .ok (.iadd, 1) := by decide +kernel
theorem dX1_append_29 : decode cX1_append 29 = .ok (.putfield 15, 3) := by decide +kernel
theorem dX1_append_32 : decode cX1_append 32 = .ok (.return_, 1) := by decide +kernel
theorem dX1_clear_0 : decode cX1_clear 0 = .ok (.aload_n 0, 1) := by decide +kernel
theorem dX1_clear_1 : decode cX1_clear 1 = .ok (.iconst 0, 1) := by decide +kernel
theorem dX1_clear_2 : decode cX1_clear 2 = .ok (.putfield 15, 3) := by decide +kernel
theorem dX1_clear_5 : decode cX1_clear 5 = .ok (.return_, 1) := by decide +kernel
theorem dX1_goToStart_0 : decode cX1_goToStart 0 = .ok (.aload_n 0, 1) := by decide +kernel
theorem dX1_goToStart_1 : decode cX1_goToStart 1 = .ok (.iconst 0, 1) := by decide +kernel
theorem dX1_goToStart_2 : decode cX1_goToStart 2 = .ok (.putfield 19, 3) := by decide +kernel
theorem dX1_goToStart_5 : decode cX1_goToStart 5 = .ok (.return_, 1) := by decide +kernel
set_option maxRecDepth 20000 in
theorem ggX1_faultPlace_X1_goToStart : GoodIn wsX1_faultPlace wsX1_goToStart := goodIn_r _ [7, 1, 50, 51, 52, 53, 54, 55, 56] (by decide +kernel) (by decide +kernel)
set_option maxRecDepth 20000 in
theorem gX1_faultPlace_X1_goToStart : GoodIn wsX1_faultPlace (wsV RX1 35 RX1 yX1_goToStart wsX1_goToStart) := goodIn_app (goodIn_of _ (by decide +kernel)) ggX1_faultPlace_X1_goToStart
set_option maxRecDepth 20000 in
theorem ggX1_faultPlace_X1_readOrder : GoodIn wsX1_faultPlace wsX1_readOrder := goodIn_r _ [11, 12, 13, 1, 14, 15, 16, 17, 6, 18, 19, 20, 21, 22, 23, 24, 25, 26, 2, 27, 28, 29, 30, 31, 32, 33, 34, 35, 36, 37, 38, 39, 40, 41, 42, 43, 44, 45, 46, 47, 48, 49, 50, 51, 52, 53, 54, 55, 56] (by decide +kernel) (by decide +kernel)
set_option maxRecDepth 20000 in
theorem gX1_faultPlace_X1_readOrder : GoodIn wsX1_faultPlace (wsV RX1 38 RX1 yX1_readOrder wsX1_readOrder) := goodIn_app (goodIn_of _ (by decide +kernel)) ggX1_faultPlace_X1_readOrder
set_option maxRecDepth 20000 in
theorem ggX1_faultPlace_X1_accept : GoodIn wsX1_faultPlace wsX1_accept := goodIn_r _ [45, 1, 23, 24, 25, 6, 26, 2, 27, 50, 51, 52, 53, 54, 55, 56] (by decide +kernel) (by decide +kernel)
set_option maxRecDepth 20000 in
theorem gX1_faultPlace_X1_accept : GoodIn wsX1_faultPlace (wsV RX1 42 RX1 yX1_accept wsX1_accept) := goodIn_app (goodIn_of _ (by decide +kernel)) ggX1_faultPlace_X1_accept
theorem dX1_faultPlace_0 : decode cX1_faultPlace 0 = .ok (.aload_n 0, 1) := by decide +kernel
theorem dX1_faultPlace_1 : decode cX1_faultPlace 1 = .ok (.invokevirtual 35, 3) := by decide +kernel
theorem dX1_faultPlace_4 : decode cX1_faultPlace 4 = .ok (.iconst 0, 1) := by decide +kernel
theorem dX1_faultPlace_5 : decode cX1_faultPlace 5 = .ok (.istore_n 1, 1) := by decide +kernel
theorem dX1_faultPlace_6 : decode cX1_faultPlace 6 = .ok (.iload_n 1, 1) := by decide +kernel
theorem dX1_faultPlace_7 : decode cX1_faultPlace 7 = .ok (.bipush 80, 2) := by decide +kernel
theorem dX1_faultPlace_9 : decode cX1_faultPlace 9 = .ok (.if_icmp .ge 51, 3) := by decide +kernel
theorem dX1_faultPlace_12 : decode cX1_faultPlace 12 = .ok (.aload_n 0, 1) := by decide +kernel
theorem dX1_faultPlace_13 : decode cX1_faultPlace 13 = .ok (.invokevirtual 38, 3) := by decide +kernel
theorem dX1_faultPlace_16 : decode cX1_faultPlace 16 = .ok (.ifCond .ne 8, 3) := by decide +kernel
theorem dX1_faultPlace_19 : decode cX1_faultPlace 19 = .ok (.aload_n 0, 1) := by decide +kernel
theorem dX1_faultPlace_20 : decode cX1_faultPlace 20 = .ok (.getfield 19, 3) := by decide +kernel
theorem dX1_faultPlace_23 : decode cX1_faultPlace 23 = .ok (.ireturn, 1) := by decide +kernel
theorem dX1_faultPlace_24 : decode cX1_faultPlace 24 = .ok (.aload_n 0, 1) := by decide +kernel
theorem dX1_faultPlace_25 : decode cX1_faultPlace 25 = .ok (.bipush 59, 2) := by decide +kernel
theorem dX1_faultPlace_27 : decode cX1_faultPlace 27 = .ok (.invokevirtual 42, 3) := by decide +kernel
theorem dX1_faultPlace_30 : decode cX1_faultPlace 30 = .ok (.ifCond .ne 24, 3) := by decide +kernel
theorem dX1_faultPlace_33 : decode cX1_faultPlace 33 = .ok (.aload_n 0, 1) := by decide +kernel
theorem dX1_faultPlace_34 : decode cX1_faultPlace 34 = .ok (.getfield 19, 3) := by decide +kernel
theorem dX1_faultPlace_37 : decode cX1_faultPlace 37 = .ok (.aload_n 0, 1) := by decide +kernel
theorem dX1_faultPlace_38 : decode cX1_faultPlace 38 = .ok (.getfield 15, 3) := by decide +kernel
theorem dX1_faultPlace_41 : decode cX1_faultPlace 41 = .ok (.if_icmp .ne 8, 3) := by decide +kernel
theorem dX1_faultPlace_44 : decode cX1_faultPlace 44 = .ok (.bipush (-6), 2) := by decide +kernel
theorem dX1_faultPlace_46 : decode cX1_faultPlace 46 = .ok (.goto 7, 3) := by decide +kernel
theorem dX1_faultPlace_49 : decode cX1_faultPlace 49 = .ok (.aload_n 0, 1) := by decide +kernel
theorem dX1_faultPlace_50 : decode cX1_faultPlace 50 = .ok (.getfield 19, 3) := by decide +kernel
theorem dX1_faultPlace_53 : decode cX1_faultPlace 53 = .ok (.ireturn, 1) := by decide +kernel
theorem dX1_faultPlace_54 : decode cX1_faultPlace 54 = .ok (.iinc 1 1, 3) := by decide +kernel
theorem dX1_faultPlace_57 : decode cX1_faultPlace 57 = .ok (.goto (-51), 3) := by decide +kernel
theorem dX1_faultPlace_60 : decode cX1_faultPlace 60 = .ok (.aload_n 0, 1) := by decide +kernel
theorem dX1_faultPlace_61 : decode cX1_faultPlace 61 = .ok (.getfield 19, 3) := by decide +kernel
theorem dX1_faultPlace_64 : decode cX1_faultPlace 64 = .ok (.ireturn, 1) := by decide +kernel
set_option maxRecDepth 20000 in
theorem ggX1_readOrder_X1_standsAtSketch : GoodIn wsX1_readOrder wsX1_standsAtSketch := goodIn_r _ [9, 10, 11, 12, 8, 13, 14, 15, 16, 17, 3, 18, 19, 42, 43, 44, 45, 46, 47, 48] (by decide +kernel) (by decide +kernel)
set_option maxRecDepth 20000 in
theorem gX1_readOrder_X1_standsAtSketch : GoodIn wsX1_readOrder (wsV RX1 46 RX1 yX1_standsAtSketch wsX1_standsAtSketch) := goodIn_app (goodIn_of _ (by decide +kernel)) ggX1_readOrder_X1_standsAtSketch
set_option maxRecDepth 20000 in
theorem ggX1_readOrder_X1_digit : GoodIn wsX1_readOrder wsX1_digit := goodIn_r _ [13, 14, 15, 16, 8, 17, 3, 18, 19, 42, 43, 44, 45, 46, 47, 48] (by decide +kernel) (by decide +kernel)
set_option maxRecDepth 20000 in
theorem gX1_readOrder_X1_digit : GoodIn wsX1_readOrder (wsV RX1 49 RX1 yX1_digit wsX1_digit) := goodIn_app (goodIn_of _ (by decide +kernel)) ggX1_readOrder_X1_digit
set_option maxRecDepth 20000 in
theorem ggX1_readOrder_X1_sign : GoodIn wsX1_readOrder wsX1_sign := goodIn_r _ [17, 3, 18, 19, 42, 43, 44, 45, 46, 47, 48] (by decide +kernel) (by decide +kernel)
set_option maxRecDepth 20000 in
theorem gX1_readOrder_X1_sign : GoodIn wsX1_readOrder (wsV RX1 53 RX1 yX1_sign wsX1_sign) := goodIn_app (goodIn_of _ (by decide +kernel)) ggX1_readOrder_X1_sign
set_option maxRecDepth 20000 in
theorem ggX1_readOrder_X1_readThings : GoodIn wsX1_readOrder wsX1_readThings := goodIn_r _ [23, 24, 25, 26, 8, 27, 3, 28, 10, 11, 12, 13, 14, 15, 16, 17, 18, 19, 29, 30, 31, 32, 1, 33, 34, 35, 36, 37, 42, 43, 44, 45, 46, 47, 48] (by decide +kernel) (by decide +kernel)
set_option maxRecDepth 20000 in
theorem gX1_readOrder_X1_readThings : GoodIn wsX1_readOrder (wsV RX1 57 RX1 yX1_readThings wsX1_readThings) := goodIn_app (goodIn_of _ (by decide +kernel)) ggX1_readOrder_X1_readThings
set_option maxRecDepth 20000 in
theorem ggX1_readOrder_X1_readOther : GoodIn wsX1_readOrder wsX1_readOther := goodIn_r _ [41, 3, 5, 6, 7, 8, 9, 10, 11, 12, 13, 14, 15, 16, 17, 18, 19, 29, 30, 31, 32, 1, 33, 42, 43, 44, 45, 46, 47, 48] (by decide +kernel) (by decide +kernel)
set_option maxRecDepth 20000 in
theorem gX1_readOrder_X1_readOther : GoodIn wsX1_readOrder (wsV RX1 60 RX1 yX1_readOther wsX1_readOther) := goodIn_app (goodIn_of _ (by decide +kernel)) ggX1_readOrder_X1_readOther
set_option maxRecDepth 20000 in
theorem ggX1_readOrder_X1_readNumber : GoodIn wsX1_readOrder wsX1_readNumber := goodIn_r _ [27, 3, 28, 10, 11, 12, 8, 13, 14, 15, 16, 17, 18, 19, 29, 30, 31, 32, 1, 33, 42, 43, 44, 45, 46, 47, 48] (by decide +kernel) (by decide +kernel)
set_option maxRecDepth 20000 in
theorem gX1_readOrder_X1_readNumber : GoodIn wsX1_readOrder (wsV RX1 63 RX1 yX1_readNumber wsX1_readNumber) := goodIn_app (goodIn_of _ (by decide +kernel)) ggX1_readOrder_X1_readNumber
set_option maxRecDepth 20000 in
theorem ggX1_readOrder_X1_accept : GoodIn wsX1_readOrder wsX1_accept := goodIn_r _ [37, 3, 14, 15, 16, 8, 17, 18, 19, 42, 43, 44, 45, 46, 47, 48] (by decide +kernel) (by decide +kernel)
set_option maxRecDepth 20000 in
theorem gX1_readOrder_X1_accept : GoodIn wsX1_readOrder (wsV RX1 42 RX1 yX1_accept wsX1_accept) := goodIn_app (goodIn_of _ (by decide +kernel)) ggX1_readOrder_X1_accept
theorem dX1_readOrder_0 : decode cX1_readOrder 0 = .ok (.aload_n 0, 1) := by decide +kernel
theorem dX1_readOrder_1 : decode cX1_readOrder 1 = .ok (.iconst 0, 1) := by decide +kernel
theorem dX1_readOrder_2 : decode cX1_readOrder 2 = .ok (.putfield 32, 3) := by decide +kernel
theorem dX1_readOrder_5 : decode cX1_readOrder 5 = .ok (.aload_n 0, 1) := by decide +kernel
theorem dX1_readOrder_6 : decode cX1_readOrder 6 = .ok (.invokevirtual 46, 3) := by decide +kernel
theorem dX1_readOrder_9 : decode cX1_readOrder 9 = .ok (.ifCond .ne 5, 3) := by decide +kernel
theorem dX1_readOrder_12 : decode cX1_readOrder 12 = .ok (.iconst 0, 1) := by decide +kernel
theorem dX1_readOrder_13 : decode cX1_readOrder 13 = .ok (.ireturn, 1) := by decide +kernel
theorem dX1_readOrder_14 : decode cX1_readOrder 14 = .ok (.aload_n 0, 1) := by decide +kernel
theorem dX1_readOrder_15 : decode cX1_readOrder 15 = .ok (.aload_n 0, 1) := by decide +kernel
theorem dX1_readOrder_16 : decode cX1_readOrder 16 = .ok (.invokevirtual 49, 3) := by decide +kernel
theorem dX1_readOrder_19 : decode cX1_readOrder 19 = .ok (.putfield 22, 3) := by decide +kernel
theorem dX1_readOrder_22 : decode cX1_readOrder 22 = .ok (.aload_n 0, 1) := by decide +kernel
theorem dX1_readOrder_23 : decode cX1_readOrder 23 = .ok (.dup, 1) := by decide +kernel
theorem dX1_readOrder_24 : decode cX1_readOrder 24 = .ok (.getfield 19, 3) := by decide +kernel
theorem dX1_readOrder_27 : decode cX1_readOrder 27 = .ok (.iconst 1, 1) := by decide +kernel
theorem dX1_readOrder_28 : decode cX1_readOrder 28 = .ok (.iadd, 1) := by decide +kernel
theorem dX1_readOrder_29 : decode cX1_readOrder 29 = .ok (.putfield 19, 3) := by decide +kernel
theorem dX1_readOrder_32 : decode cX1_readOrder 32 = .ok (.aload_n 0, 1) := by decide +kernel
theorem dX1_readOrder_33 : decode cX1_readOrder 33 = .ok (.aload_n 0, 1) := by decide +kernel
theorem dX1_readOrder_34 : decode cX1_readOrder 34 = .ok (.invokevirtual 53, 3) := by decide +kernel
theorem dX1_readOrder_37 : decode cX1_readOrder 37 = .ok (.putfield 25, 3) := by decide +kernel
theorem dX1_readOrder_40 : decode cX1_readOrder 40 = .ok (.aload_n 0, 1) := by decide +kernel
theorem dX1_readOrder_41 : decode cX1_readOrder 41 = .ok (.getfield 25, 3) := by decide +kernel
theorem dX1_readOrder_44 : decode cX1_readOrder 44 = .ok (.lookupswitch 133 #[(33, 121), (38, 67), (42, 82), (47, 121), (58, 52)], 52) := by decide +kernel
theorem dX1_readOrder_96 : decode cX1_readOrder 96 = .ok (.aload_n 0, 1) := by decide +kernel
theorem dX1_readOrder_97 : decode cX1_readOrder 97 = .ok (.dup, 1) := by decide +kernel
theorem dX1_readOrder_98 : decode cX1_readOrder 98 = .ok (.getfield 19, 3) := by decide +kernel
theorem dX1_readOrder_101 : decode cX1_readOrder 101 = .ok (.iconst 1, 1) := by decide +kernel
theorem dX1_readOrder_102 : decode cX1_readOrder 102 = .ok (.iadd, 1) := by decide +kernel
theorem dX1_readOrder_103 : decode cX1_readOrder 103 = .ok (.putfield 19, 3) := by decide +kernel
theorem dX1_readOrder_106 : decode cX1_readOrder 106 = .ok (.aload_n 0, 1) := by decide +kernel
theorem dX1_readOrder_107 : decode cX1_readOrder 107 = .ok (.invokevirtual 57, 3) := by decide +kernel
theorem dX1_readOrder_110 : decode cX1_readOrder 110 = .ok (.ireturn, 1) := by decide +kernel
theorem dX1_readOrder_111 : decode cX1_readOrder 111 = .ok (.aload_n 0, 1) := by decide +kernel
theorem dX1_readOrder_112 : decode cX1_readOrder 112 = .ok (.dup, 1) := by decide +kernel
theorem dX1_readOrder_113 : decode cX1_readOrder 113 = .ok (.getfield 19, 3) := by decide +kernel
theorem dX1_readOrder_116 : decode cX1_readOrder 116 = .ok (.iconst 1, 1) := by decide +kernel
theorem dX1_readOrder_117 : decode cX1_readOrder 117 = .ok (.iadd, 1) := by decide +kernel
theorem dX1_readOrder_118 : decode cX1_readOrder 118 = .ok (.putfield 19, 3) := by decide +kernel
theorem dX1_readOrder_121 : decode cX1_readOrder 121 = .ok (.aload_n 0, 1) := by decide +kernel
theorem dX1_readOrder_122 : decode cX1_readOrder 122 = .ok (.invokevirtual 60, 3) := by decide +kernel
theorem dX1_readOrder_125 : decode cX1_readOrder 125 = .ok (.ireturn, 1) := by decide +kernel
theorem dX1_readOrder_126 : decode cX1_readOrder 126 = .ok (.aload_n 0, 1) := by decide +kernel
theorem dX1_readOrder_127 : decode cX1_readOrder 127 = .ok (.dup, 1) := by decide +kernel
theorem dX1_readOrder_128 : decode cX1_readOrder 128 = .ok (.getfield 19, 3) := by decide +kernel
theorem dX1_readOrder_131 : decode cX1_readOrder 131 = .ok (.iconst 1, 1) := by decide +kernel
theorem dX1_readOrder_132 : decode cX1_readOrder 132 = .ok (.iadd, 1) := by decide +kernel
theorem dX1_readOrder_133 : decode cX1_readOrder 133 = .ok (.putfield 19, 3) := by decide +kernel
theorem dX1_readOrder_136 : decode cX1_readOrder 136 = .ok (.aload_n 0, 1) := by decide +kernel
theorem dX1_readOrder_137 : decode cX1_readOrder 137 = .ok (.invokevirtual 63, 3) := by decide +kernel
theorem dX1_readOrder_140 : decode cX1_readOrder 140 = .ok (.ifCond .eq 23, 3) := by decide +kernel
theorem dX1_readOrder_143 : decode cX1_readOrder 143 = .ok (.aload_n 0, 1) := by decide +kernel
theorem dX1_readOrder_144 : decode cX1_readOrder 144 = .ok (.bipush 43, 2) := by decide +kernel
theorem dX1_readOrder_146 : decode cX1_readOrder 146 = .ok (.invokevirtual 42, 3) := by decide +kernel
theorem dX1_readOrder_149 : decode cX1_readOrder 149 = .ok (.ifCond .eq 14, 3) := by decide +kernel
theorem dX1_readOrder_152 : decode cX1_readOrder 152 = .ok (.aload_n 0, 1) := by decide +kernel
theorem dX1_readOrder_153 : decode cX1_readOrder 153 = .ok (.invokevirtual 63, 3) := by decide +kernel
theorem dX1_readOrder_156 : decode cX1_readOrder 156 = .ok (.ifCond .eq 7, 3) := by decide +kernel
theorem dX1_readOrder_159 : decode cX1_readOrder 159 = .ok (.iconst 1, 1) := by decide +kernel
theorem dX1_readOrder_160 : decode cX1_readOrder 160 = .ok (.goto 4, 3) := by decide +kernel
theorem dX1_readOrder_163 : decode cX1_readOrder 163 = .ok (.iconst 0, 1) := by decide +kernel
theorem dX1_readOrder_164 : decode cX1_readOrder 164 = .ok (.ireturn, 1) := by decide +kernel
theorem dX1_readOrder_165 : decode cX1_readOrder 165 = .ok (.aload_n 0, 1) := by decide +kernel
theorem dX1_readOrder_166 : decode cX1_readOrder 166 = .ok (.dup, 1) := by decide +kernel
theorem dX1_readOrder_167 : decode cX1_readOrder 167 = .ok (.getfield 19, 3) := by decide +kernel
theorem dX1_readOrder_170 : decode cX1_readOrder 170 = .ok (.iconst 1, 1) := by decide +kernel
theorem dX1_readOrder_171 : decode cX1_readOrder 171 = .ok (.iadd, 1) := by decide +kernel
theorem dX1_readOrder_172 : decode cX1_readOrder 172 = .ok (.putfield 19, 3) := by decide +kernel
theorem dX1_readOrder_175 : decode cX1_readOrder 175 = .ok (.iconst 1, 1) := by decide +kernel
theorem dX1_readOrder_176 : decode cX1_readOrder 176 = .ok (.ireturn, 1) := by decide +kernel
theorem dX1_readOrder_177 : decode cX1_readOrder 177 = .ok (.iconst 0, 1) := by decide +kernel
theorem dX1_readOrder_178 : decode cX1_readOrder 178 = .ok (.ireturn, 1) := by decide +kernel
set_option maxRecDepth 20000 in
theorem ggX1_accept_X1_sign : GoodIn wsX1_accept wsX1_sign := goodIn_r _ [6, 1, 7, 8, 9, 10, 11, 12, 13, 14, 15] (by decide +kernel) (by decide +kernel)
set_option maxRecDepth 20000 in
theorem gX1_accept_X1_sign : GoodIn wsX1_accept (wsV RX1 53 RX1 yX1_sign wsX1_sign) := goodIn_app (goodIn_of _ (by decide +kernel)) ggX1_accept_X1_sign
theorem dX1_accept_0 : decode cX1_accept 0 = .ok (.aload_n 0, 1) := by decide +kernel
theorem dX1_accept_1 : decode cX1_accept 1 = .ok (.invokevirtual 53, 3) := by decide +kernel
theorem dX1_accept_4 : decode cX1_accept 4 = .ok (.iload_n 1, 1) := by decide +kernel
theorem dX1_accept_5 : decode cX1_accept 5 = .ok (.if_icmp .eq 5, 3) := by decide +kernel
theorem dX1_accept_8 : decode cX1_accept 8 = .ok (.iconst 0, 1) := by decide +kernel
theorem dX1_accept_9 : decode cX1_accept 9 = .ok (.ireturn, 1) := by decide +kernel
theorem dX1_accept_10 : decode cX1_accept 10 = .ok (.aload_n 0, 1) := by decide +kernel
theorem dX1_accept_11 : decode cX1_accept 11 = .ok (.dup, 1) := by decide +kernel
theorem dX1_accept_12 : decode cX1_accept 12 = .ok (.getfield 19, 3) := by decide +kernel
theorem dX1_accept_15 : decode cX1_accept 15 = .ok (.iconst 1, 1) := by decide +kernel
theorem dX1_accept_16 : decode cX1_accept 16 = .ok (.iadd, 1) := by decide +kernel
theorem dX1_accept_17 : decode cX1_accept 17 = .ok (.putfield 19, 3) := by decide +kernel
theorem dX1_accept_20 : decode cX1_accept 20 = .ok (.iconst 1, 1) := by decide +kernel
theorem dX1_accept_21 : decode cX1_accept 21 = .ok (.ireturn, 1) := by decide +kernel
set_option maxRecDepth 20000 in
theorem ggX1_readThings_X1_readNumber : GoodIn wsX1_readThings wsX1_readNumber := goodIn_r _ [5, 6, 7, 8, 9, 10, 4, 11, 12, 13, 14, 15, 16, 17, 18, 19, 20, 21, 22, 23, 28, 29, 30, 31, 32, 33, 34] (by decide +kernel) (by decide +kernel)
set_option maxRecDepth 20000 in
theorem gX1_readThings_X1_readNumber : GoodIn wsX1_readThings (wsV RX1 63 RX1 yX1_readNumber wsX1_readNumber) := goodIn_app (goodIn_of _ (by decide +kernel)) ggX1_readThings_X1_readNumber
set_option maxRecDepth 20000 in
theorem ggX1_readThings_X1_accept : GoodIn wsX1_readThings wsX1_accept := goodIn_r _ [27, 6, 12, 13, 14, 4, 15, 16, 17, 28, 29, 30, 31, 32, 33, 34] (by decide +kernel) (by decide +kernel)
set_option maxRecDepth 20000 in
theorem gX1_readThings_X1_accept : GoodIn wsX1_readThings (wsV RX1 42 RX1 yX1_accept wsX1_accept) := goodIn_app (goodIn_of _ (by decide +kernel)) ggX1_readThings_X1_accept
theorem dX1_readThings_0 : decode cX1_readThings 0 = .ok (.iconst 0, 1) := by decide +kernel
theorem dX1_readThings_1 : decode cX1_readThings 1 = .ok (.istore_n 1, 1) := by decide +kernel
theorem dX1_readThings_2 : decode cX1_readThings 2 = .ok (.iload_n 1, 1) := by decide +kernel
theorem dX1_readThings_3 : decode cX1_readThings 3 = .ok (.bipush 80, 2) := by decide +kernel
theorem dX1_readThings_5 : decode cX1_readThings 5 = .ok (.if_icmp .ge 29, 3) := by decide +kernel
theorem dX1_readThings_8 : decode cX1_readThings 8 = .ok (.aload_n 0, 1) := by decide +kernel
theorem dX1_readThings_9 : decode cX1_readThings 9 = .ok (.invokevirtual 63, 3) := by decide +kernel
theorem dX1_readThings_12 : decode cX1_readThings 12 = .ok (.ifCond .ne 5, 3) := by decide +kernel
theorem dX1_readThings_15 : decode cX1_readThings 15 = .ok (.iconst 0, 1) := by decide +kernel
theorem dX1_readThings_16 : decode cX1_readThings 16 = .ok (.ireturn, 1) := by decide +kernel
theorem dX1_readThings_17 : decode cX1_readThings 17 = .ok (.aload_n 0, 1) := by decide +kernel
theorem dX1_readThings_18 : decode cX1_readThings 18 = .ok (.bipush 44, 2) := by decide +kernel
theorem dX1_readThings_20 : decode cX1_readThings 20 = .ok (.invokevirtual 42, 3) := by decide +kernel
theorem dX1_readThings_23 : decode cX1_readThings 23 = .ok (.ifCond .ne 5, 3) := by decide +kernel
theorem dX1_readThings_26 : decode cX1_readThings 26 = .ok (.iconst 1, 1) := by decide +kernel
theorem dX1_readThings_27 : decode cX1_readThings 27 = .ok (.ireturn, 1) := by decide +kernel
theorem dX1_readThings_28 : decode cX1_readThings 28 = .ok (.iinc 1 1, 3) := by decide +kernel
theorem dX1_readThings_31 : decode cX1_readThings 31 = .ok (.goto (-29), 3) := by decide +kernel
theorem dX1_readThings_34 : decode cX1_readThings 34 = .ok (.iconst 0, 1) := by decide +kernel
theorem dX1_readThings_35 : decode cX1_readThings 35 = .ok (.ireturn, 1) := by decide +kernel
set_option maxRecDepth 20000 in
theorem ggX1_readOther_X1_standsAtSketch : GoodIn wsX1_readOther wsX1_standsAtSketch := goodIn_r _ [6, 7, 8, 9, 5, 10, 11, 12, 13, 14, 1, 15, 16, 23, 24, 25, 26, 27, 28, 29] (by decide +kernel) (by decide +kernel)
set_option maxRecDepth 20000 in
theorem gX1_readOther_X1_standsAtSketch : GoodIn wsX1_readOther (wsV RX1 46 RX1 yX1_standsAtSketch wsX1_standsAtSketch) := goodIn_app (goodIn_of _ (by decide +kernel)) ggX1_readOther_X1_standsAtSketch
set_option maxRecDepth 20000 in
theorem ggX1_readOther_X1_digit : GoodIn wsX1_readOther wsX1_digit := goodIn_r _ [10, 11, 12, 13, 5, 14, 1, 15, 16, 23, 24, 25, 26, 27, 28, 29] (by decide +kernel) (by decide +kernel)
set_option maxRecDepth 20000 in
theorem gX1_readOther_X1_digit : GoodIn wsX1_readOther (wsV RX1 49 RX1 yX1_digit wsX1_digit) := goodIn_app (goodIn_of _ (by decide +kernel)) ggX1_readOther_X1_digit
set_option maxRecDepth 20000 in
theorem ggX1_readOther_X1_keepNumber : GoodIn wsX1_readOther wsX1_keepNumber := goodIn_r _ [20, 21, 22, 23, 24, 25, 26, 27, 28, 29] (by decide +kernel) (by decide +kernel)
set_option maxRecDepth 20000 in
theorem gX1_readOther_X1_keepNumber : GoodIn wsX1_readOther (wsV RX1 66 RX1 yX1_keepNumber wsX1_keepNumber) := goodIn_app (goodIn_of _ (by decide +kernel)) ggX1_readOther_X1_keepNumber
theorem dX1_readOther_0 : decode cX1_readOther 0 = .ok (.aload_n 0, 1) := by decide +kernel
theorem dX1_readOther_1 : decode cX1_readOther 1 = .ok (.invokevirtual 46, 3) := by decide +kernel
theorem dX1_readOther_4 : decode cX1_readOther 4 = .ok (.ifCond .ne 5, 3) := by decide +kernel
theorem dX1_readOther_7 : decode cX1_readOther 7 = .ok (.iconst 0, 1) := by decide +kernel
theorem dX1_readOther_8 : decode cX1_readOther 8 = .ok (.ireturn, 1) := by decide +kernel
theorem dX1_readOther_9 : decode cX1_readOther 9 = .ok (.aload_n 0, 1) := by decide +kernel
theorem dX1_readOther_10 : decode cX1_readOther 10 = .ok (.aload_n 0, 1) := by decide +kernel
theorem dX1_readOther_11 : decode cX1_readOther 11 = .ok (.invokevirtual 49, 3) := by decide +kernel
theorem dX1_readOther_14 : decode cX1_readOther 14 = .ok (.invokevirtual 66, 3) := by decide +kernel
theorem dX1_readOther_17 : decode cX1_readOther 17 = .ok (.aload_n 0, 1) := by decide +kernel
theorem dX1_readOther_18 : decode cX1_readOther 18 = .ok (.dup, 1) := by decide +kernel
theorem dX1_readOther_19 : decode cX1_readOther 19 = .ok (.getfield 19, 3) := by decide +kernel
theorem dX1_readOther_22 : decode cX1_readOther 22 = .ok (.iconst 1, 1) := by decide +kernel
theorem dX1_readOther_23 : decode cX1_readOther 23 = .ok (.iadd, 1) := by decide +kernel
theorem dX1_readOther_24 : decode cX1_readOther 24 = .ok (.putfield 19, 3) := by decide +kernel
theorem dX1_readOther_27 : decode cX1_readOther 27 = .ok (.iconst 1, 1) := by decide +kernel
theorem dX1_readOther_28 : decode cX1_readOther 28 = .ok (.ireturn, 1) := by decide +kernel
set_option maxRecDepth 20000 in
theorem ggX1_standsAtSketch_X1_digit : GoodIn wsX1_standsAtSketch wsX1_digit := goodIn_r _ [5, 6, 7, 8, 4, 9, 10, 11, 12, 13, 14, 15, 16, 17, 18, 19] (by decide +kernel) (by decide +kernel)
set_option maxRecDepth 20000 in
theorem gX1_standsAtSketch_X1_digit : GoodIn wsX1_standsAtSketch (wsV RX1 49 RX1 yX1_digit wsX1_digit) := goodIn_app (goodIn_of _ (by decide +kernel)) ggX1_standsAtSketch_X1_digit
theorem dX1_standsAtSketch_0 : decode cX1_standsAtSketch 0 = .ok (.aload_n 0, 1) := by decide +kernel
theorem dX1_standsAtSketch_1 : decode cX1_standsAtSketch 1 = .ok (.invokevirtual 49, 3) := by decide +kernel
theorem dX1_standsAtSketch_4 : decode cX1_standsAtSketch 4 = .ok (.istore_n 1, 1) := by decide +kernel
theorem dX1_standsAtSketch_5 : decode cX1_standsAtSketch 5 = .ok (.iload_n 1, 1) := by decide +kernel
theorem dX1_standsAtSketch_6 : decode cX1_standsAtSketch 6 = .ok (.ifCond .lt 13, 3) := by decide +kernel
theorem dX1_standsAtSketch_9 : decode cX1_standsAtSketch 9 = .ok (.iload_n 1, 1) := by decide +kernel
theorem dX1_standsAtSketch_10 : decode cX1_standsAtSketch 10 = .ok (.bipush 6, 2) := by decide +kernel
theorem dX1_standsAtSketch_12 : decode cX1_standsAtSketch 12 = .ok (.if_icmp .ge 7, 3) := by decide +kernel
theorem dX1_standsAtSketch_15 : decode cX1_standsAtSketch 15 = .ok (.iconst 1, 1) := by decide +kernel
theorem dX1_standsAtSketch_16 : decode cX1_standsAtSketch 16 = .ok (.goto 4, 3) := by decide +kernel
theorem dX1_standsAtSketch_19 : decode cX1_standsAtSketch 19 = .ok (.iconst 0, 1) := by decide +kernel
theorem dX1_standsAtSketch_20 : decode cX1_standsAtSketch 20 = .ok (.ireturn, 1) := by decide +kernel
set_option maxRecDepth 20000 in
theorem ggX1_readNumber_X1_digit : GoodIn wsX1_readNumber wsX1_digit := goodIn_r _ [7, 8, 9, 10, 6, 11, 1, 12, 13, 20, 21, 22, 23, 24, 25, 26] (by decide +kernel) (by decide +kernel)
set_option maxRecDepth 20000 in
theorem gX1_readNumber_X1_digit : GoodIn wsX1_readNumber (wsV RX1 49 RX1 yX1_digit wsX1_digit) := goodIn_app (goodIn_of _ (by decide +kernel)) ggX1_readNumber_X1_digit
set_option maxRecDepth 20000 in
theorem ggX1_readNumber_X1_keepNumber : GoodIn wsX1_readNumber wsX1_keepNumber := goodIn_r _ [17, 18, 19, 20, 21, 22, 23, 24, 25, 26] (by decide +kernel) (by decide +kernel)
set_option maxRecDepth 20000 in
theorem gX1_readNumber_X1_keepNumber : GoodIn wsX1_readNumber (wsV RX1 66 RX1 yX1_keepNumber wsX1_keepNumber) := goodIn_app (goodIn_of _ (by decide +kernel)) ggX1_readNumber_X1_keepNumber
theorem dX1_readNumber_0 : decode cX1_readNumber 0 = .ok (.aload_n 0, 1) := by decide +kernel
theorem dX1_readNumber_1 : decode cX1_readNumber 1 = .ok (.invokevirtual 49, 3) := by decide +kernel
theorem dX1_readNumber_4 : decode cX1_readNumber 4 = .ok (.istore_n 1, 1) := by decide +kernel
theorem dX1_readNumber_5 : decode cX1_readNumber 5 = .ok (.iload_n 1, 1) := by decide +kernel
theorem dX1_readNumber_6 : decode cX1_readNumber 6 = .ok (.ifCond .ge 5, 3) := by decide +kernel
theorem dX1_readNumber_9 : decode cX1_readNumber 9 = .ok (.iconst 0, 1) := by decide +kernel
theorem dX1_readNumber_10 : decode cX1_readNumber 10 = .ok (.ireturn, 1) := by decide +kernel
theorem dX1_readNumber_11 : decode cX1_readNumber 11 = .ok (.aload_n 0, 1) := by decide +kernel
theorem dX1_readNumber_12 : decode cX1_readNumber 12 = .ok (.dup, 1) := by decide +kernel
theorem dX1_readNumber_13 : decode cX1_readNumber 13 = .ok (.getfield 19, 3) := by decide +kernel
theorem dX1_readNumber_16 : decode cX1_readNumber 16 = .ok (.iconst 1, 1) := by decide +kernel
theorem dX1_readNumber_17 : decode cX1_readNumber 17 = .ok (.iadd, 1) := by decide +kernel
theorem dX1_readNumber_18 : decode cX1_readNumber 18 = .ok (.putfield 19, 3) := by decide +kernel
theorem dX1_readNumber_21 : decode cX1_readNumber 21 = .ok (.iconst 1, 1) := by decide +kernel
theorem dX1_readNumber_22 : decode cX1_readNumber 22 = .ok (.istore_n 2, 1) := by decide +kernel
theorem dX1_readNumber_23 : decode cX1_readNumber 23 = .ok (.iload_n 2, 1) := by decide +kernel
theorem dX1_readNumber_24 : decode cX1_readNumber 24 = .ok (.bipush 80, 2) := by decide +kernel
theorem dX1_readNumber_26 : decode cX1_readNumber 26 = .ok (.if_icmp .ge 51, 3) := by decide +kernel
theorem dX1_readNumber_29 : decode cX1_readNumber 29 = .ok (.iload_n 1, 1) := by decide +kernel
theorem dX1_readNumber_30 : decode cX1_readNumber 30 = .ok (.ifCond .le 47, 3) := by decide +kernel
theorem dX1_readNumber_33 : decode cX1_readNumber 33 = .ok (.aload_n 0, 1) := by decide +kernel
theorem dX1_readNumber_34 : decode cX1_readNumber 34 = .ok (.invokevirtual 49, 3) := by decide +kernel
theorem dX1_readNumber_37 : decode cX1_readNumber 37 = .ok (.ifCond .lt 40, 3) := by decide +kernel
theorem dX1_readNumber_40 : decode cX1_readNumber 40 = .ok (.iload_n 1, 1) := by decide +kernel
theorem dX1_readNumber_41 : decode cX1_readNumber 41 = .ok (.bipush 10, 2) := by decide +kernel
theorem dX1_readNumber_43 : decode cX1_readNumber 43 = .ok (.imul, 1) := by decide +kernel
theorem dX1_readNumber_44 : decode cX1_readNumber 44 = .ok (.aload_n 0, 1) := by decide +kernel
theorem dX1_readNumber_45 : decode cX1_readNumber 45 = .ok (.invokevirtual 49, 3) := by decide +kernel
theorem dX1_readNumber_48 : decode cX1_readNumber 48 = .ok (.iadd, 1) := by decide +kernel
theorem dX1_readNumber_49 : decode cX1_readNumber 49 = .ok (.istore_n 3, 1) := by decide +kernel
theorem dX1_readNumber_50 : decode cX1_readNumber 50 = .ok (.iload_n 3, 1) := by decide +kernel
theorem dX1_readNumber_51 : decode cX1_readNumber 51 = .ok (.ldc 70, 2) := by decide +kernel
theorem dX1_readNumber_53 : decode cX1_readNumber 53 = .ok (.if_icmp .lt 6, 3) := by decide +kernel
theorem dX1_readNumber_56 : decode cX1_readNumber 56 = .ok (.goto 21, 3) := by decide +kernel
theorem dX1_readNumber_59 : decode cX1_readNumber 59 = .ok (.iload_n 3, 1) := by decide +kernel
theorem dX1_readNumber_60 : decode cX1_readNumber 60 = .ok (.istore_n 1, 1) := by decide +kernel
theorem dX1_readNumber_61 : decode cX1_readNumber 61 = .ok (.aload_n 0, 1) := by decide +kernel
theorem dX1_readNumber_62 : decode cX1_readNumber 62 = .ok (.dup, 1) := by decide +kernel
theorem dX1_readNumber_63 : decode cX1_readNumber 63 = .ok (.getfield 19, 3) := by decide +kernel
theorem dX1_readNumber_66 : decode cX1_readNumber 66 = .ok (.iconst 1, 1) := by decide +kernel
theorem dX1_readNumber_67 : decode cX1_readNumber 67 = .ok (.iadd, 1) := by decide +kernel
theorem dX1_readNumber_68 : decode cX1_readNumber 68 = .ok (.putfield 19, 3) := by decide +kernel
theorem dX1_readNumber_71 : decode cX1_readNumber 71 = .ok (.iinc 2 1, 3) := by decide +kernel
theorem dX1_readNumber_74 : decode cX1_readNumber 74 = .ok (.goto (-51), 3) := by decide +kernel
theorem dX1_readNumber_77 : decode cX1_readNumber 77 = .ok (.aload_n 0, 1) := by decide +kernel
theorem dX1_readNumber_78 : decode cX1_readNumber 78 = .ok (.iload_n 1, 1) := by decide +kernel
theorem dX1_readNumber_79 : decode cX1_readNumber 79 = .ok (.invokevirtual 66, 3) := by decide +kernel
theorem dX1_readNumber_82 : decode cX1_readNumber 82 = .ok (.iconst 1, 1) := by decide +kernel
theorem dX1_readNumber_83 : decode cX1_readNumber 83 = .ok (.ireturn, 1) := by decide +kernel
set_option maxRecDepth 20000 in
theorem ggX1_digit_X1_sign : GoodIn wsX1_digit wsX1_sign := goodIn_r _ [5, 6, 7, 8, 9, 10, 11, 12, 13, 14, 15] (by decide +kernel) (by decide +kernel)
set_option maxRecDepth 20000 in
theorem gX1_digit_X1_sign : GoodIn wsX1_digit (wsV RX1 53 RX1 yX1_sign wsX1_sign) := goodIn_app (goodIn_of _ (by decide +kernel)) ggX1_digit_X1_sign
theorem dX1_digit_0 : decode cX1_digit 0 = .ok (.aload_n 0, 1) := by decide +kernel
theorem dX1_digit_1 : decode cX1_digit 1 = .ok (.invokevirtual 53, 3) := by decide +kernel
theorem dX1_digit_4 : decode cX1_digit 4 = .ok (.istore_n 1, 1) := by decide +kernel
theorem dX1_digit_5 : decode cX1_digit 5 = .ok (.iload_n 1, 1) := by decide +kernel
theorem dX1_digit_6 : decode cX1_digit 6 = .ok (.bipush 48, 2) := by decide +kernel
theorem dX1_digit_8 : decode cX1_digit 8 = .ok (.if_icmp .lt 16, 3) := by decide +kernel
theorem dX1_digit_11 : decode cX1_digit 11 = .ok (.iload_n 1, 1) := by decide +kernel
theorem dX1_digit_12 : decode cX1_digit 12 = .ok (.bipush 57, 2) := by decide +kernel
theorem dX1_digit_14 : decode cX1_digit 14 = .ok (.if_icmp .gt 10, 3) := by decide +kernel
theorem dX1_digit_17 : decode cX1_digit 17 = .ok (.iload_n 1, 1) := by decide +kernel
theorem dX1_digit_18 : decode cX1_digit 18 = .ok (.bipush 48, 2) := by decide +kernel
theorem dX1_digit_20 : decode cX1_digit 20 = .ok (.isub, 1) := by decide +kernel
theorem dX1_digit_21 : decode cX1_digit 21 = .ok (.goto 4, 3) := by decide +kernel
theorem dX1_digit_24 : decode cX1_digit 24 = .ok (.iconst (-1), 1) := by decide +kernel
theorem dX1_digit_25 : decode cX1_digit 25 = .ok (.ireturn, 1) := by decide +kernel
theorem dX1_sign_0 : decode cX1_sign 0 = .ok (.aload_n 0, 1) := by decide +kernel
theorem dX1_sign_1 : decode cX1_sign 1 = .ok (.getfield 19, 3) := by decide +kernel
theorem dX1_sign_4 : decode cX1_sign 4 = .ok (.ifCond .lt 38, 3) := by decide +kernel
theorem dX1_sign_7 : decode cX1_sign 7 = .ok (.aload_n 0, 1) := by decide +kernel
theorem dX1_sign_8 : decode cX1_sign 8 = .ok (.getfield 19, 3) := by decide +kernel
theorem dX1_sign_11 : decode cX1_sign 11 = .ok (.aload_n 0, 1) := by decide +kernel
theorem dX1_sign_12 : decode cX1_sign 12 = .ok (.getfield 15, 3) := by decide +kernel
theorem dX1_sign_15 : decode cX1_sign 15 = .ok (.if_icmp .ge 27, 3) := by decide +kernel
theorem dX1_sign_18 : decode cX1_sign 18 = .ok (.aload_n 0, 1) := by decide +kernel
theorem dX1_sign_19 : decode cX1_sign 19 = .ok (.getfield 19, 3) := by decide +kernel
theorem dX1_sign_22 : decode cX1_sign 22 = .ok (.aload_n 0, 1) := by decide +kernel
theorem dX1_sign_23 : decode cX1_sign 23 = .ok (.getfield 9, 3) := by decide +kernel
theorem dX1_sign_26 : decode cX1_sign 26 = .ok (.arraylength, 1) := by decide +kernel
theorem dX1_sign_27 : decode cX1_sign 27 = .ok (.if_icmp .ge 15, 3) := by decide +kernel
theorem dX1_sign_30 : decode cX1_sign 30 = .ok (.aload_n 0, 1) := by decide +kernel
theorem dX1_sign_31 : decode cX1_sign 31 = .ok (.getfield 9, 3) := by decide +kernel
theorem dX1_sign_34 : decode cX1_sign 34 = .ok (.aload_n 0, 1) := by decide +kernel
theorem dX1_sign_35 : decode cX1_sign 35 = .ok (.getfield 19, 3) := by decide +kernel
theorem dX1_sign_38 : decode cX1_sign 38 = .ok (.caload, 1) := by decide +kernel
theorem dX1_sign_39 : decode cX1_sign 39 = .ok (.goto 4, 3) := by decide +kernel
theorem dX1_sign_42 : decode cX1_sign 42 = .ok (.iconst 0, 1) := by decide +kernel
theorem dX1_sign_43 : decode cX1_sign 43 = .ok (.ireturn, 1) := by decide +kernel
theorem dX1_keepNumber_0 : decode cX1_keepNumber 0 = .ok (.aload_n 0, 1) := by decide +kernel
theorem dX1_keepNumber_1 : decode cX1_keepNumber 1 = .ok (.getfield 32, 3) := by decide +kernel
theorem dX1_keepNumber_4 : decode cX1_keepNumber 4 = .ok (.aload_n 0, 1) := by decide +kernel
theorem dX1_keepNumber_5 : decode cX1_keepNumber 5 = .ok (.getfield 28, 3) := by decide +kernel
theorem dX1_keepNumber_8 : decode cX1_keepNumber 8 = .ok (.arraylength, 1) := by decide +kernel
theorem dX1_keepNumber_9 : decode cX1_keepNumber 9 = .ok (.if_icmp .ge 23, 3) := by decide +kernel
theorem dX1_keepNumber_12 : decode cX1_keepNumber 12 = .ok (.aload_n 0, 1) := by decide +kernel
theorem dX1_keepNumber_13 : decode cX1_keepNumber 13 = .ok (.getfield 28, 3) := by decide +kernel
theorem dX1_keepNumber_16 : decode cX1_keepNumber 16 = .ok (.aload_n 0, 1) := by decide +kernel
theorem dX1_keepNumber_17 : decode cX1_keepNumber 17 = .ok (.getfield 32, 3) := by decide +kernel
theorem dX1_keepNumber_20 : decode cX1_keepNumber 20 = .ok (.iload_n 1, 1) := by decide +kernel
theorem dX1_keepNumber_21 : decode cX1_keepNumber 21 = .ok (.iastore, 1) := by decide +kernel
theorem dX1_keepNumber_22 : decode cX1_keepNumber 22 = .ok (.aload_n 0, 1) := by decide +kernel
theorem dX1_keepNumber_23 : decode cX1_keepNumber 23 = .ok (.dup, 1) := by decide +kernel
theorem dX1_keepNumber_24 : decode cX1_keepNumber 24 = .ok (.getfield 32, 3) := by decide +kernel
theorem dX1_keepNumber_27 : decode cX1_keepNumber 27 = .ok (.iconst 1, 1) := by decide +kernel
theorem dX1_keepNumber_28 : decode cX1_keepNumber 28 = .ok (.iadd, 1) := by decide +kernel
theorem dX1_keepNumber_29 : decode cX1_keepNumber 29 = .ok (.putfield 32, 3) := by decide +kernel
theorem dX1_keepNumber_32 : decode cX1_keepNumber 32 = .ok (.return_, 1) := by decide +kernel
theorem dX1_numberAt_0 : decode cX1_numberAt 0 = .ok (.iload_n 1, 1) := by decide +kernel
theorem dX1_numberAt_1 : decode cX1_numberAt 1 = .ok (.ifCond .lt 29, 3) := by decide +kernel
theorem dX1_numberAt_4 : decode cX1_numberAt 4 = .ok (.iload_n 1, 1) := by decide +kernel
theorem dX1_numberAt_5 : decode cX1_numberAt 5 = .ok (.aload_n 0, 1) := by decide +kernel
theorem dX1_numberAt_6 : decode cX1_numberAt 6 = .ok (.getfield 32, 3) := by decide +kernel
theorem dX1_numberAt_9 : decode cX1_numberAt 9 = .ok (.if_icmp .ge 21, 3) := by decide +kernel
theorem dX1_numberAt_12 : decode cX1_numberAt 12 = .ok (.iload_n 1, 1) := by decide +kernel
theorem dX1_numberAt_13 : decode cX1_numberAt 13 = .ok (.aload_n 0, 1) := by decide +kernel
theorem dX1_numberAt_14 : decode cX1_numberAt 14 = .ok (.getfield 28, 3) := by decide +kernel
theorem dX1_numberAt_17 : decode cX1_numberAt 17 = .ok (.arraylength, 1) := by decide +kernel
theorem dX1_numberAt_18 : decode cX1_numberAt 18 = .ok (.if_icmp .ge 12, 3) := by decide +kernel
theorem dX1_numberAt_21 : decode cX1_numberAt 21 = .ok (.aload_n 0, 1) := by decide +kernel
theorem dX1_numberAt_22 : decode cX1_numberAt 22 = .ok (.getfield 28, 3) := by decide +kernel
theorem dX1_numberAt_25 : decode cX1_numberAt 25 = .ok (.iload_n 1, 1) := by decide +kernel
theorem dX1_numberAt_26 : decode cX1_numberAt 26 = .ok (.iaload, 1) := by decide +kernel
theorem dX1_numberAt_27 : decode cX1_numberAt 27 = .ok (.goto 4, 3) := by decide +kernel
theorem dX1_numberAt_30 : decode cX1_numberAt 30 = .ok (.iconst 0, 1) := by decide +kernel
theorem dX1_numberAt_31 : decode cX1_numberAt 31 = .ok (.ireturn, 1) := by decide +kernel
theorem dX2_init_0 : decode cX2_init 0 = .ok (.aload_n 0, 1) := by decide +kernel
theorem dX2_init_1 : decode cX2_init 1 = .ok (.invokespecial 3, 3) := by decide +kernel
theorem dX2_init_4 : decode cX2_init 4 = .ok (.aload_n 0, 1) := by decide +kernel
theorem dX2_init_5 : decode cX2_init 5 = .ok (.iconst 4, 1) := by decide +kernel
theorem dX2_init_6 : decode cX2_init 6 = .ok (.putfield 9, 3) := by decide +kernel
theorem dX2_init_9 : decode cX2_init 9 = .ok (.aload_n 0, 1) := by decide +kernel
theorem dX2_init_10 : decode cX2_init 10 = .ok (.bipush 64, 2) := by decide +kernel
theorem dX2_init_12 : decode cX2_init 12 = .ok (.newarray .int, 2) := by decide +kernel
theorem dX2_init_14 : decode cX2_init 14 = .ok (.putfield 15, 3) := by decide +kernel
theorem dX2_init_17 : decode cX2_init 17 = .ok (.aload_n 0, 1) := by decide +kernel
theorem dX2_init_18 : decode cX2_init 18 = .ok (.bipush 40, 2) := by decide +kernel
theorem dX2_init_20 : decode cX2_init 20 = .ok (.newarray .int, 2) := by decide +kernel
theorem dX2_init_22 : decode cX2_init 22 = .ok (.putfield 19, 3) := by decide +kernel
theorem dX2_init_25 : decode cX2_init 25 = .ok (.aload_n 0, 1) := by decide +kernel
theorem dX2_init_26 : decode cX2_init 26 = .ok (.iconst 0, 1) := by decide +kernel
theorem dX2_init_27 : decode cX2_init 27 = .ok (.putfield 22, 3) := by decide +kernel
theorem dX2_init_30 : decode cX2_init 30 = .ok (.aload_n 0, 1) := by decide +kernel
theorem dX2_init_31 : decode cX2_init 31 = .ok (.iconst 0, 1) := by decide +kernel
theorem dX2_init_32 : decode cX2_init 32 = .ok (.putfield 25, 3) := by decide +kernel
theorem dX2_init_35 : decode cX2_init 35 = .ok (.return_, 1) := by decide +kernel
theorem dX2_buckets_0 : decode cX2_buckets 0 = .ok (.iconst 1, 1) := by decide +kernel
theorem dX2_buckets_1 : decode cX2_buckets 1 = .ok (.aload_n 0, 1) := by decide +kernel
theorem dX2_buckets_2 : decode cX2_buckets 2 = .ok (.getfield 9, 3) := by decide +kernel
theorem dX2_buckets_5 : decode cX2_buckets 5 = .ok (.ishl, 1) := by decide +kernel
theorem dX2_buckets_6 : decode cX2_buckets 6 = .ok (.ireturn, 1) := by decide +kernel
theorem dX2_hasBucket_0 : decode cX2_hasBucket 0 = .ok (.iload_n 1, 1) := by decide +kernel
theorem dX2_hasBucket_1 : decode cX2_hasBucket 1 = .ok (.ifCond .lt 26, 3) := by decide +kernel
theorem dX2_hasBucket_4 : decode cX2_hasBucket 4 = .ok (.iload_n 1, 1) := by decide +kernel
theorem dX2_hasBucket_5 : decode cX2_hasBucket 5 = .ok (.iconst 1, 1) := by decide +kernel
theorem dX2_hasBucket_6 : decode cX2_hasBucket 6 = .ok (.aload_n 0, 1) := by decide +kernel
theorem dX2_hasBucket_7 : decode cX2_hasBucket 7 = .ok (.getfield 9, 3) := by decide +kernel
theorem dX2_hasBucket_10 : decode cX2_hasBucket 10 = .ok (.ishl, 1) := by decide +kernel
theorem dX2_hasBucket_11 : decode cX2_hasBucket 11 = .ok (.if_icmp .ge 16, 3) := by decide +kernel
theorem dX2_hasBucket_14 : decode cX2_hasBucket 14 = .ok (.iload_n 1, 1) := by decide +kernel
theorem dX2_hasBucket_15 : decode cX2_hasBucket 15 = .ok (.aload_n 0, 1) := by decide +kernel
theorem dX2_hasBucket_16 : decode cX2_hasBucket 16 = .ok (.getfield 15, 3) := by decide +kernel
theorem dX2_hasBucket_19 : decode cX2_hasBucket 19 = .ok (.arraylength, 1) := by decide +kernel
theorem dX2_hasBucket_20 : decode cX2_hasBucket 20 = .ok (.if_icmp .ge 7, 3) := by decide +kernel
theorem dX2_hasBucket_23 : decode cX2_hasBucket 23 = .ok (.iconst 1, 1) := by decide +kernel
theorem dX2_hasBucket_24 : decode cX2_hasBucket 24 = .ok (.goto 4, 3) := by decide +kernel
theorem dX2_hasBucket_27 : decode cX2_hasBucket 27 = .ok (.iconst 0, 1) := by decide +kernel
theorem dX2_hasBucket_28 : decode cX2_hasBucket 28 = .ok (.ireturn, 1) := by decide +kernel
set_option maxRecDepth 20000 in
theorem ggX2_rankIn_X2_hasBucket : GoodIn wsX2_rankIn wsX2_hasBucket := goodIn_r _ [6, 7, 1, 8, 9, 10, 11, 12] (by decide +kernel) (by decide +kernel)
set_option maxRecDepth 20000 in
theorem gX2_rankIn_X2_hasBucket : GoodIn wsX2_rankIn (wsV RX2 29 RX2 yX2_hasBucket wsX2_hasBucket) := goodIn_app (goodIn_of _ (by decide +kernel)) ggX2_rankIn_X2_hasBucket
theorem dX2_rankIn_0 : decode cX2_rankIn 0 = .ok (.aload_n 0, 1) := by decide +kernel
theorem dX2_rankIn_1 : decode cX2_rankIn 1 = .ok (.iload_n 1, 1) := by decide +kernel
theorem dX2_rankIn_2 : decode cX2_rankIn 2 = .ok (.invokevirtual 29, 3) := by decide +kernel
theorem dX2_rankIn_5 : decode cX2_rankIn 5 = .ok (.ifCond .eq 12, 3) := by decide +kernel
theorem dX2_rankIn_8 : decode cX2_rankIn 8 = .ok (.aload_n 0, 1) := by decide +kernel
theorem dX2_rankIn_9 : decode cX2_rankIn 9 = .ok (.getfield 15, 3) := by decide +kernel
theorem dX2_rankIn_12 : decode cX2_rankIn 12 = .ok (.iload_n 1, 1) := by decide +kernel
theorem dX2_rankIn_13 : decode cX2_rankIn 13 = .ok (.iaload, 1) := by decide +kernel
theorem dX2_rankIn_14 : decode cX2_rankIn 14 = .ok (.goto 4, 3) := by decide +kernel
theorem dX2_rankIn_17 : decode cX2_rankIn 17 = .ok (.iconst 0, 1) := by decide +kernel
theorem dX2_rankIn_18 : decode cX2_rankIn 18 = .ok (.ireturn, 1) := by decide +kernel
set_option maxRecDepth 20000 in
theorem ggX2_bucketOf_X2_buckets : GoodIn wsX2_bucketOf wsX2_buckets := goodIn_r _ [5, 6, 7, 8, 9, 10, 11] (by decide +kernel) (by decide +kernel)
set_option maxRecDepth 20000 in
theorem gX2_bucketOf_X2_buckets : GoodIn wsX2_bucketOf (wsV RX2 33 RX2 yX2_buckets wsX2_buckets) := goodIn_app (goodIn_of _ (by decide +kernel)) ggX2_bucketOf_X2_buckets
theorem dX2_bucketOf_0 : decode cX2_bucketOf 0 = .ok (.iload_n 1, 1) := by decide +kernel
theorem dX2_bucketOf_1 : decode cX2_bucketOf 1 = .ok (.aload_n 0, 1) := by decide +kernel
theorem dX2_bucketOf_2 : decode cX2_bucketOf 2 = .ok (.invokevirtual 33, 3) := by decide +kernel
theorem dX2_bucketOf_5 : decode cX2_bucketOf 5 = .ok (.iconst 1, 1) := by decide +kernel
theorem dX2_bucketOf_6 : decode cX2_bucketOf 6 = .ok (.isub, 1) := by decide +kernel
theorem dX2_bucketOf_7 : decode cX2_bucketOf 7 = .ok (.iand, 1) := by decide +kernel
theorem dX2_bucketOf_8 : decode cX2_bucketOf 8 = .ok (.ireturn, 1) := by decide +kernel
set_option maxRecDepth 20000 in
theorem ggX2_rankOf_J6_bitCount_0f7a4 : GoodIn wsX2_rankOf wsJ6_bitCount_0f7a4 := goodIn_r _ [5, 6, 7, 8] (by decide +kernel) (by decide +kernel)
set_option maxRecDepth 20000 in
theorem gX2_rankOf_J6_bitCount_0f7a4 : GoodIn wsX2_rankOf (va_wsS RX2 37 yJ6_bitCount_0f7a4 wsJ6_bitCount_0f7a4) := goodIn_app (goodIn_of _ (by decide +kernel)) ggX2_rankOf_J6_bitCount_0f7a4
theorem dX2_rankOf_0 : decode cX2_rankOf 0 = .ok (.iload_n 1, 1) := by decide +kernel
theorem dX2_rankOf_1 : decode cX2_rankOf 1 = .ok (.aload_n 0, 1) := by decide +kernel
theorem dX2_rankOf_2 : decode cX2_rankOf 2 = .ok (.getfield 9, 3) := by decide +kernel
theorem dX2_rankOf_5 : decode cX2_rankOf 5 = .ok (.ishr, 1) := by decide +kernel
theorem dX2_rankOf_6 : decode cX2_rankOf 6 = .ok (.istore_n 2, 1) := by decide +kernel
theorem dX2_rankOf_7 : decode cX2_rankOf 7 = .ok (.iload_n 2, 1) := by decide +kernel
theorem dX2_rankOf_8 : decode cX2_rankOf 8 = .ok (.ifCond .ne 11, 3) := by decide +kernel
theorem dX2_rankOf_11 : decode cX2_rankOf 11 = .ok (.bipush 17, 2) := by decide +kernel
theorem dX2_rankOf_13 : decode cX2_rankOf 13 = .ok (.aload_n 0, 1) := by decide +kernel
theorem dX2_rankOf_14 : decode cX2_rankOf 14 = .ok (.getfield 9, 3) := by decide +kernel
theorem dX2_rankOf_17 : decode cX2_rankOf 17 = .ok (.isub, 1) := by decide +kernel
theorem dX2_rankOf_18 : decode cX2_rankOf 18 = .ok (.ireturn, 1) := by decide +kernel
theorem dX2_rankOf_19 : decode cX2_rankOf 19 = .ok (.iload_n 2, 1) := by decide +kernel
theorem dX2_rankOf_20 : decode cX2_rankOf 20 = .ok (.iload_n 2, 1) := by decide +kernel
theorem dX2_rankOf_21 : decode cX2_rankOf 21 = .ok (.ineg, 1) := by decide +kernel
theorem dX2_rankOf_22 : decode cX2_rankOf 22 = .ok (.iand, 1) := by decide +kernel
theorem dX2_rankOf_23 : decode cX2_rankOf 23 = .ok (.iconst 1, 1) := by decide +kernel
theorem dX2_rankOf_24 : decode cX2_rankOf 24 = .ok (.isub, 1) := by decide +kernel
theorem dX2_rankOf_25 : decode cX2_rankOf 25 = .ok (.invokestatic 37, 3) := by decide +kernel
theorem dX2_rankOf_28 : decode cX2_rankOf 28 = .ok (.istore_n 3, 1) := by decide +kernel
theorem dX2_rankOf_29 : decode cX2_rankOf 29 = .ok (.iconst 1, 1) := by decide +kernel
theorem dX2_rankOf_30 : decode cX2_rankOf 30 = .ok (.iload_n 3, 1) := by decide +kernel
theorem dX2_rankOf_31 : decode cX2_rankOf 31 = .ok (.iadd, 1) := by decide +kernel
theorem dX2_rankOf_32 : decode cX2_rankOf 32 = .ok (.ireturn, 1) := by decide +kernel
set_option maxRecDepth 20000 in
theorem ggX2_wouldChangeBy_X2_rankOf : GoodIn wsX2_wouldChangeBy wsX2_rankOf := goodIn_r _ [5, 6, 7, 8, 9, 10, 11, 12, 13, 31, 32, 33, 34, 35] (by decide +kernel) (by decide +kernel)
set_option maxRecDepth 20000 in
theorem gX2_wouldChangeBy_X2_rankOf : GoodIn wsX2_wouldChangeBy (wsV RX2 43 RX2 yX2_rankOf wsX2_rankOf) := goodIn_app (goodIn_of _ (by decide +kernel)) ggX2_wouldChangeBy_X2_rankOf
set_option maxRecDepth 20000 in
theorem ggX2_wouldChangeBy_X2_bucketOf : GoodIn wsX2_wouldChangeBy wsX2_bucketOf := goodIn_r _ [17, 18, 19, 20, 4, 21, 6, 31, 32, 33, 34, 35] (by decide +kernel) (by decide +kernel)
set_option maxRecDepth 20000 in
theorem gX2_wouldChangeBy_X2_bucketOf : GoodIn wsX2_wouldChangeBy (wsV RX2 46 RX2 yX2_bucketOf wsX2_bucketOf) := goodIn_app (goodIn_of _ (by decide +kernel)) ggX2_wouldChangeBy_X2_bucketOf
set_option maxRecDepth 20000 in
theorem ggX2_wouldChangeBy_X2_rankIn : GoodIn wsX2_wouldChangeBy wsX2_rankIn := goodIn_r _ [25, 26, 27, 28, 29, 4, 30, 6, 31, 32, 33, 34, 35] (by decide +kernel) (by decide +kernel)
set_option maxRecDepth 20000 in
theorem gX2_wouldChangeBy_X2_rankIn : GoodIn wsX2_wouldChangeBy (wsV RX2 49 RX2 yX2_rankIn wsX2_rankIn) := goodIn_app (goodIn_of _ (by decide +kernel)) ggX2_wouldChangeBy_X2_rankIn
theorem dX2_wouldChangeBy_0 : decode cX2_wouldChangeBy 0 = .ok (.aload_n 0, 1) := by decide +kernel
theorem dX2_wouldChangeBy_1 : decode cX2_wouldChangeBy 1 = .ok (.iload_n 1, 1) := by decide +kernel
theorem dX2_wouldChangeBy_2 : decode cX2_wouldChangeBy 2 = .ok (.invokevirtual 43, 3) := by decide +kernel
theorem dX2_wouldChangeBy_5 : decode cX2_wouldChangeBy 5 = .ok (.aload_n 0, 1) := by decide +kernel
theorem dX2_wouldChangeBy_6 : decode cX2_wouldChangeBy 6 = .ok (.aload_n 0, 1) := by decide +kernel
theorem dX2_wouldChangeBy_7 : decode cX2_wouldChangeBy 7 = .ok (.iload_n 1, 1) := by decide +kernel
theorem dX2_wouldChangeBy_8 : decode cX2_wouldChangeBy 8 = .ok (.invokevirtual 46, 3) := by decide +kernel
theorem dX2_wouldChangeBy_11 : decode cX2_wouldChangeBy 11 = .ok (.invokevirtual 49, 3) := by decide +kernel
theorem dX2_wouldChangeBy_14 : decode cX2_wouldChangeBy 14 = .ok (.if_icmp .le 7, 3) := by decide +kernel
theorem dX2_wouldChangeBy_17 : decode cX2_wouldChangeBy 17 = .ok (.iconst 1, 1) := by decide +kernel
theorem dX2_wouldChangeBy_18 : decode cX2_wouldChangeBy 18 = .ok (.goto 4, 3) := by decide +kernel
theorem dX2_wouldChangeBy_21 : decode cX2_wouldChangeBy 21 = .ok (.iconst 0, 1) := by decide +kernel
theorem dX2_wouldChangeBy_22 : decode cX2_wouldChangeBy 22 = .ok (.ireturn, 1) := by decide +kernel
set_option maxRecDepth 20000 in
theorem ggX2_takeHash_X2_bucketOf : GoodIn wsX2_takeHash wsX2_bucketOf := goodIn_r _ [5, 6, 7, 8, 4, 9, 10, 31, 32, 33, 34, 35] (by decide +kernel) (by decide +kernel)
set_option maxRecDepth 20000 in
theorem gX2_takeHash_X2_bucketOf : GoodIn wsX2_takeHash (wsV RX2 46 RX2 yX2_bucketOf wsX2_bucketOf) := goodIn_app (goodIn_of _ (by decide +kernel)) ggX2_takeHash_X2_bucketOf
set_option maxRecDepth 20000 in
theorem ggX2_takeHash_X2_rankOf : GoodIn wsX2_takeHash wsX2_rankOf := goodIn_r _ [14, 10, 15, 16, 17, 18, 19, 20, 21, 31, 32, 33, 34, 35] (by decide +kernel) (by decide +kernel)
set_option maxRecDepth 20000 in
theorem gX2_takeHash_X2_rankOf : GoodIn wsX2_takeHash (wsV RX2 43 RX2 yX2_rankOf wsX2_rankOf) := goodIn_app (goodIn_of _ (by decide +kernel)) ggX2_takeHash_X2_rankOf
set_option maxRecDepth 20000 in
theorem ggX2_takeHash_X2_raise : GoodIn wsX2_takeHash wsX2_raise := goodIn_r _ [25, 26, 27, 28, 29, 4, 30, 10, 31, 32, 33, 34, 35] (by decide +kernel) (by decide +kernel)
set_option maxRecDepth 20000 in
theorem gX2_takeHash_X2_raise : GoodIn wsX2_takeHash (wsV RX2 52 RX2 yX2_raise wsX2_raise) := goodIn_app (goodIn_of _ (by decide +kernel)) ggX2_takeHash_X2_raise
theorem dX2_takeHash_0 : decode cX2_takeHash 0 = .ok (.aload_n 0, 1) := by decide +kernel
theorem dX2_takeHash_1 : decode cX2_takeHash 1 = .ok (.aload_n 0, 1) := by decide +kernel
theorem dX2_takeHash_2 : decode cX2_takeHash 2 = .ok (.iload_n 1, 1) := by decide +kernel
theorem dX2_takeHash_3 : decode cX2_takeHash 3 = .ok (.invokevirtual 46, 3) := by decide +kernel
theorem dX2_takeHash_6 : decode cX2_takeHash 6 = .ok (.aload_n 0, 1) := by decide +kernel
theorem dX2_takeHash_7 : decode cX2_takeHash 7 = .ok (.iload_n 1, 1) := by decide +kernel
theorem dX2_takeHash_8 : decode cX2_takeHash 8 = .ok (.invokevirtual 43, 3) := by decide +kernel
theorem dX2_takeHash_11 : decode cX2_takeHash 11 = .ok (.invokevirtual 52, 3) := by decide +kernel
theorem dX2_takeHash_14 : decode cX2_takeHash 14 = .ok (.ireturn, 1) := by decide +kernel
set_option maxRecDepth 20000 in
theorem ggX2_raise_X2_hasBucket : GoodIn wsX2_raise wsX2_hasBucket := goodIn_r _ [6, 7, 1, 8, 9, 10, 11, 12] (by decide +kernel) (by decide +kernel)
set_option maxRecDepth 20000 in
theorem gX2_raise_X2_hasBucket : GoodIn wsX2_raise (wsV RX2 29 RX2 yX2_hasBucket wsX2_hasBucket) := goodIn_app (goodIn_of _ (by decide +kernel)) ggX2_raise_X2_hasBucket
theorem dX2_raise_0 : decode cX2_raise 0 = .ok (.aload_n 0, 1) := by decide +kernel
theorem dX2_raise_1 : decode cX2_raise 1 = .ok (.iload_n 1, 1) := by decide +kernel
theorem dX2_raise_2 : decode cX2_raise 2 = .ok (.invokevirtual 29, 3) := by decide +kernel
theorem dX2_raise_5 : decode cX2_raise 5 = .ok (.ifCond .eq 13, 3) := by decide +kernel
theorem dX2_raise_8 : decode cX2_raise 8 = .ok (.iload_n 2, 1) := by decide +kernel
theorem dX2_raise_9 : decode cX2_raise 9 = .ok (.aload_n 0, 1) := by decide +kernel
theorem dX2_raise_10 : decode cX2_raise 10 = .ok (.getfield 15, 3) := by decide +kernel
theorem dX2_raise_13 : decode cX2_raise 13 = .ok (.iload_n 1, 1) := by decide +kernel
theorem dX2_raise_14 : decode cX2_raise 14 = .ok (.iaload, 1) := by decide +kernel
theorem dX2_raise_15 : decode cX2_raise 15 = .ok (.if_icmp .gt 5, 3) := by decide +kernel
theorem dX2_raise_18 : decode cX2_raise 18 = .ok (.iconst 0, 1) := by decide +kernel
theorem dX2_raise_19 : decode cX2_raise 19 = .ok (.ireturn, 1) := by decide +kernel
theorem dX2_raise_20 : decode cX2_raise 20 = .ok (.aload_n 0, 1) := by decide +kernel
theorem dX2_raise_21 : decode cX2_raise 21 = .ok (.getfield 15, 3) := by decide +kernel
theorem dX2_raise_24 : decode cX2_raise 24 = .ok (.iload_n 1, 1) := by decide +kernel
theorem dX2_raise_25 : decode cX2_raise 25 = .ok (.iload_n 2, 1) := by decide +kernel
theorem dX2_raise_26 : decode cX2_raise 26 = .ok (.iastore, 1) := by decide +kernel
theorem dX2_raise_27 : decode cX2_raise 27 = .ok (.iconst 1, 1) := by decide +kernel
theorem dX2_raise_28 : decode cX2_raise 28 = .ok (.ireturn, 1) := by decide +kernel
set_option maxRecDepth 20000 in
theorem ggX2_list_X2_isListed : GoodIn wsX2_list wsX2_isListed := goodIn_r _ [8, 2, 3, 13, 14, 15, 16, 17] (by decide +kernel) (by decide +kernel)
set_option maxRecDepth 20000 in
theorem gX2_list_X2_isListed : GoodIn wsX2_list (wsV RX2 56 RX2 yX2_isListed wsX2_isListed) := goodIn_app (goodIn_of _ (by decide +kernel)) ggX2_list_X2_isListed
set_option maxRecDepth 20000 in
theorem ggX2_list_X2_fillList : GoodIn wsX2_list wsX2_fillList := goodIn_r _ [12, 1, 2, 13, 14, 15, 16, 17] (by decide +kernel) (by decide +kernel)
set_option maxRecDepth 20000 in
theorem gX2_list_X2_fillList : GoodIn wsX2_list (wsV RX2 59 RX2 yX2_fillList wsX2_fillList) := goodIn_app (goodIn_of _ (by decide +kernel)) ggX2_list_X2_fillList
theorem dX2_list_0 : decode cX2_list 0 = .ok (.aload_n 0, 1) := by decide +kernel
theorem dX2_list_1 : decode cX2_list 1 = .ok (.getfield 25, 3) := by decide +kernel
theorem dX2_list_4 : decode cX2_list 4 = .ok (.ifCond .ne 11, 3) := by decide +kernel
theorem dX2_list_7 : decode cX2_list 7 = .ok (.aload_n 0, 1) := by decide +kernel
theorem dX2_list_8 : decode cX2_list 8 = .ok (.iload_n 1, 1) := by decide +kernel
theorem dX2_list_9 : decode cX2_list 9 = .ok (.invokevirtual 56, 3) := by decide +kernel
theorem dX2_list_12 : decode cX2_list 12 = .ok (.ifCond .eq 4, 3) := by decide +kernel
theorem dX2_list_15 : decode cX2_list 15 = .ok (.return_, 1) := by decide +kernel
theorem dX2_list_16 : decode cX2_list 16 = .ok (.aload_n 0, 1) := by decide +kernel
theorem dX2_list_17 : decode cX2_list 17 = .ok (.getfield 22, 3) := by decide +kernel
theorem dX2_list_20 : decode cX2_list 20 = .ok (.aload_n 0, 1) := by decide +kernel
theorem dX2_list_21 : decode cX2_list 21 = .ok (.getfield 19, 3) := by decide +kernel
theorem dX2_list_24 : decode cX2_list 24 = .ok (.arraylength, 1) := by decide +kernel
theorem dX2_list_25 : decode cX2_list 25 = .ok (.if_icmp .lt 8, 3) := by decide +kernel
theorem dX2_list_28 : decode cX2_list 28 = .ok (.aload_n 0, 1) := by decide +kernel
theorem dX2_list_29 : decode cX2_list 29 = .ok (.invokevirtual 59, 3) := by decide +kernel
theorem dX2_list_32 : decode cX2_list 32 = .ok (.return_, 1) := by decide +kernel
theorem dX2_list_33 : decode cX2_list 33 = .ok (.aload_n 0, 1) := by decide +kernel
theorem dX2_list_34 : decode cX2_list 34 = .ok (.getfield 19, 3) := by decide +kernel
theorem dX2_list_37 : decode cX2_list 37 = .ok (.aload_n 0, 1) := by decide +kernel
theorem dX2_list_38 : decode cX2_list 38 = .ok (.getfield 22, 3) := by decide +kernel
theorem dX2_list_41 : decode cX2_list 41 = .ok (.iload_n 1, 1) := by decide +kernel
theorem dX2_list_42 : decode cX2_list 42 = .ok (.iastore, 1) := by decide +kernel
theorem dX2_list_43 : decode cX2_list 43 = .ok (.aload_n 0, 1) := by decide +kernel
theorem dX2_list_44 : decode cX2_list 44 = .ok (.dup, 1) := by decide +kernel
theorem dX2_list_45 : decode cX2_list 45 = .ok (.getfield 22, 3) := by decide +kernel
theorem dX2_list_48 : decode cX2_list 48 = .ok (.iconst 1, 1) := by decide +kernel
theorem dX2_list_49 : decode cX2_list 49 = .ok (.iadd, 1) := by decide +kernel
theorem dX2_list_50 : decode cX2_list 50 = .ok (.putfield 22, 3) := by decide +kernel
theorem dX2_list_53 : decode cX2_list 53 = .ok (.return_, 1) := by decide +kernel
theorem dX2_fillList_0 : decode cX2_fillList 0 = .ok (.aload_n 0, 1) := by decide +kernel
theorem dX2_fillList_1 : decode cX2_fillList 1 = .ok (.iconst 1, 1) := by decide +kernel
theorem dX2_fillList_2 : decode cX2_fillList 2 = .ok (.putfield 25, 3) := by decide +kernel
theorem dX2_fillList_5 : decode cX2_fillList 5 = .ok (.aload_n 0, 1) := by decide +kernel
theorem dX2_fillList_6 : decode cX2_fillList 6 = .ok (.iconst 0, 1) := by decide +kernel
theorem dX2_fillList_7 : decode cX2_fillList 7 = .ok (.putfield 22, 3) := by decide +kernel
theorem dX2_fillList_10 : decode cX2_fillList 10 = .ok (.return_, 1) := by decide +kernel
theorem dX2_isListed_0 : decode cX2_isListed 0 = .ok (.iconst 0, 1) := by decide +kernel
theorem dX2_isListed_1 : decode cX2_isListed 1 = .ok (.istore_n 2, 1) := by decide +kernel
theorem dX2_isListed_2 : decode cX2_isListed 2 = .ok (.iload_n 2, 1) := by decide +kernel
theorem dX2_isListed_3 : decode cX2_isListed 3 = .ok (.aload_n 0, 1) := by decide +kernel
theorem dX2_isListed_4 : decode cX2_isListed 4 = .ok (.getfield 22, 3) := by decide +kernel
theorem dX2_isListed_7 : decode cX2_isListed 7 = .ok (.if_icmp .ge 30, 3) := by decide +kernel
theorem dX2_isListed_10 : decode cX2_isListed 10 = .ok (.iload_n 2, 1) := by decide +kernel
theorem dX2_isListed_11 : decode cX2_isListed 11 = .ok (.aload_n 0, 1) := by decide +kernel
theorem dX2_isListed_12 : decode cX2_isListed 12 = .ok (.getfield 19, 3) := by decide +kernel
theorem dX2_isListed_15 : decode cX2_isListed 15 = .ok (.arraylength, 1) := by decide +kernel
theorem dX2_isListed_16 : decode cX2_isListed 16 = .ok (.if_icmp .ge 21, 3) := by decide +kernel
theorem dX2_isListed_19 : decode cX2_isListed 19 = .ok (.aload_n 0, 1) := by decide +kernel
theorem dX2_isListed_20 : decode cX2_isListed 20 = .ok (.getfield 19, 3) := by decide +kernel
theorem dX2_isListed_23 : decode cX2_isListed 23 = .ok (.iload_n 2, 1) := by decide +kernel
theorem dX2_isListed_24 : decode cX2_isListed 24 = .ok (.iaload, 1) := by decide +kernel
theorem dX2_isListed_25 : decode cX2_isListed 25 = .ok (.iload_n 1, 1) := by decide +kernel
theorem dX2_isListed_26 : decode cX2_isListed 26 = .ok (.if_icmp .ne 5, 3) := by decide +kernel
theorem dX2_isListed_29 : decode cX2_isListed 29 = .ok (.iconst 1, 1) := by decide +kernel
theorem dX2_isListed_30 : decode cX2_isListed 30 = .ok (.ireturn, 1) := by decide +kernel
theorem dX2_isListed_31 : decode cX2_isListed 31 = .ok (.iinc 2 1, 3) := by decide +kernel
theorem dX2_isListed_34 : decode cX2_isListed 34 = .ok (.goto (-32), 3) := by decide +kernel
theorem dX2_isListed_37 : decode cX2_isListed 37 = .ok (.iconst 0, 1) := by decide +kernel
theorem dX2_isListed_38 : decode cX2_isListed 38 = .ok (.ireturn, 1) := by decide +kernel
theorem dX2_hasPlace_0 : decode cX2_hasPlace 0 = .ok (.iload_n 1, 1) := by decide +kernel
theorem dX2_hasPlace_1 : decode cX2_hasPlace 1 = .ok (.ifCond .lt 24, 3) := by decide +kernel
theorem dX2_hasPlace_4 : decode cX2_hasPlace 4 = .ok (.iload_n 1, 1) := by decide +kernel
theorem dX2_hasPlace_5 : decode cX2_hasPlace 5 = .ok (.aload_n 0, 1) := by decide +kernel
theorem dX2_hasPlace_6 : decode cX2_hasPlace 6 = .ok (.getfield 22, 3) := by decide +kernel
theorem dX2_hasPlace_9 : decode cX2_hasPlace 9 = .ok (.if_icmp .ge 16, 3) := by decide +kernel
theorem dX2_hasPlace_12 : decode cX2_hasPlace 12 = .ok (.iload_n 1, 1) := by decide +kernel
theorem dX2_hasPlace_13 : decode cX2_hasPlace 13 = .ok (.aload_n 0, 1) := by decide +kernel
theorem dX2_hasPlace_14 : decode cX2_hasPlace 14 = .ok (.getfield 19, 3) := by decide +kernel
theorem dX2_hasPlace_17 : decode cX2_hasPlace 17 = .ok (.arraylength, 1) := by decide +kernel
theorem dX2_hasPlace_18 : decode cX2_hasPlace 18 = .ok (.if_icmp .ge 7, 3) := by decide +kernel
theorem dX2_hasPlace_21 : decode cX2_hasPlace 21 = .ok (.iconst 1, 1) := by decide +kernel
theorem dX2_hasPlace_22 : decode cX2_hasPlace 22 = .ok (.goto 4, 3) := by decide +kernel
theorem dX2_hasPlace_25 : decode cX2_hasPlace 25 = .ok (.iconst 0, 1) := by decide +kernel
theorem dX2_hasPlace_26 : decode cX2_hasPlace 26 = .ok (.ireturn, 1) := by decide +kernel
set_option maxRecDepth 20000 in
theorem ggX2_thingAt_X2_hasPlace : GoodIn wsX2_thingAt wsX2_hasPlace := goodIn_r _ [6, 7, 1, 8, 9, 10, 11, 12] (by decide +kernel) (by decide +kernel)
set_option maxRecDepth 20000 in
theorem gX2_thingAt_X2_hasPlace : GoodIn wsX2_thingAt (wsV RX2 62 RX2 yX2_hasPlace wsX2_hasPlace) := goodIn_app (goodIn_of _ (by decide +kernel)) ggX2_thingAt_X2_hasPlace
theorem dX2_thingAt_0 : decode cX2_thingAt 0 = .ok (.aload_n 0, 1) := by decide +kernel
theorem dX2_thingAt_1 : decode cX2_thingAt 1 = .ok (.iload_n 1, 1) := by decide +kernel
theorem dX2_thingAt_2 : decode cX2_thingAt 2 = .ok (.invokevirtual 62, 3) := by decide +kernel
theorem dX2_thingAt_5 : decode cX2_thingAt 5 = .ok (.ifCond .eq 12, 3) := by decide +kernel
theorem dX2_thingAt_8 : decode cX2_thingAt 8 = .ok (.aload_n 0, 1) := by decide +kernel
theorem dX2_thingAt_9 : decode cX2_thingAt 9 = .ok (.getfield 19, 3) := by decide +kernel
theorem dX2_thingAt_12 : decode cX2_thingAt 12 = .ok (.iload_n 1, 1) := by decide +kernel
theorem dX2_thingAt_13 : decode cX2_thingAt 13 = .ok (.iaload, 1) := by decide +kernel
theorem dX2_thingAt_14 : decode cX2_thingAt 14 = .ok (.goto 5, 3) := by decide +kernel
theorem dX2_thingAt_17 : decode cX2_thingAt 17 = .ok (.bipush (-6), 2) := by decide +kernel
theorem dX2_thingAt_19 : decode cX2_thingAt 19 = .ok (.ireturn, 1) := by decide +kernel
set_option maxRecDepth 20000 in
theorem ggX2_takeAll_X2_buckets : GoodIn wsX2_takeAll wsX2_buckets := goodIn_r _ [7, 8, 43, 44, 45, 46, 47] (by decide +kernel) (by decide +kernel)
set_option maxRecDepth 20000 in
theorem gX2_takeAll_X2_buckets : GoodIn wsX2_takeAll (wsV RX2 33 RX2 yX2_buckets wsX2_buckets) := goodIn_app (goodIn_of _ (by decide +kernel)) ggX2_takeAll_X2_buckets
set_option maxRecDepth 20000 in
theorem ggX2_takeAll_X2_rankIn : GoodIn wsX2_takeAll wsX2_rankIn := goodIn_r _ [12, 13, 14, 15, 16, 6, 17, 8, 43, 44, 45, 46, 47] (by decide +kernel) (by decide +kernel)
set_option maxRecDepth 20000 in
theorem gX2_takeAll_X2_rankIn : GoodIn wsX2_takeAll (wsV RX2 49 RX2 yX2_rankIn wsX2_rankIn) := goodIn_app (goodIn_of _ (by decide +kernel)) ggX2_takeAll_X2_rankIn
set_option maxRecDepth 20000 in
theorem ggX2_takeAll_X2_raise : GoodIn wsX2_takeAll wsX2_raise := goodIn_r _ [21, 13, 14, 15, 16, 6, 17, 8, 43, 44, 45, 46, 47] (by decide +kernel) (by decide +kernel)
set_option maxRecDepth 20000 in
theorem gX2_takeAll_X2_raise : GoodIn wsX2_takeAll (wsV RX2 52 RX2 yX2_raise wsX2_raise) := goodIn_app (goodIn_of _ (by decide +kernel)) ggX2_takeAll_X2_raise
set_option maxRecDepth 20000 in
theorem ggX2_takeAll_X2_fillList : GoodIn wsX2_takeAll wsX2_fillList := goodIn_r _ [25, 1, 2, 43, 44, 45, 46, 47] (by decide +kernel) (by decide +kernel)
set_option maxRecDepth 20000 in
theorem gX2_takeAll_X2_fillList : GoodIn wsX2_takeAll (wsV RX2 59 RX2 yX2_fillList wsX2_fillList) := goodIn_app (goodIn_of _ (by decide +kernel)) ggX2_takeAll_X2_fillList
set_option maxRecDepth 20000 in
theorem ggX2_takeAll_X2_thingAt : GoodIn wsX2_takeAll wsX2_thingAt := goodIn_r _ [29, 30, 31, 32, 33, 6, 34, 2, 43, 44, 45, 46, 47] (by decide +kernel) (by decide +kernel)
set_option maxRecDepth 20000 in
theorem gX2_takeAll_X2_thingAt : GoodIn wsX2_takeAll (wsV RX2 65 RX2 yX2_thingAt wsX2_thingAt) := goodIn_app (goodIn_of _ (by decide +kernel)) ggX2_takeAll_X2_thingAt
set_option maxRecDepth 20000 in
theorem ggX2_takeAll_X2_list : GoodIn wsX2_takeAll wsX2_list := goodIn_r _ [38, 1, 2, 30, 39, 40, 41, 6, 42, 22, 23, 24, 25, 43, 44, 45, 46, 47] (by decide +kernel) (by decide +kernel)
set_option maxRecDepth 20000 in
theorem gX2_takeAll_X2_list : GoodIn wsX2_takeAll (wsV RX2 68 RX2 yX2_list wsX2_list) := goodIn_app (goodIn_of _ (by decide +kernel)) ggX2_takeAll_X2_list
theorem dX2_takeAll_0 : decode cX2_takeAll 0 = .ok (.iconst 0, 1) := by decide +kernel
theorem dX2_takeAll_1 : decode cX2_takeAll 1 = .ok (.istore_n 2, 1) := by decide +kernel
theorem dX2_takeAll_2 : decode cX2_takeAll 2 = .ok (.iload_n 2, 1) := by decide +kernel
theorem dX2_takeAll_3 : decode cX2_takeAll 3 = .ok (.aload_n 0, 1) := by decide +kernel
theorem dX2_takeAll_4 : decode cX2_takeAll 4 = .ok (.invokevirtual 33, 3) := by decide +kernel
theorem dX2_takeAll_7 : decode cX2_takeAll 7 = .ok (.if_icmp .ge 20, 3) := by decide +kernel
theorem dX2_takeAll_10 : decode cX2_takeAll 10 = .ok (.aload_n 0, 1) := by decide +kernel
theorem dX2_takeAll_11 : decode cX2_takeAll 11 = .ok (.iload_n 2, 1) := by decide +kernel
theorem dX2_takeAll_12 : decode cX2_takeAll 12 = .ok (.aload_n 1, 1) := by decide +kernel
theorem dX2_takeAll_13 : decode cX2_takeAll 13 = .ok (.iload_n 2, 1) := by decide +kernel
theorem dX2_takeAll_14 : decode cX2_takeAll 14 = .ok (.invokevirtual 49, 3) := by decide +kernel
theorem dX2_takeAll_17 : decode cX2_takeAll 17 = .ok (.invokevirtual 52, 3) := by decide +kernel
theorem dX2_takeAll_20 : decode cX2_takeAll 20 = .ok (.pop, 1) := by decide +kernel
theorem dX2_takeAll_21 : decode cX2_takeAll 21 = .ok (.iinc 2 1, 3) := by decide +kernel
theorem dX2_takeAll_24 : decode cX2_takeAll 24 = .ok (.goto (-22), 3) := by decide +kernel
theorem dX2_takeAll_27 : decode cX2_takeAll 27 = .ok (.aload_n 1, 1) := by decide +kernel
theorem dX2_takeAll_28 : decode cX2_takeAll 28 = .ok (.getfield 25, 3) := by decide +kernel
theorem dX2_takeAll_31 : decode cX2_takeAll 31 = .ok (.ifCond .eq 7, 3) := by decide +kernel
theorem dX2_takeAll_34 : decode cX2_takeAll 34 = .ok (.aload_n 0, 1) := by decide +kernel
theorem dX2_takeAll_35 : decode cX2_takeAll 35 = .ok (.invokevirtual 59, 3) := by decide +kernel
theorem dX2_takeAll_38 : decode cX2_takeAll 38 = .ok (.iconst 0, 1) := by decide +kernel
theorem dX2_takeAll_39 : decode cX2_takeAll 39 = .ok (.istore_n 2, 1) := by decide +kernel
theorem dX2_takeAll_40 : decode cX2_takeAll 40 = .ok (.iload_n 2, 1) := by decide +kernel
theorem dX2_takeAll_41 : decode cX2_takeAll 41 = .ok (.aload_n 1, 1) := by decide +kernel
theorem dX2_takeAll_42 : decode cX2_takeAll 42 = .ok (.getfield 22, 3) := by decide +kernel
theorem dX2_takeAll_45 : decode cX2_takeAll 45 = .ok (.if_icmp .ge 18, 3) := by decide +kernel
theorem dX2_takeAll_48 : decode cX2_takeAll 48 = .ok (.aload_n 0, 1) := by decide +kernel
theorem dX2_takeAll_49 : decode cX2_takeAll 49 = .ok (.aload_n 1, 1) := by decide +kernel
theorem dX2_takeAll_50 : decode cX2_takeAll 50 = .ok (.iload_n 2, 1) := by decide +kernel
theorem dX2_takeAll_51 : decode cX2_takeAll 51 = .ok (.invokevirtual 65, 3) := by decide +kernel
theorem dX2_takeAll_54 : decode cX2_takeAll 54 = .ok (.invokevirtual 68, 3) := by decide +kernel
theorem dX2_takeAll_57 : decode cX2_takeAll 57 = .ok (.iinc 2 1, 3) := by decide +kernel
theorem dX2_takeAll_60 : decode cX2_takeAll 60 = .ok (.goto (-20), 3) := by decide +kernel
theorem dX2_takeAll_63 : decode cX2_takeAll 63 = .ok (.return_, 1) := by decide +kernel
set_option maxRecDepth 20000 in
theorem ggX2_halve_X2_buckets : GoodIn wsX2_halve wsX2_buckets := goodIn_r _ [11, 6, 20, 21, 22, 23, 24] (by decide +kernel) (by decide +kernel)
set_option maxRecDepth 20000 in
theorem gX2_halve_X2_buckets : GoodIn wsX2_halve (wsV RX2 33 RX2 yX2_buckets wsX2_buckets) := goodIn_app (goodIn_of _ (by decide +kernel)) ggX2_halve_X2_buckets
set_option maxRecDepth 20000 in
theorem ggX2_halve_X2_rankIn : GoodIn wsX2_halve wsX2_rankIn := goodIn_r _ [15, 1, 16, 17, 18, 10, 19, 6, 20, 21, 22, 23, 24] (by decide +kernel) (by decide +kernel)
set_option maxRecDepth 20000 in
theorem gX2_halve_X2_rankIn : GoodIn wsX2_halve (wsV RX2 49 RX2 yX2_rankIn wsX2_rankIn) := goodIn_app (goodIn_of _ (by decide +kernel)) ggX2_halve_X2_rankIn
theorem dX2_halve_0 : decode cX2_halve 0 = .ok (.aload_n 0, 1) := by decide +kernel
theorem dX2_halve_1 : decode cX2_halve 1 = .ok (.invokevirtual 33, 3) := by decide +kernel
theorem dX2_halve_4 : decode cX2_halve 4 = .ok (.iconst 2, 1) := by decide +kernel
theorem dX2_halve_5 : decode cX2_halve 5 = .ok (.idiv, 1) := by decide +kernel
theorem dX2_halve_6 : decode cX2_halve 6 = .ok (.istore_n 1, 1) := by decide +kernel
theorem dX2_halve_7 : decode cX2_halve 7 = .ok (.iconst 0, 1) := by decide +kernel
theorem dX2_halve_8 : decode cX2_halve 8 = .ok (.istore_n 2, 1) := by decide +kernel
theorem dX2_halve_9 : decode cX2_halve 9 = .ok (.iload_n 2, 1) := by decide +kernel
theorem dX2_halve_10 : decode cX2_halve 10 = .ok (.iload_n 1, 1) := by decide +kernel
theorem dX2_halve_11 : decode cX2_halve 11 = .ok (.if_icmp .ge 67, 3) := by decide +kernel
theorem dX2_halve_14 : decode cX2_halve 14 = .ok (.iload_n 2, 1) := by decide +kernel
theorem dX2_halve_15 : decode cX2_halve 15 = .ok (.aload_n 0, 1) := by decide +kernel
theorem dX2_halve_16 : decode cX2_halve 16 = .ok (.getfield 15, 3) := by decide +kernel
theorem dX2_halve_19 : decode cX2_halve 19 = .ok (.arraylength, 1) := by decide +kernel
theorem dX2_halve_20 : decode cX2_halve 20 = .ok (.if_icmp .ge 58, 3) := by decide +kernel
theorem dX2_halve_23 : decode cX2_halve 23 = .ok (.aload_n 0, 1) := by decide +kernel
theorem dX2_halve_24 : decode cX2_halve 24 = .ok (.iload_n 2, 1) := by decide +kernel
theorem dX2_halve_25 : decode cX2_halve 25 = .ok (.invokevirtual 49, 3) := by decide +kernel
theorem dX2_halve_28 : decode cX2_halve 28 = .ok (.ifCond .ne 7, 3) := by decide +kernel
theorem dX2_halve_31 : decode cX2_halve 31 = .ok (.iconst 0, 1) := by decide +kernel
theorem dX2_halve_32 : decode cX2_halve 32 = .ok (.goto 10, 3) := by decide +kernel
theorem dX2_halve_35 : decode cX2_halve 35 = .ok (.aload_n 0, 1) := by decide +kernel
theorem dX2_halve_36 : decode cX2_halve 36 = .ok (.iload_n 2, 1) := by decide +kernel
theorem dX2_halve_37 : decode cX2_halve 37 = .ok (.invokevirtual 49, 3) := by decide +kernel
theorem dX2_halve_40 : decode cX2_halve 40 = .ok (.iconst 1, 1) := by decide +kernel
theorem dX2_halve_41 : decode cX2_halve 41 = .ok (.iadd, 1) := by decide +kernel
theorem dX2_halve_42 : decode cX2_halve 42 = .ok (.istore_n 3, 1) := by decide +kernel
theorem dX2_halve_43 : decode cX2_halve 43 = .ok (.aload_n 0, 1) := by decide +kernel
theorem dX2_halve_44 : decode cX2_halve 44 = .ok (.iload_n 2, 1) := by decide +kernel
theorem dX2_halve_45 : decode cX2_halve 45 = .ok (.iload_n 1, 1) := by decide +kernel
theorem dX2_halve_46 : decode cX2_halve 46 = .ok (.iadd, 1) := by decide +kernel
theorem dX2_halve_47 : decode cX2_halve 47 = .ok (.invokevirtual 49, 3) := by decide +kernel
theorem dX2_halve_50 : decode cX2_halve 50 = .ok (.ifCond .ne 7, 3) := by decide +kernel
theorem dX2_halve_53 : decode cX2_halve 53 = .ok (.iconst 0, 1) := by decide +kernel
theorem dX2_halve_54 : decode cX2_halve 54 = .ok (.goto 4, 3) := by decide +kernel
theorem dX2_halve_57 : decode cX2_halve 57 = .ok (.iconst 1, 1) := by decide +kernel
theorem dX2_halve_58 : decode cX2_halve 58 = .ok (.istore 4, 2) := by decide +kernel
theorem dX2_halve_60 : decode cX2_halve 60 = .ok (.aload_n 0, 1) := by decide +kernel
theorem dX2_halve_61 : decode cX2_halve 61 = .ok (.getfield 15, 3) := by decide +kernel
theorem dX2_halve_64 : decode cX2_halve 64 = .ok (.iload_n 2, 1) := by decide +kernel
theorem dX2_halve_65 : decode cX2_halve 65 = .ok (.iload_n 3, 1) := by decide +kernel
theorem dX2_halve_66 : decode cX2_halve 66 = .ok (.iload 4, 2) := by decide +kernel
theorem dX2_halve_68 : decode cX2_halve 68 = .ok (.invokestatic 72, 3) := by decide +kernel
theorem dX2_halve_71 : decode cX2_halve 71 = .ok (.iastore, 1) := by decide +kernel
theorem dX2_halve_72 : decode cX2_halve 72 = .ok (.iinc 2 1, 3) := by decide +kernel
theorem dX2_halve_75 : decode cX2_halve 75 = .ok (.goto (-66), 3) := by decide +kernel
theorem dX2_halve_78 : decode cX2_halve 78 = .ok (.iload_n 1, 1) := by decide +kernel
theorem dX2_halve_79 : decode cX2_halve 79 = .ok (.istore_n 2, 1) := by decide +kernel
theorem dX2_halve_80 : decode cX2_halve 80 = .ok (.iload_n 2, 1) := by decide +kernel
theorem dX2_halve_81 : decode cX2_halve 81 = .ok (.aload_n 0, 1) := by decide +kernel
theorem dX2_halve_82 : decode cX2_halve 82 = .ok (.getfield 15, 3) := by decide +kernel
theorem dX2_halve_85 : decode cX2_halve 85 = .ok (.arraylength, 1) := by decide +kernel
theorem dX2_halve_86 : decode cX2_halve 86 = .ok (.if_icmp .ge 16, 3) := by decide +kernel
theorem dX2_halve_89 : decode cX2_halve 89 = .ok (.aload_n 0, 1) := by decide +kernel
theorem dX2_halve_90 : decode cX2_halve 90 = .ok (.getfield 15, 3) := by decide +kernel
theorem dX2_halve_93 : decode cX2_halve 93 = .ok (.iload_n 2, 1) := by decide +kernel
theorem dX2_halve_94 : decode cX2_halve 94 = .ok (.iconst 0, 1) := by decide +kernel
theorem dX2_halve_95 : decode cX2_halve 95 = .ok (.iastore, 1) := by decide +kernel
theorem dX2_halve_96 : decode cX2_halve 96 = .ok (.iinc 2 1, 3) := by decide +kernel
theorem dX2_halve_99 : decode cX2_halve 99 = .ok (.goto (-19), 3) := by decide +kernel
theorem dX2_halve_102 : decode cX2_halve 102 = .ok (.aload_n 0, 1) := by decide +kernel
theorem dX2_halve_103 : decode cX2_halve 103 = .ok (.dup, 1) := by decide +kernel
theorem dX2_halve_104 : decode cX2_halve 104 = .ok (.getfield 9, 3) := by decide +kernel
theorem dX2_halve_107 : decode cX2_halve 107 = .ok (.iconst 1, 1) := by decide +kernel
theorem dX2_halve_108 : decode cX2_halve 108 = .ok (.isub, 1) := by decide +kernel
theorem dX2_halve_109 : decode cX2_halve 109 = .ok (.putfield 9, 3) := by decide +kernel
theorem dX2_halve_112 : decode cX2_halve 112 = .ok (.return_, 1) := by decide +kernel
set_option maxRecDepth 20000 in
theorem ggX2_startAgain_J7_fill_53178 : GoodIn wsX2_startAgain wsJ7_fill_53178 := goodIn_r _ [8] (by decide +kernel) (by decide +kernel)
set_option maxRecDepth 20000 in
theorem gX2_startAgain_J7_fill_53178 : GoodIn wsX2_startAgain (va_wsS RX2 78 yJ7_fill_53178 wsJ7_fill_53178) := goodIn_app (goodIn_of _ (by decide +kernel)) ggX2_startAgain_J7_fill_53178
theorem dX2_startAgain_0 : decode cX2_startAgain 0 = .ok (.aload_n 0, 1) := by decide +kernel
theorem dX2_startAgain_1 : decode cX2_startAgain 1 = .ok (.iload_n 1, 1) := by decide +kernel
theorem dX2_startAgain_2 : decode cX2_startAgain 2 = .ok (.putfield 9, 3) := by decide +kernel
theorem dX2_startAgain_5 : decode cX2_startAgain 5 = .ok (.aload_n 0, 1) := by decide +kernel
theorem dX2_startAgain_6 : decode cX2_startAgain 6 = .ok (.getfield 15, 3) := by decide +kernel
theorem dX2_startAgain_9 : decode cX2_startAgain 9 = .ok (.iconst 0, 1) := by decide +kernel
theorem dX2_startAgain_10 : decode cX2_startAgain 10 = .ok (.invokestatic 78, 3) := by decide +kernel
theorem dX2_startAgain_13 : decode cX2_startAgain 13 = .ok (.aload_n 0, 1) := by decide +kernel
theorem dX2_startAgain_14 : decode cX2_startAgain 14 = .ok (.iconst 0, 1) := by decide +kernel
theorem dX2_startAgain_15 : decode cX2_startAgain 15 = .ok (.putfield 22, 3) := by decide +kernel
theorem dX2_startAgain_18 : decode cX2_startAgain 18 = .ok (.aload_n 0, 1) := by decide +kernel
theorem dX2_startAgain_19 : decode cX2_startAgain 19 = .ok (.iconst 0, 1) := by decide +kernel
theorem dX2_startAgain_20 : decode cX2_startAgain 20 = .ok (.putfield 25, 3) := by decide +kernel
theorem dX2_startAgain_23 : decode cX2_startAgain 23 = .ok (.return_, 1) := by decide +kernel
theorem dX2_copyFrom_0 : decode cX2_copyFrom 0 = .ok (.aload_n 0, 1) := by decide +kernel
theorem dX2_copyFrom_1 : decode cX2_copyFrom 1 = .ok (.aload_n 1, 1) := by decide +kernel
theorem dX2_copyFrom_2 : decode cX2_copyFrom 2 = .ok (.getfield 9, 3) := by decide +kernel
theorem dX2_copyFrom_5 : decode cX2_copyFrom 5 = .ok (.putfield 9, 3) := by decide +kernel
theorem dX2_copyFrom_8 : decode cX2_copyFrom 8 = .ok (.aload_n 1, 1) := by decide +kernel
theorem dX2_copyFrom_9 : decode cX2_copyFrom 9 = .ok (.getfield 15, 3) := by decide +kernel
theorem dX2_copyFrom_12 : decode cX2_copyFrom 12 = .ok (.iconst 0, 1) := by decide +kernel
theorem dX2_copyFrom_13 : decode cX2_copyFrom 13 = .ok (.aload_n 0, 1) := by decide +kernel
theorem dX2_copyFrom_14 : decode cX2_copyFrom 14 = .ok (.getfield 15, 3) := by decide +kernel
theorem dX2_copyFrom_17 : decode cX2_copyFrom 17 = .ok (.iconst 0, 1) := by decide +kernel
theorem dX2_copyFrom_18 : decode cX2_copyFrom 18 = .ok (.aload_n 0, 1) := by decide +kernel
theorem dX2_copyFrom_19 : decode cX2_copyFrom 19 = .ok (.getfield 15, 3) := by decide +kernel
theorem dX2_copyFrom_22 : decode cX2_copyFrom 22 = .ok (.arraylength, 1) := by decide +kernel
theorem dX2_copyFrom_23 : decode cX2_copyFrom 23 = .ok (.invokestatic 84, 3) := by decide +kernel
theorem dX2_copyFrom_26 : decode cX2_copyFrom 26 = .ok (.aload_n 1, 1) := by decide +kernel
theorem dX2_copyFrom_27 : decode cX2_copyFrom 27 = .ok (.getfield 19, 3) := by decide +kernel
theorem dX2_copyFrom_30 : decode cX2_copyFrom 30 = .ok (.iconst 0, 1) := by decide +kernel
theorem dX2_copyFrom_31 : decode cX2_copyFrom 31 = .ok (.aload_n 0, 1) := by decide +kernel
theorem dX2_copyFrom_32 : decode cX2_copyFrom 32 = .ok (.getfield 19, 3) := by decide +kernel
theorem dX2_copyFrom_35 : decode cX2_copyFrom 35 = .ok (.iconst 0, 1) := by decide +kernel
theorem dX2_copyFrom_36 : decode cX2_copyFrom 36 = .ok (.aload_n 0, 1) := by decide +kernel
theorem dX2_copyFrom_37 : decode cX2_copyFrom 37 = .ok (.getfield 19, 3) := by decide +kernel
theorem dX2_copyFrom_40 : decode cX2_copyFrom 40 = .ok (.arraylength, 1) := by decide +kernel
theorem dX2_copyFrom_41 : decode cX2_copyFrom 41 = .ok (.invokestatic 84, 3) := by decide +kernel
theorem dX2_copyFrom_44 : decode cX2_copyFrom 44 = .ok (.aload_n 0, 1) := by decide +kernel
theorem dX2_copyFrom_45 : decode cX2_copyFrom 45 = .ok (.aload_n 1, 1) := by decide +kernel
theorem dX2_copyFrom_46 : decode cX2_copyFrom 46 = .ok (.getfield 22, 3) := by decide +kernel
theorem dX2_copyFrom_49 : decode cX2_copyFrom 49 = .ok (.putfield 22, 3) := by decide +kernel
theorem dX2_copyFrom_52 : decode cX2_copyFrom 52 = .ok (.aload_n 0, 1) := by decide +kernel
theorem dX2_copyFrom_53 : decode cX2_copyFrom 53 = .ok (.aload_n 1, 1) := by decide +kernel
theorem dX2_copyFrom_54 : decode cX2_copyFrom 54 = .ok (.getfield 25, 3) := by decide +kernel
theorem dX2_copyFrom_57 : decode cX2_copyFrom 57 = .ok (.putfield 25, 3) := by decide +kernel
theorem dX2_copyFrom_60 : decode cX2_copyFrom 60 = .ok (.return_, 1) := by decide +kernel
set_option maxRecDepth 20000 in
theorem ggX2_emptyBuckets_X2_buckets : GoodIn wsX2_emptyBuckets wsX2_buckets := goodIn_r _ [5, 6, 20, 21, 22, 23, 24] (by decide +kernel) (by decide +kernel)
set_option maxRecDepth 20000 in
theorem gX2_emptyBuckets_X2_buckets : GoodIn wsX2_emptyBuckets (wsV RX2 33 RX2 yX2_buckets wsX2_buckets) := goodIn_app (goodIn_of _ (by decide +kernel)) ggX2_emptyBuckets_X2_buckets
set_option maxRecDepth 20000 in
theorem ggX2_emptyBuckets_X2_filledBuckets : GoodIn wsX2_emptyBuckets wsX2_filledBuckets := goodIn_r _ [10, 1, 2, 3, 4, 5, 6, 11, 12, 13, 14, 15, 16, 17, 18, 19, 20, 21, 22, 23, 24] (by decide +kernel) (by decide +kernel)
set_option maxRecDepth 20000 in
theorem gX2_emptyBuckets_X2_filledBuckets : GoodIn wsX2_emptyBuckets (wsV RX2 90 RX2 yX2_filledBuckets wsX2_filledBuckets) := goodIn_app (goodIn_of _ (by decide +kernel)) ggX2_emptyBuckets_X2_filledBuckets
theorem dX2_emptyBuckets_0 : decode cX2_emptyBuckets 0 = .ok (.aload_n 0, 1) := by decide +kernel
theorem dX2_emptyBuckets_1 : decode cX2_emptyBuckets 1 = .ok (.invokevirtual 33, 3) := by decide +kernel
theorem dX2_emptyBuckets_4 : decode cX2_emptyBuckets 4 = .ok (.aload_n 0, 1) := by decide +kernel
theorem dX2_emptyBuckets_5 : decode cX2_emptyBuckets 5 = .ok (.invokevirtual 90, 3) := by decide +kernel
theorem dX2_emptyBuckets_8 : decode cX2_emptyBuckets 8 = .ok (.isub, 1) := by decide +kernel
theorem dX2_emptyBuckets_9 : decode cX2_emptyBuckets 9 = .ok (.ireturn, 1) := by decide +kernel
set_option maxRecDepth 20000 in
theorem ggX2_filledBuckets_X2_buckets : GoodIn wsX2_filledBuckets wsX2_buckets := goodIn_r _ [5, 6, 16, 17, 18, 19, 20] (by decide +kernel) (by decide +kernel)
set_option maxRecDepth 20000 in
theorem gX2_filledBuckets_X2_buckets : GoodIn wsX2_filledBuckets (wsV RX2 33 RX2 yX2_buckets wsX2_buckets) := goodIn_app (goodIn_of _ (by decide +kernel)) ggX2_filledBuckets_X2_buckets
set_option maxRecDepth 20000 in
theorem ggX2_filledBuckets_X2_rankIn : GoodIn wsX2_filledBuckets wsX2_rankIn := goodIn_r _ [10, 11, 12, 13, 14, 4, 15, 6, 16, 17, 18, 19, 20] (by decide +kernel) (by decide +kernel)
set_option maxRecDepth 20000 in
theorem gX2_filledBuckets_X2_rankIn : GoodIn wsX2_filledBuckets (wsV RX2 49 RX2 yX2_rankIn wsX2_rankIn) := goodIn_app (goodIn_of _ (by decide +kernel)) ggX2_filledBuckets_X2_rankIn
theorem dX2_filledBuckets_0 : decode cX2_filledBuckets 0 = .ok (.iconst 0, 1) := by decide +kernel
theorem dX2_filledBuckets_1 : decode cX2_filledBuckets 1 = .ok (.istore_n 1, 1) := by decide +kernel
theorem dX2_filledBuckets_2 : decode cX2_filledBuckets 2 = .ok (.iconst 0, 1) := by decide +kernel
theorem dX2_filledBuckets_3 : decode cX2_filledBuckets 3 = .ok (.istore_n 2, 1) := by decide +kernel
theorem dX2_filledBuckets_4 : decode cX2_filledBuckets 4 = .ok (.iload_n 2, 1) := by decide +kernel
theorem dX2_filledBuckets_5 : decode cX2_filledBuckets 5 = .ok (.aload_n 0, 1) := by decide +kernel
theorem dX2_filledBuckets_6 : decode cX2_filledBuckets 6 = .ok (.invokevirtual 33, 3) := by decide +kernel
theorem dX2_filledBuckets_9 : decode cX2_filledBuckets 9 = .ok (.if_icmp .ge 20, 3) := by decide +kernel
theorem dX2_filledBuckets_12 : decode cX2_filledBuckets 12 = .ok (.aload_n 0, 1) := by decide +kernel
theorem dX2_filledBuckets_13 : decode cX2_filledBuckets 13 = .ok (.iload_n 2, 1) := by decide +kernel
theorem dX2_filledBuckets_14 : decode cX2_filledBuckets 14 = .ok (.invokevirtual 49, 3) := by decide +kernel
theorem dX2_filledBuckets_17 : decode cX2_filledBuckets 17 = .ok (.ifCond .le 6, 3) := by decide +kernel
theorem dX2_filledBuckets_20 : decode cX2_filledBuckets 20 = .ok (.iinc 1 1, 3) := by decide +kernel
theorem dX2_filledBuckets_23 : decode cX2_filledBuckets 23 = .ok (.iinc 2 1, 3) := by decide +kernel
theorem dX2_filledBuckets_26 : decode cX2_filledBuckets 26 = .ok (.goto (-22), 3) := by decide +kernel
theorem dX2_filledBuckets_29 : decode cX2_filledBuckets 29 = .ok (.iload_n 1, 1) := by decide +kernel
theorem dX2_filledBuckets_30 : decode cX2_filledBuckets 30 = .ok (.ireturn, 1) := by decide +kernel
set_option maxRecDepth 20000 in
theorem ggX2_greatestRank_X2_buckets : GoodIn wsX2_greatestRank wsX2_buckets := goodIn_r _ [9, 10, 20, 21, 22, 23, 24] (by decide +kernel) (by decide +kernel)
set_option maxRecDepth 20000 in
theorem gX2_greatestRank_X2_buckets : GoodIn wsX2_greatestRank (wsV RX2 33 RX2 yX2_buckets wsX2_buckets) := goodIn_app (goodIn_of _ (by decide +kernel)) ggX2_greatestRank_X2_buckets
set_option maxRecDepth 20000 in
theorem ggX2_greatestRank_X2_rankIn : GoodIn wsX2_greatestRank wsX2_rankIn := goodIn_r _ [14, 15, 16, 17, 18, 8, 19, 10, 20, 21, 22, 23, 24] (by decide +kernel) (by decide +kernel)
set_option maxRecDepth 20000 in
theorem gX2_greatestRank_X2_rankIn : GoodIn wsX2_greatestRank (wsV RX2 49 RX2 yX2_rankIn wsX2_rankIn) := goodIn_app (goodIn_of _ (by decide +kernel)) ggX2_greatestRank_X2_rankIn
theorem dX2_greatestRank_0 : decode cX2_greatestRank 0 = .ok (.iconst 0, 1) := by decide +kernel
theorem dX2_greatestRank_1 : decode cX2_greatestRank 1 = .ok (.istore_n 1, 1) := by decide +kernel
theorem dX2_greatestRank_2 : decode cX2_greatestRank 2 = .ok (.iconst 0, 1) := by decide +kernel
theorem dX2_greatestRank_3 : decode cX2_greatestRank 3 = .ok (.istore_n 2, 1) := by decide +kernel
theorem dX2_greatestRank_4 : decode cX2_greatestRank 4 = .ok (.iload_n 2, 1) := by decide +kernel
theorem dX2_greatestRank_5 : decode cX2_greatestRank 5 = .ok (.aload_n 0, 1) := by decide +kernel
theorem dX2_greatestRank_6 : decode cX2_greatestRank 6 = .ok (.invokevirtual 33, 3) := by decide +kernel
theorem dX2_greatestRank_9 : decode cX2_greatestRank 9 = .ok (.if_icmp .ge 19, 3) := by decide +kernel
theorem dX2_greatestRank_12 : decode cX2_greatestRank 12 = .ok (.iload_n 1, 1) := by decide +kernel
theorem dX2_greatestRank_13 : decode cX2_greatestRank 13 = .ok (.aload_n 0, 1) := by decide +kernel
theorem dX2_greatestRank_14 : decode cX2_greatestRank 14 = .ok (.iload_n 2, 1) := by decide +kernel
theorem dX2_greatestRank_15 : decode cX2_greatestRank 15 = .ok (.invokevirtual 49, 3) := by decide +kernel
theorem dX2_greatestRank_18 : decode cX2_greatestRank 18 = .ok (.invokestatic 72, 3) := by decide +kernel
theorem dX2_greatestRank_21 : decode cX2_greatestRank 21 = .ok (.istore_n 1, 1) := by decide +kernel
theorem dX2_greatestRank_22 : decode cX2_greatestRank 22 = .ok (.iinc 2 1, 3) := by decide +kernel
theorem dX2_greatestRank_25 : decode cX2_greatestRank 25 = .ok (.goto (-21), 3) := by decide +kernel
theorem dX2_greatestRank_28 : decode cX2_greatestRank 28 = .ok (.iload_n 1, 1) := by decide +kernel
theorem dX2_greatestRank_29 : decode cX2_greatestRank 29 = .ok (.ireturn, 1) := by decide +kernel
set_option maxRecDepth 20000 in
theorem ggX2_rankSum_X2_buckets : GoodIn wsX2_rankSum wsX2_buckets := goodIn_r _ [6, 7, 17, 18, 19, 20, 21] (by decide +kernel) (by decide +kernel)
set_option maxRecDepth 20000 in
theorem gX2_rankSum_X2_buckets : GoodIn wsX2_rankSum (wsV RX2 33 RX2 yX2_buckets wsX2_buckets) := goodIn_app (goodIn_of _ (by decide +kernel)) ggX2_rankSum_X2_buckets
set_option maxRecDepth 20000 in
theorem ggX2_rankSum_X2_rankIn : GoodIn wsX2_rankSum wsX2_rankIn := goodIn_r _ [11, 12, 13, 14, 15, 5, 16, 7, 17, 18, 19, 20, 21] (by decide +kernel) (by decide +kernel)
set_option maxRecDepth 20000 in
theorem gX2_rankSum_X2_rankIn : GoodIn wsX2_rankSum (wsV RX2 49 RX2 yX2_rankIn wsX2_rankIn) := goodIn_app (goodIn_of _ (by decide +kernel)) ggX2_rankSum_X2_rankIn
theorem dX2_rankSum_0 : decode cX2_rankSum 0 = .ok (.iconst 0, 1) := by decide +kernel
theorem dX2_rankSum_1 : decode cX2_rankSum 1 = .ok (.istore_n 1, 1) := by decide +kernel
theorem dX2_rankSum_2 : decode cX2_rankSum 2 = .ok (.iconst 0, 1) := by decide +kernel
theorem dX2_rankSum_3 : decode cX2_rankSum 3 = .ok (.istore_n 2, 1) := by decide +kernel
theorem dX2_rankSum_4 : decode cX2_rankSum 4 = .ok (.iload_n 2, 1) := by decide +kernel
theorem dX2_rankSum_5 : decode cX2_rankSum 5 = .ok (.aload_n 0, 1) := by decide +kernel
theorem dX2_rankSum_6 : decode cX2_rankSum 6 = .ok (.invokevirtual 33, 3) := by decide +kernel
theorem dX2_rankSum_9 : decode cX2_rankSum 9 = .ok (.if_icmp .ge 20, 3) := by decide +kernel
theorem dX2_rankSum_12 : decode cX2_rankSum 12 = .ok (.iload_n 1, 1) := by decide +kernel
theorem dX2_rankSum_13 : decode cX2_rankSum 13 = .ok (.ldc 93, 2) := by decide +kernel
theorem dX2_rankSum_15 : decode cX2_rankSum 15 = .ok (.aload_n 0, 1) := by decide +kernel
theorem dX2_rankSum_16 : decode cX2_rankSum 16 = .ok (.iload_n 2, 1) := by decide +kernel
theorem dX2_rankSum_17 : decode cX2_rankSum 17 = .ok (.invokevirtual 49, 3) := by decide +kernel
theorem dX2_rankSum_20 : decode cX2_rankSum 20 = .ok (.ishr, 1) := by decide +kernel
theorem dX2_rankSum_21 : decode cX2_rankSum 21 = .ok (.iadd, 1) := by decide +kernel
theorem dX2_rankSum_22 : decode cX2_rankSum 22 = .ok (.istore_n 1, 1) := by decide +kernel
theorem dX2_rankSum_23 : decode cX2_rankSum 23 = .ok (.iinc 2 1, 3) := by decide +kernel
theorem dX2_rankSum_26 : decode cX2_rankSum 26 = .ok (.goto (-22), 3) := by decide +kernel
theorem dX2_rankSum_29 : decode cX2_rankSum 29 = .ok (.iload_n 1, 1) := by decide +kernel
theorem dX2_rankSum_30 : decode cX2_rankSum 30 = .ok (.ireturn, 1) := by decide +kernel
set_option maxRecDepth 20000 in
theorem ggX2_rawEstimate_X2_rankSum : GoodIn wsX2_rawEstimate wsX2_rankSum := goodIn_r _ [8, 9, 10, 11, 12, 7, 13, 14, 15, 16, 17, 18, 19, 20, 21, 22, 23, 24, 25, 26, 27, 28] (by decide +kernel) (by decide +kernel)
set_option maxRecDepth 20000 in
theorem gX2_rawEstimate_X2_rankSum : GoodIn wsX2_rawEstimate (wsV RX2 96 RX2 yX2_rankSum wsX2_rankSum) := goodIn_app (goodIn_of _ (by decide +kernel)) ggX2_rawEstimate_X2_rankSum
set_option maxRecDepth 20000 in
theorem ggX2_rawEstimate_X2_buckets : GoodIn wsX2_rawEstimate wsX2_buckets := goodIn_r _ [13, 14, 24, 25, 26, 27, 28] (by decide +kernel) (by decide +kernel)
set_option maxRecDepth 20000 in
theorem gX2_rawEstimate_X2_buckets : GoodIn wsX2_rawEstimate (wsV RX2 33 RX2 yX2_buckets wsX2_buckets) := goodIn_app (goodIn_of _ (by decide +kernel)) ggX2_rawEstimate_X2_buckets
theorem dX2_rawEstimate_0 : decode cX2_rawEstimate 0 = .ok (.ldc2_w 94, 3) := by decide +kernel
theorem dX2_rawEstimate_3 : decode cX2_rawEstimate 3 = .ok (.aload_n 0, 1) := by decide +kernel
theorem dX2_rawEstimate_4 : decode cX2_rawEstimate 4 = .ok (.invokevirtual 96, 3) := by decide +kernel
theorem dX2_rawEstimate_7 : decode cX2_rawEstimate 7 = .ok (.i2l, 1) := by decide +kernel
theorem dX2_rawEstimate_8 : decode cX2_rawEstimate 8 = .ok (.lmul, 1) := by decide +kernel
theorem dX2_rawEstimate_9 : decode cX2_rawEstimate 9 = .ok (.lstore_n 1, 1) := by decide +kernel
theorem dX2_rawEstimate_10 : decode cX2_rawEstimate 10 = .ok (.lload_n 1, 1) := by decide +kernel
theorem dX2_rawEstimate_11 : decode cX2_rawEstimate 11 = .ok (.lconst 0, 1) := by decide +kernel
theorem dX2_rawEstimate_12 : decode cX2_rawEstimate 12 = .ok (.lcmp, 1) := by decide +kernel
theorem dX2_rawEstimate_13 : decode cX2_rawEstimate 13 = .ok (.ifCond .gt 5, 3) := by decide +kernel
theorem dX2_rawEstimate_16 : decode cX2_rawEstimate 16 = .ok (.iconst 0, 1) := by decide +kernel
theorem dX2_rawEstimate_17 : decode cX2_rawEstimate 17 = .ok (.ireturn, 1) := by decide +kernel
theorem dX2_rawEstimate_18 : decode cX2_rawEstimate 18 = .ok (.aload_n 0, 1) := by decide +kernel
theorem dX2_rawEstimate_19 : decode cX2_rawEstimate 19 = .ok (.invokevirtual 33, 3) := by decide +kernel
theorem dX2_rawEstimate_22 : decode cX2_rawEstimate 22 = .ok (.i2l, 1) := by decide +kernel
theorem dX2_rawEstimate_23 : decode cX2_rawEstimate 23 = .ok (.lstore_n 3, 1) := by decide +kernel
theorem dX2_rawEstimate_24 : decode cX2_rawEstimate 24 = .ok (.lload_n 3, 1) := by decide +kernel
theorem dX2_rawEstimate_25 : decode cX2_rawEstimate 25 = .ok (.lload_n 3, 1) := by decide +kernel
theorem dX2_rawEstimate_26 : decode cX2_rawEstimate 26 = .ok (.lmul, 1) := by decide +kernel
theorem dX2_rawEstimate_27 : decode cX2_rawEstimate 27 = .ok (.ldc2_w 99, 3) := by decide +kernel
theorem dX2_rawEstimate_30 : decode cX2_rawEstimate 30 = .ok (.lmul, 1) := by decide +kernel
theorem dX2_rawEstimate_31 : decode cX2_rawEstimate 31 = .ok (.ldc2_w 101, 3) := by decide +kernel
theorem dX2_rawEstimate_34 : decode cX2_rawEstimate 34 = .ok (.lmul, 1) := by decide +kernel
theorem dX2_rawEstimate_35 : decode cX2_rawEstimate 35 = .ok (.lload_n 1, 1) := by decide +kernel
theorem dX2_rawEstimate_36 : decode cX2_rawEstimate 36 = .ok (.ldiv, 1) := by decide +kernel
theorem dX2_rawEstimate_37 : decode cX2_rawEstimate 37 = .ok (.l2i, 1) := by decide +kernel
theorem dX2_rawEstimate_38 : decode cX2_rawEstimate 38 = .ok (.ireturn, 1) := by decide +kernel
set_option maxRecDepth 20000 in
theorem ggX2_estimate_X2_rawEstimate : GoodIn wsX2_estimate wsX2_rawEstimate := goodIn_r _ [5, 6, 7, 8, 9, 10, 11, 4, 12, 13, 14, 15, 16, 17, 18, 19, 20, 21, 22, 23, 24, 25, 26, 27, 44, 45, 46, 47, 48] (by decide +kernel) (by decide +kernel)
set_option maxRecDepth 20000 in
theorem gX2_estimate_X2_rawEstimate : GoodIn wsX2_estimate (wsV RX2 103 RX2 yX2_rawEstimate wsX2_rawEstimate) := goodIn_app (goodIn_of _ (by decide +kernel)) ggX2_estimate_X2_rawEstimate
set_option maxRecDepth 20000 in
theorem ggX2_estimate_X2_emptyBuckets : GoodIn wsX2_estimate wsX2_emptyBuckets := goodIn_r _ [31, 14, 15, 16, 4, 17, 18, 32, 33, 34, 35, 19, 20, 21, 22, 23, 24, 25, 26, 27, 44, 45, 46, 47, 48] (by decide +kernel) (by decide +kernel)
set_option maxRecDepth 20000 in
theorem gX2_estimate_X2_emptyBuckets : GoodIn wsX2_estimate (wsV RX2 106 RX2 yX2_emptyBuckets wsX2_emptyBuckets) := goodIn_app (goodIn_of _ (by decide +kernel)) ggX2_estimate_X2_emptyBuckets
set_option maxRecDepth 20000 in
theorem ggX2_estimate_X2_buckets : GoodIn wsX2_estimate wsX2_buckets := goodIn_r _ [17, 18, 44, 45, 46, 47, 48] (by decide +kernel) (by decide +kernel)
set_option maxRecDepth 20000 in
theorem gX2_estimate_X2_buckets : GoodIn wsX2_estimate (wsV RX2 33 RX2 yX2_buckets wsX2_buckets) := goodIn_app (goodIn_of _ (by decide +kernel)) ggX2_estimate_X2_buckets
set_option maxRecDepth 20000 in
theorem ggX2_estimate_X2_estimateByEmpty : GoodIn wsX2_estimate wsX2_estimateByEmpty := goodIn_r _ [39, 40, 41, 42, 43, 14, 15, 16, 4, 17, 18, 44, 45, 46, 47, 48] (by decide +kernel) (by decide +kernel)
set_option maxRecDepth 20000 in
theorem gX2_estimate_X2_estimateByEmpty : GoodIn wsX2_estimate (wsV RX2 109 RX2 yX2_estimateByEmpty wsX2_estimateByEmpty) := goodIn_app (goodIn_of _ (by decide +kernel)) ggX2_estimate_X2_estimateByEmpty
theorem dX2_estimate_0 : decode cX2_estimate 0 = .ok (.aload_n 0, 1) := by decide +kernel
theorem dX2_estimate_1 : decode cX2_estimate 1 = .ok (.invokevirtual 103, 3) := by decide +kernel
theorem dX2_estimate_4 : decode cX2_estimate 4 = .ok (.istore_n 1, 1) := by decide +kernel
theorem dX2_estimate_5 : decode cX2_estimate 5 = .ok (.aload_n 0, 1) := by decide +kernel
theorem dX2_estimate_6 : decode cX2_estimate 6 = .ok (.invokevirtual 106, 3) := by decide +kernel
theorem dX2_estimate_9 : decode cX2_estimate 9 = .ok (.istore_n 2, 1) := by decide +kernel
theorem dX2_estimate_10 : decode cX2_estimate 10 = .ok (.iload_n 2, 1) := by decide +kernel
theorem dX2_estimate_11 : decode cX2_estimate 11 = .ok (.ifCond .le 21, 3) := by decide +kernel
theorem dX2_estimate_14 : decode cX2_estimate 14 = .ok (.iload_n 1, 1) := by decide +kernel
theorem dX2_estimate_15 : decode cX2_estimate 15 = .ok (.iconst 5, 1) := by decide +kernel
theorem dX2_estimate_16 : decode cX2_estimate 16 = .ok (.aload_n 0, 1) := by decide +kernel
theorem dX2_estimate_17 : decode cX2_estimate 17 = .ok (.invokevirtual 33, 3) := by decide +kernel
theorem dX2_estimate_20 : decode cX2_estimate 20 = .ok (.imul, 1) := by decide +kernel
theorem dX2_estimate_21 : decode cX2_estimate 21 = .ok (.iconst 2, 1) := by decide +kernel
theorem dX2_estimate_22 : decode cX2_estimate 22 = .ok (.idiv, 1) := by decide +kernel
theorem dX2_estimate_23 : decode cX2_estimate 23 = .ok (.if_icmp .gt 9, 3) := by decide +kernel
theorem dX2_estimate_26 : decode cX2_estimate 26 = .ok (.aload_n 0, 1) := by decide +kernel
theorem dX2_estimate_27 : decode cX2_estimate 27 = .ok (.iload_n 2, 1) := by decide +kernel
theorem dX2_estimate_28 : decode cX2_estimate 28 = .ok (.invokevirtual 109, 3) := by decide +kernel
theorem dX2_estimate_31 : decode cX2_estimate 31 = .ok (.ireturn, 1) := by decide +kernel
theorem dX2_estimate_32 : decode cX2_estimate 32 = .ok (.iload_n 1, 1) := by decide +kernel
theorem dX2_estimate_33 : decode cX2_estimate 33 = .ok (.ireturn, 1) := by decide +kernel
set_option maxRecDepth 20000 in
theorem ggX2_estimateByEmpty_X2_buckets : GoodIn wsX2_estimateByEmpty wsX2_buckets := goodIn_r _ [9, 10, 11, 12, 13, 14, 15] (by decide +kernel) (by decide +kernel)
set_option maxRecDepth 20000 in
theorem gX2_estimateByEmpty_X2_buckets : GoodIn wsX2_estimateByEmpty (wsV RX2 33 RX2 yX2_buckets wsX2_buckets) := goodIn_app (goodIn_of _ (by decide +kernel)) ggX2_estimateByEmpty_X2_buckets
theorem dX2_estimateByEmpty_0 : decode cX2_estimateByEmpty 0 = .ok (.iconst 0, 1) := by decide +kernel
theorem dX2_estimateByEmpty_1 : decode cX2_estimateByEmpty 1 = .ok (.istore_n 2, 1) := by decide +kernel
theorem dX2_estimateByEmpty_2 : decode cX2_estimateByEmpty 2 = .ok (.iload_n 1, 1) := by decide +kernel
theorem dX2_estimateByEmpty_3 : decode cX2_estimateByEmpty 3 = .ok (.iconst 0, 1) := by decide +kernel
theorem dX2_estimateByEmpty_4 : decode cX2_estimateByEmpty 4 = .ok (.invokestatic 72, 3) := by decide +kernel
theorem dX2_estimateByEmpty_7 : decode cX2_estimateByEmpty 7 = .ok (.iconst 1, 1) := by decide +kernel
theorem dX2_estimateByEmpty_8 : decode cX2_estimateByEmpty 8 = .ok (.iadd, 1) := by decide +kernel
theorem dX2_estimateByEmpty_9 : decode cX2_estimateByEmpty 9 = .ok (.istore_n 3, 1) := by decide +kernel
theorem dX2_estimateByEmpty_10 : decode cX2_estimateByEmpty 10 = .ok (.iload_n 3, 1) := by decide +kernel
theorem dX2_estimateByEmpty_11 : decode cX2_estimateByEmpty 11 = .ok (.aload_n 0, 1) := by decide +kernel
theorem dX2_estimateByEmpty_12 : decode cX2_estimateByEmpty 12 = .ok (.invokevirtual 33, 3) := by decide +kernel
theorem dX2_estimateByEmpty_15 : decode cX2_estimateByEmpty 15 = .ok (.if_icmp .gt 18, 3) := by decide +kernel
theorem dX2_estimateByEmpty_18 : decode cX2_estimateByEmpty 18 = .ok (.iload_n 2, 1) := by decide +kernel
theorem dX2_estimateByEmpty_19 : decode cX2_estimateByEmpty 19 = .ok (.aload_n 0, 1) := by decide +kernel
theorem dX2_estimateByEmpty_20 : decode cX2_estimateByEmpty 20 = .ok (.invokevirtual 33, 3) := by decide +kernel
theorem dX2_estimateByEmpty_23 : decode cX2_estimateByEmpty 23 = .ok (.iload_n 3, 1) := by decide +kernel
theorem dX2_estimateByEmpty_24 : decode cX2_estimateByEmpty 24 = .ok (.idiv, 1) := by decide +kernel
theorem dX2_estimateByEmpty_25 : decode cX2_estimateByEmpty 25 = .ok (.iadd, 1) := by decide +kernel
theorem dX2_estimateByEmpty_26 : decode cX2_estimateByEmpty 26 = .ok (.istore_n 2, 1) := by decide +kernel
theorem dX2_estimateByEmpty_27 : decode cX2_estimateByEmpty 27 = .ok (.iinc 3 1, 3) := by decide +kernel
theorem dX2_estimateByEmpty_30 : decode cX2_estimateByEmpty 30 = .ok (.goto (-20), 3) := by decide +kernel
theorem dX2_estimateByEmpty_33 : decode cX2_estimateByEmpty 33 = .ok (.iload_n 2, 1) := by decide +kernel
theorem dX2_estimateByEmpty_34 : decode cX2_estimateByEmpty 34 = .ok (.ireturn, 1) := by decide +kernel
set_option maxRecDepth 20000 in
theorem ggX2_toldError_X2_rootOfBuckets : GoodIn wsX2_toldError wsX2_rootOfBuckets := goodIn_r _ [7, 8, 9, 10, 6, 11, 12, 54, 55, 56, 57, 58] (by decide +kernel) (by decide +kernel)
set_option maxRecDepth 20000 in
theorem gX2_toldError_X2_rootOfBuckets : GoodIn wsX2_toldError (wsV RX2 114 RX2 yX2_rootOfBuckets wsX2_rootOfBuckets) := goodIn_app (goodIn_of _ (by decide +kernel)) ggX2_toldError_X2_rootOfBuckets
set_option maxRecDepth 20000 in
theorem ggX2_toldError_X2_estimate : GoodIn wsX2_toldError wsX2_estimate := goodIn_r _ [16, 17, 18, 19, 6, 20, 21, 22, 23, 24, 25, 26, 27, 28, 8, 9, 10, 11, 12, 29, 30, 31, 32, 33, 34, 35, 36, 37, 38, 39, 40, 41, 42, 43, 44, 45, 46, 47, 48, 49, 50, 51, 52, 53, 54, 55, 56, 57, 58] (by decide +kernel) (by decide +kernel)
set_option maxRecDepth 20000 in
theorem gX2_toldError_X2_estimate : GoodIn wsX2_toldError (wsV RX2 117 RX2 yX2_estimate wsX2_estimate) := goodIn_app (goodIn_of _ (by decide +kernel)) ggX2_toldError_X2_estimate
theorem dX2_toldError_0 : decode cX2_toldError 0 = .ok (.ldc2_w 112, 3) := by decide +kernel
theorem dX2_toldError_3 : decode cX2_toldError 3 = .ok (.aload_n 0, 1) := by decide +kernel
theorem dX2_toldError_4 : decode cX2_toldError 4 = .ok (.invokevirtual 114, 3) := by decide +kernel
theorem dX2_toldError_7 : decode cX2_toldError 7 = .ok (.i2l, 1) := by decide +kernel
theorem dX2_toldError_8 : decode cX2_toldError 8 = .ok (.lmul, 1) := by decide +kernel
theorem dX2_toldError_9 : decode cX2_toldError 9 = .ok (.lstore_n 1, 1) := by decide +kernel
theorem dX2_toldError_10 : decode cX2_toldError 10 = .ok (.lload_n 1, 1) := by decide +kernel
theorem dX2_toldError_11 : decode cX2_toldError 11 = .ok (.lconst 0, 1) := by decide +kernel
theorem dX2_toldError_12 : decode cX2_toldError 12 = .ok (.lcmp, 1) := by decide +kernel
theorem dX2_toldError_13 : decode cX2_toldError 13 = .ok (.ifCond .gt 5, 3) := by decide +kernel
theorem dX2_toldError_16 : decode cX2_toldError 16 = .ok (.iconst 0, 1) := by decide +kernel
theorem dX2_toldError_17 : decode cX2_toldError 17 = .ok (.ireturn, 1) := by decide +kernel
theorem dX2_toldError_18 : decode cX2_toldError 18 = .ok (.aload_n 0, 1) := by decide +kernel
theorem dX2_toldError_19 : decode cX2_toldError 19 = .ok (.invokevirtual 117, 3) := by decide +kernel
theorem dX2_toldError_22 : decode cX2_toldError 22 = .ok (.i2l, 1) := by decide +kernel
theorem dX2_toldError_23 : decode cX2_toldError 23 = .ok (.ldc2_w 120, 3) := by decide +kernel
theorem dX2_toldError_26 : decode cX2_toldError 26 = .ok (.lmul, 1) := by decide +kernel
theorem dX2_toldError_27 : decode cX2_toldError 27 = .ok (.lload_n 1, 1) := by decide +kernel
theorem dX2_toldError_28 : decode cX2_toldError 28 = .ok (.ldiv, 1) := by decide +kernel
theorem dX2_toldError_29 : decode cX2_toldError 29 = .ok (.l2i, 1) := by decide +kernel
theorem dX2_toldError_30 : decode cX2_toldError 30 = .ok (.ireturn, 1) := by decide +kernel
set_option maxRecDepth 20000 in
theorem ggX2_rootOfBuckets_X2_buckets : GoodIn wsX2_rootOfBuckets wsX2_buckets := goodIn_r _ [5, 6, 7, 8, 9, 10, 11] (by decide +kernel) (by decide +kernel)
set_option maxRecDepth 20000 in
theorem gX2_rootOfBuckets_X2_buckets : GoodIn wsX2_rootOfBuckets (wsV RX2 33 RX2 yX2_buckets wsX2_buckets) := goodIn_app (goodIn_of _ (by decide +kernel)) ggX2_rootOfBuckets_X2_buckets
theorem dX2_rootOfBuckets_0 : decode cX2_rootOfBuckets 0 = .ok (.iconst 0, 1) := by decide +kernel
theorem dX2_rootOfBuckets_1 : decode cX2_rootOfBuckets 1 = .ok (.istore_n 1, 1) := by decide +kernel
theorem dX2_rootOfBuckets_2 : decode cX2_rootOfBuckets 2 = .ok (.iconst 1, 1) := by decide +kernel
theorem dX2_rootOfBuckets_3 : decode cX2_rootOfBuckets 3 = .ok (.istore_n 2, 1) := by decide +kernel
theorem dX2_rootOfBuckets_4 : decode cX2_rootOfBuckets 4 = .ok (.iload_n 2, 1) := by decide +kernel
theorem dX2_rootOfBuckets_5 : decode cX2_rootOfBuckets 5 = .ok (.iload_n 2, 1) := by decide +kernel
theorem dX2_rootOfBuckets_6 : decode cX2_rootOfBuckets 6 = .ok (.imul, 1) := by decide +kernel
theorem dX2_rootOfBuckets_7 : decode cX2_rootOfBuckets 7 = .ok (.aload_n 0, 1) := by decide +kernel
theorem dX2_rootOfBuckets_8 : decode cX2_rootOfBuckets 8 = .ok (.invokevirtual 33, 3) := by decide +kernel
theorem dX2_rootOfBuckets_11 : decode cX2_rootOfBuckets 11 = .ok (.if_icmp .gt 17, 3) := by decide +kernel
theorem dX2_rootOfBuckets_14 : decode cX2_rootOfBuckets 14 = .ok (.iload_n 2, 1) := by decide +kernel
theorem dX2_rootOfBuckets_15 : decode cX2_rootOfBuckets 15 = .ok (.bipush 64, 2) := by decide +kernel
theorem dX2_rootOfBuckets_17 : decode cX2_rootOfBuckets 17 = .ok (.if_icmp .gt 11, 3) := by decide +kernel
theorem dX2_rootOfBuckets_20 : decode cX2_rootOfBuckets 20 = .ok (.iload_n 2, 1) := by decide +kernel
theorem dX2_rootOfBuckets_21 : decode cX2_rootOfBuckets 21 = .ok (.istore_n 1, 1) := by decide +kernel
theorem dX2_rootOfBuckets_22 : decode cX2_rootOfBuckets 22 = .ok (.iinc 2 1, 3) := by decide +kernel
theorem dX2_rootOfBuckets_25 : decode cX2_rootOfBuckets 25 = .ok (.goto (-21), 3) := by decide +kernel
theorem dX2_rootOfBuckets_28 : decode cX2_rootOfBuckets 28 = .ok (.iload_n 1, 1) := by decide +kernel
theorem dX2_rootOfBuckets_29 : decode cX2_rootOfBuckets 29 = .ok (.ireturn, 1) := by decide +kernel
set_option maxRecDepth 20000 in
theorem ggX2_bucketsWithRank_X2_buckets : GoodIn wsX2_bucketsWithRank wsX2_buckets := goodIn_r _ [5, 6, 16, 17, 18, 19, 20] (by decide +kernel) (by decide +kernel)
set_option maxRecDepth 20000 in
theorem gX2_bucketsWithRank_X2_buckets : GoodIn wsX2_bucketsWithRank (wsV RX2 33 RX2 yX2_buckets wsX2_buckets) := goodIn_app (goodIn_of _ (by decide +kernel)) ggX2_bucketsWithRank_X2_buckets
set_option maxRecDepth 20000 in
theorem ggX2_bucketsWithRank_X2_rankIn : GoodIn wsX2_bucketsWithRank wsX2_rankIn := goodIn_r _ [10, 11, 12, 13, 14, 4, 15, 6, 16, 17, 18, 19, 20] (by decide +kernel) (by decide +kernel)
set_option maxRecDepth 20000 in
theorem gX2_bucketsWithRank_X2_rankIn : GoodIn wsX2_bucketsWithRank (wsV RX2 49 RX2 yX2_rankIn wsX2_rankIn) := goodIn_app (goodIn_of _ (by decide +kernel)) ggX2_bucketsWithRank_X2_rankIn
theorem dX2_bucketsWithRank_0 : decode cX2_bucketsWithRank 0 = .ok (.lconst 0, 1) := by decide +kernel
theorem dX2_bucketsWithRank_1 : decode cX2_bucketsWithRank 1 = .ok (.lstore_n 2, 1) := by decide +kernel
theorem dX2_bucketsWithRank_2 : decode cX2_bucketsWithRank 2 = .ok (.iconst 0, 1) := by decide +kernel
theorem dX2_bucketsWithRank_3 : decode cX2_bucketsWithRank 3 = .ok (.istore 4, 2) := by decide +kernel
theorem dX2_bucketsWithRank_5 : decode cX2_bucketsWithRank 5 = .ok (.iload 4, 2) := by decide +kernel
theorem dX2_bucketsWithRank_7 : decode cX2_bucketsWithRank 7 = .ok (.aload_n 0, 1) := by decide +kernel
theorem dX2_bucketsWithRank_8 : decode cX2_bucketsWithRank 8 = .ok (.invokevirtual 33, 3) := by decide +kernel
theorem dX2_bucketsWithRank_11 : decode cX2_bucketsWithRank 11 = .ok (.if_icmp .ge 26, 3) := by decide +kernel
theorem dX2_bucketsWithRank_14 : decode cX2_bucketsWithRank 14 = .ok (.aload_n 0, 1) := by decide +kernel
theorem dX2_bucketsWithRank_15 : decode cX2_bucketsWithRank 15 = .ok (.iload 4, 2) := by decide +kernel
theorem dX2_bucketsWithRank_17 : decode cX2_bucketsWithRank 17 = .ok (.invokevirtual 49, 3) := by decide +kernel
theorem dX2_bucketsWithRank_20 : decode cX2_bucketsWithRank 20 = .ok (.iload_n 1, 1) := by decide +kernel
theorem dX2_bucketsWithRank_21 : decode cX2_bucketsWithRank 21 = .ok (.if_icmp .ne 10, 3) := by decide +kernel
theorem dX2_bucketsWithRank_24 : decode cX2_bucketsWithRank 24 = .ok (.lload_n 2, 1) := by decide +kernel
theorem dX2_bucketsWithRank_25 : decode cX2_bucketsWithRank 25 = .ok (.lconst 1, 1) := by decide +kernel
theorem dX2_bucketsWithRank_26 : decode cX2_bucketsWithRank 26 = .ok (.iload 4, 2) := by decide +kernel
theorem dX2_bucketsWithRank_28 : decode cX2_bucketsWithRank 28 = .ok (.lshl, 1) := by decide +kernel
theorem dX2_bucketsWithRank_29 : decode cX2_bucketsWithRank 29 = .ok (.lor, 1) := by decide +kernel
theorem dX2_bucketsWithRank_30 : decode cX2_bucketsWithRank 30 = .ok (.lstore_n 2, 1) := by decide +kernel
theorem dX2_bucketsWithRank_31 : decode cX2_bucketsWithRank 31 = .ok (.iinc 4 1, 3) := by decide +kernel
theorem dX2_bucketsWithRank_34 : decode cX2_bucketsWithRank 34 = .ok (.goto (-29), 3) := by decide +kernel
theorem dX2_bucketsWithRank_37 : decode cX2_bucketsWithRank 37 = .ok (.lload_n 2, 1) := by decide +kernel
theorem dX2_bucketsWithRank_38 : decode cX2_bucketsWithRank 38 = .ok (.lreturn, 1) := by decide +kernel
set_option maxRecDepth 20000 in
theorem ggX2_sameBuckets_X2_buckets : GoodIn wsX2_sameBuckets wsX2_buckets := goodIn_r _ [5, 6, 16, 17, 18, 19, 20] (by decide +kernel) (by decide +kernel)
set_option maxRecDepth 20000 in
theorem gX2_sameBuckets_X2_buckets : GoodIn wsX2_sameBuckets (wsV RX2 33 RX2 yX2_buckets wsX2_buckets) := goodIn_app (goodIn_of _ (by decide +kernel)) ggX2_sameBuckets_X2_buckets
set_option maxRecDepth 20000 in
theorem ggX2_sameBuckets_X2_rankIn : GoodIn wsX2_sameBuckets wsX2_rankIn := goodIn_r _ [10, 11, 12, 13, 14, 4, 15, 6, 16, 17, 18, 19, 20] (by decide +kernel) (by decide +kernel)
set_option maxRecDepth 20000 in
theorem gX2_sameBuckets_X2_rankIn : GoodIn wsX2_sameBuckets (wsV RX2 49 RX2 yX2_rankIn wsX2_rankIn) := goodIn_app (goodIn_of _ (by decide +kernel)) ggX2_sameBuckets_X2_rankIn
theorem dX2_sameBuckets_0 : decode cX2_sameBuckets 0 = .ok (.iconst 0, 1) := by decide +kernel
theorem dX2_sameBuckets_1 : decode cX2_sameBuckets 1 = .ok (.istore_n 2, 1) := by decide +kernel
theorem dX2_sameBuckets_2 : decode cX2_sameBuckets 2 = .ok (.iconst 0, 1) := by decide +kernel
theorem dX2_sameBuckets_3 : decode cX2_sameBuckets 3 = .ok (.istore_n 3, 1) := by decide +kernel
theorem dX2_sameBuckets_4 : decode cX2_sameBuckets 4 = .ok (.iload_n 3, 1) := by decide +kernel
theorem dX2_sameBuckets_5 : decode cX2_sameBuckets 5 = .ok (.aload_n 0, 1) := by decide +kernel
theorem dX2_sameBuckets_6 : decode cX2_sameBuckets 6 = .ok (.invokevirtual 33, 3) := by decide +kernel
theorem dX2_sameBuckets_9 : decode cX2_sameBuckets 9 = .ok (.if_icmp .ge 25, 3) := by decide +kernel
theorem dX2_sameBuckets_12 : decode cX2_sameBuckets 12 = .ok (.aload_n 0, 1) := by decide +kernel
theorem dX2_sameBuckets_13 : decode cX2_sameBuckets 13 = .ok (.iload_n 3, 1) := by decide +kernel
theorem dX2_sameBuckets_14 : decode cX2_sameBuckets 14 = .ok (.invokevirtual 49, 3) := by decide +kernel
theorem dX2_sameBuckets_17 : decode cX2_sameBuckets 17 = .ok (.aload_n 1, 1) := by decide +kernel
theorem dX2_sameBuckets_18 : decode cX2_sameBuckets 18 = .ok (.iload_n 3, 1) := by decide +kernel
theorem dX2_sameBuckets_19 : decode cX2_sameBuckets 19 = .ok (.invokevirtual 49, 3) := by decide +kernel
theorem dX2_sameBuckets_22 : decode cX2_sameBuckets 22 = .ok (.if_icmp .ne 6, 3) := by decide +kernel
theorem dX2_sameBuckets_25 : decode cX2_sameBuckets 25 = .ok (.iinc 2 1, 3) := by decide +kernel
theorem dX2_sameBuckets_28 : decode cX2_sameBuckets 28 = .ok (.iinc 3 1, 3) := by decide +kernel
theorem dX2_sameBuckets_31 : decode cX2_sameBuckets 31 = .ok (.goto (-27), 3) := by decide +kernel
theorem dX2_sameBuckets_34 : decode cX2_sameBuckets 34 = .ok (.iload_n 2, 1) := by decide +kernel
theorem dX2_sameBuckets_35 : decode cX2_sameBuckets 35 = .ok (.ireturn, 1) := by decide +kernel
set_option maxRecDepth 20000 in
theorem ggX3_init_X2_init : GoodIn wsX3_init wsX2_init := goodIn_r _ [10, 11, 2, 3, 12, 13, 14, 15, 16, 17, 20, 21, 22, 23, 24] (by decide +kernel) (by decide +kernel)
set_option maxRecDepth 20000 in
theorem gX3_init_X2_init_n21 : GoodIn wsX3_init (wsX2_init) := ggX3_init_X2_init
theorem dX3_init_0 : decode cX3_init 0 = .ok (.aload_n 0, 1) := by decide +kernel
theorem dX3_init_1 : decode cX3_init 1 = .ok (.invokespecial 3, 3) := by decide +kernel
theorem dX3_init_4 : decode cX3_init 4 = .ok (.aload_n 0, 1) := by decide +kernel
theorem dX3_init_5 : decode cX3_init 5 = .ok (.sipush 12345, 3) := by decide +kernel
theorem dX3_init_8 : decode cX3_init 8 = .ok (.putfield 9, 3) := by decide +kernel
theorem dX3_init_11 : decode cX3_init 11 = .ok (.aload_n 0, 1) := by decide +kernel
theorem dX3_init_12 : decode cX3_init 12 = .ok (.bipush 6, 2) := by decide +kernel
theorem dX3_init_14 : decode cX3_init 14 = .ok (.anewarray 15, 3) := by decide +kernel
theorem dX3_init_17 : decode cX3_init 17 = .ok (.putfield 17, 3) := by decide +kernel
theorem dX3_init_20 : decode cX3_init 20 = .ok (.iconst 0, 1) := by decide +kernel
theorem dX3_init_21 : decode cX3_init 21 = .ok (.istore_n 1, 1) := by decide +kernel
theorem dX3_init_22 : decode cX3_init 22 = .ok (.iload_n 1, 1) := by decide +kernel
theorem dX3_init_23 : decode cX3_init 23 = .ok (.bipush 6, 2) := by decide +kernel
theorem dX3_init_25 : decode cX3_init 25 = .ok (.if_icmp .ge 22, 3) := by decide +kernel
theorem dX3_init_28 : decode cX3_init 28 = .ok (.aload_n 0, 1) := by decide +kernel
theorem dX3_init_29 : decode cX3_init 29 = .ok (.getfield 17, 3) := by decide +kernel
theorem dX3_init_32 : decode cX3_init 32 = .ok (.iload_n 1, 1) := by decide +kernel
theorem dX3_init_33 : decode cX3_init 33 = .ok (.new 15, 3) := by decide +kernel
theorem dX3_init_36 : decode cX3_init 36 = .ok (.dup, 1) := by decide +kernel
theorem dX3_init_37 : decode cX3_init 37 = .ok (.invokespecial 21, 3) := by decide +kernel
theorem dX3_init_40 : decode cX3_init 40 = .ok (.aastore, 1) := by decide +kernel
theorem dX3_init_41 : decode cX3_init 41 = .ok (.iinc 1 1, 3) := by decide +kernel
theorem dX3_init_44 : decode cX3_init 44 = .ok (.goto (-22), 3) := by decide +kernel
theorem dX3_init_47 : decode cX3_init 47 = .ok (.return_, 1) := by decide +kernel
theorem dX3_sketchAt_0 : decode cX3_sketchAt 0 = .ok (.iload_n 1, 1) := by decide +kernel
theorem dX3_sketchAt_1 : decode cX3_sketchAt 1 = .ok (.ifCond .lt 21, 3) := by decide +kernel
theorem dX3_sketchAt_4 : decode cX3_sketchAt 4 = .ok (.iload_n 1, 1) := by decide +kernel
theorem dX3_sketchAt_5 : decode cX3_sketchAt 5 = .ok (.aload_n 0, 1) := by decide +kernel
theorem dX3_sketchAt_6 : decode cX3_sketchAt 6 = .ok (.getfield 17, 3) := by decide +kernel
theorem dX3_sketchAt_9 : decode cX3_sketchAt 9 = .ok (.arraylength, 1) := by decide +kernel
theorem dX3_sketchAt_10 : decode cX3_sketchAt 10 = .ok (.if_icmp .ge 12, 3) := by decide +kernel
theorem dX3_sketchAt_13 : decode cX3_sketchAt 13 = .ok (.aload_n 0, 1) := by decide +kernel
theorem dX3_sketchAt_14 : decode cX3_sketchAt 14 = .ok (.getfield 17, 3) := by decide +kernel
theorem dX3_sketchAt_17 : decode cX3_sketchAt 17 = .ok (.iload_n 1, 1) := by decide +kernel
theorem dX3_sketchAt_18 : decode cX3_sketchAt 18 = .ok (.aaload, 1) := by decide +kernel
theorem dX3_sketchAt_19 : decode cX3_sketchAt 19 = .ok (.goto 4, 3) := by decide +kernel
theorem dX3_sketchAt_22 : decode cX3_sketchAt 22 = .ok (.aconst_null, 1) := by decide +kernel
theorem dX3_sketchAt_23 : decode cX3_sketchAt 23 = .ok (.areturn, 1) := by decide +kernel
set_option maxRecDepth 20000 in
theorem ggX3_changeSalt_X2_startAgain : GoodIn wsX3_changeSalt wsX2_startAgain := goodIn_r _ [7, 8, 9, 10, 11, 12, 13, 14, 15, 18, 19, 20, 21, 22] (by decide +kernel) (by decide +kernel)
set_option maxRecDepth 20000 in
theorem gX3_changeSalt_X2_startAgain : GoodIn wsX3_changeSalt (wsV RX3 25 RX2 yX2_startAgain wsX2_startAgain) := goodIn_app (goodIn_of _ (by decide +kernel)) ggX3_changeSalt_X2_startAgain
theorem dX3_changeSalt_0 : decode cX3_changeSalt 0 = .ok (.aload_n 0, 1) := by decide +kernel
theorem dX3_changeSalt_1 : decode cX3_changeSalt 1 = .ok (.iload_n 1, 1) := by decide +kernel
theorem dX3_changeSalt_2 : decode cX3_changeSalt 2 = .ok (.putfield 9, 3) := by decide +kernel
theorem dX3_changeSalt_5 : decode cX3_changeSalt 5 = .ok (.aload_n 0, 1) := by decide +kernel
theorem dX3_changeSalt_6 : decode cX3_changeSalt 6 = .ok (.getfield 17, 3) := by decide +kernel
theorem dX3_changeSalt_9 : decode cX3_changeSalt 9 = .ok (.astore_n 2, 1) := by decide +kernel
theorem dX3_changeSalt_10 : decode cX3_changeSalt 10 = .ok (.aload_n 2, 1) := by decide +kernel
theorem dX3_changeSalt_11 : decode cX3_changeSalt 11 = .ok (.arraylength, 1) := by decide +kernel
theorem dX3_changeSalt_12 : decode cX3_changeSalt 12 = .ok (.istore_n 3, 1) := by decide +kernel
theorem dX3_changeSalt_13 : decode cX3_changeSalt 13 = .ok (.iconst 0, 1) := by decide +kernel
theorem dX3_changeSalt_14 : decode cX3_changeSalt 14 = .ok (.istore 4, 2) := by decide +kernel
theorem dX3_changeSalt_16 : decode cX3_changeSalt 16 = .ok (.iload 4, 2) := by decide +kernel
theorem dX3_changeSalt_18 : decode cX3_changeSalt 18 = .ok (.iload_n 3, 1) := by decide +kernel
theorem dX3_changeSalt_19 : decode cX3_changeSalt 19 = .ok (.if_icmp .ge 25, 3) := by decide +kernel
theorem dX3_changeSalt_22 : decode cX3_changeSalt 22 = .ok (.aload_n 2, 1) := by decide +kernel
theorem dX3_changeSalt_23 : decode cX3_changeSalt 23 = .ok (.iload 4, 2) := by decide +kernel
theorem dX3_changeSalt_25 : decode cX3_changeSalt 25 = .ok (.aaload, 1) := by decide +kernel
theorem dX3_changeSalt_26 : decode cX3_changeSalt 26 = .ok (.astore 5, 2) := by decide +kernel
theorem dX3_changeSalt_28 : decode cX3_changeSalt 28 = .ok (.aload 5, 2) := by decide +kernel
theorem dX3_changeSalt_30 : decode cX3_changeSalt 30 = .ok (.aload 5, 2) := by decide +kernel
theorem dX3_changeSalt_32 : decode cX3_changeSalt 32 = .ok (.getfield 22, 3) := by decide +kernel
theorem dX3_changeSalt_35 : decode cX3_changeSalt 35 = .ok (.invokevirtual 25, 3) := by decide +kernel
theorem dX3_changeSalt_38 : decode cX3_changeSalt 38 = .ok (.iinc 4 1, 3) := by decide +kernel
theorem dX3_changeSalt_41 : decode cX3_changeSalt 41 = .ok (.goto (-25), 3) := by decide +kernel
theorem dX3_changeSalt_44 : decode cX3_changeSalt 44 = .ok (.return_, 1) := by decide +kernel
set_option maxRecDepth 20000 in
theorem ggX3_copyFrom_X2_copyFrom : GoodIn wsX3_copyFrom wsX2_copyFrom := goodIn_r _ [7, 8, 9, 10, 11, 12, 13, 14, 15, 16, 19, 20, 21, 22, 23] (by decide +kernel) (by decide +kernel)
set_option maxRecDepth 20000 in
theorem gX3_copyFrom_X2_copyFrom : GoodIn wsX3_copyFrom (wsV RX3 29 RX2 yX2_copyFrom wsX2_copyFrom) := goodIn_app (goodIn_of _ (by decide +kernel)) ggX3_copyFrom_X2_copyFrom
theorem dX3_copyFrom_0 : decode cX3_copyFrom 0 = .ok (.aload_n 0, 1) := by decide +kernel
theorem dX3_copyFrom_1 : decode cX3_copyFrom 1 = .ok (.aload_n 1, 1) := by decide +kernel
theorem dX3_copyFrom_2 : decode cX3_copyFrom 2 = .ok (.getfield 9, 3) := by decide +kernel
theorem dX3_copyFrom_5 : decode cX3_copyFrom 5 = .ok (.putfield 9, 3) := by decide +kernel
theorem dX3_copyFrom_8 : decode cX3_copyFrom 8 = .ok (.iconst 0, 1) := by decide +kernel
theorem dX3_copyFrom_9 : decode cX3_copyFrom 9 = .ok (.istore_n 2, 1) := by decide +kernel
theorem dX3_copyFrom_10 : decode cX3_copyFrom 10 = .ok (.iload_n 2, 1) := by decide +kernel
theorem dX3_copyFrom_11 : decode cX3_copyFrom 11 = .ok (.bipush 6, 2) := by decide +kernel
theorem dX3_copyFrom_13 : decode cX3_copyFrom 13 = .ok (.if_icmp .ge 24, 3) := by decide +kernel
theorem dX3_copyFrom_16 : decode cX3_copyFrom 16 = .ok (.aload_n 0, 1) := by decide +kernel
theorem dX3_copyFrom_17 : decode cX3_copyFrom 17 = .ok (.getfield 17, 3) := by decide +kernel
theorem dX3_copyFrom_20 : decode cX3_copyFrom 20 = .ok (.iload_n 2, 1) := by decide +kernel
theorem dX3_copyFrom_21 : decode cX3_copyFrom 21 = .ok (.aaload, 1) := by decide +kernel
theorem dX3_copyFrom_22 : decode cX3_copyFrom 22 = .ok (.aload_n 1, 1) := by decide +kernel
theorem dX3_copyFrom_23 : decode cX3_copyFrom 23 = .ok (.getfield 17, 3) := by decide +kernel
theorem dX3_copyFrom_26 : decode cX3_copyFrom 26 = .ok (.iload_n 2, 1) := by decide +kernel
theorem dX3_copyFrom_27 : decode cX3_copyFrom 27 = .ok (.aaload, 1) := by decide +kernel
theorem dX3_copyFrom_28 : decode cX3_copyFrom 28 = .ok (.invokevirtual 29, 3) := by decide +kernel
theorem dX3_copyFrom_31 : decode cX3_copyFrom 31 = .ok (.iinc 2 1, 3) := by decide +kernel
theorem dX3_copyFrom_34 : decode cX3_copyFrom 34 = .ok (.goto (-24), 3) := by decide +kernel
theorem dX3_copyFrom_37 : decode cX3_copyFrom 37 = .ok (.return_, 1) := by decide +kernel
set_option maxRecDepth 20000 in
theorem ggX3_filledSketches_X2_filledBuckets : GoodIn wsX3_filledSketches wsX2_filledBuckets := goodIn_r _ [6, 7, 8, 9, 5, 10, 11, 12, 13, 14, 15, 16, 17, 18, 19, 20, 23, 24, 25, 26, 27] (by decide +kernel) (by decide +kernel)
set_option maxRecDepth 20000 in
theorem gX3_filledSketches_X2_filledBuckets : GoodIn wsX3_filledSketches (wsV RX3 33 RX2 yX2_filledBuckets wsX2_filledBuckets) := goodIn_app (goodIn_of _ (by decide +kernel)) ggX3_filledSketches_X2_filledBuckets
end
section
theorem dX3_filledSketches_0 : decode cX3_filledSketches 0 = .ok (.iconst 0, 1) := by decide +kernel
theorem dX3_filledSketches_1 : decode cX3_filledSketches 1 = .ok (.istore_n 1, 1) := by decide +kernel
theorem dX3_filledSketches_2 : decode cX3_filledSketches 2 = .ok (.aload_n 0, 1) := by decide +kernel
theorem dX3_filledSketches_3 : decode cX3_filledSketches 3 = .ok (.getfield 17, 3) := by decide +kernel
theorem dX3_filledSketches_6 : decode cX3_filledSketches 6 = .ok (.astore_n 2, 1) := by decide +kernel
theorem dX3_filledSketches_7 : decode cX3_filledSketches 7 = .ok (.aload_n 2, 1) := by decide +kernel
theorem dX3_filledSketches_8 : decode cX3_filledSketches 8 = .ok (.arraylength, 1) := by decide +kernel
theorem dX3_filledSketches_9 : decode cX3_filledSketches 9 = .ok (.istore_n 3, 1) := by decide +kernel
theorem dX3_filledSketches_10 : decode cX3_filledSketches 10 = .ok (.iconst 0, 1) := by decide +kernel
theorem dX3_filledSketches_11 : decode cX3_filledSketches 11 = .ok (.istore 4, 2) := by decide +kernel
theorem dX3_filledSketches_13 : decode cX3_filledSketches 13 = .ok (.iload 4, 2) := by decide +kernel
theorem dX3_filledSketches_15 : decode cX3_filledSketches 15 = .ok (.iload_n 3, 1) := by decide +kernel
theorem dX3_filledSketches_16 : decode cX3_filledSketches 16 = .ok (.if_icmp .ge 26, 3) := by decide +kernel
theorem dX3_filledSketches_19 : decode cX3_filledSketches 19 = .ok (.aload_n 2, 1) := by decide +kernel
theorem dX3_filledSketches_20 : decode cX3_filledSketches 20 = .ok (.iload 4, 2) := by decide +kernel
theorem dX3_filledSketches_22 : decode cX3_filledSketches 22 = .ok (.aaload, 1) := by decide +kernel
theorem dX3_filledSketches_23 : decode cX3_filledSketches 23 = .ok (.astore 5, 2) := by decide +kernel
theorem dX3_filledSketches_25 : decode cX3_filledSketches 25 = .ok (.aload 5, 2) := by decide +kernel
theorem dX3_filledSketches_27 : decode cX3_filledSketches 27 = .ok (.invokevirtual 33, 3) := by decide +kernel
theorem dX3_filledSketches_30 : decode cX3_filledSketches 30 = .ok (.ifCond .le 6, 3) := by decide +kernel
theorem dX3_filledSketches_33 : decode cX3_filledSketches 33 = .ok (.iinc 1 1, 3) := by decide +kernel
theorem dX3_filledSketches_36 : decode cX3_filledSketches 36 = .ok (.iinc 4 1, 3) := by decide +kernel
theorem dX3_filledSketches_39 : decode cX3_filledSketches 39 = .ok (.goto (-26), 3) := by decide +kernel
theorem dX3_filledSketches_42 : decode cX3_filledSketches 42 = .ok (.iload_n 1, 1) := by decide +kernel
theorem dX3_filledSketches_43 : decode cX3_filledSketches 43 = .ok (.ireturn, 1) := by decide +kernel
set_option maxRecDepth 20000 in
theorem ggX3_filledBuckets_X2_filledBuckets : GoodIn wsX3_filledBuckets wsX2_filledBuckets := goodIn_r _ [6, 7, 8, 9, 5, 10, 11, 12, 13, 14, 15, 16, 17, 18, 19, 20, 23, 24, 25, 26, 27] (by decide +kernel) (by decide +kernel)
set_option maxRecDepth 20000 in
theorem gX3_filledBuckets_X2_filledBuckets : GoodIn wsX3_filledBuckets (wsV RX3 33 RX2 yX2_filledBuckets wsX2_filledBuckets) := goodIn_app (goodIn_of _ (by decide +kernel)) ggX3_filledBuckets_X2_filledBuckets
theorem dX3_filledBuckets_0 : decode cX3_filledBuckets 0 = .ok (.iconst 0, 1) := by decide +kernel
theorem dX3_filledBuckets_1 : decode cX3_filledBuckets 1 = .ok (.istore_n 1, 1) := by decide +kernel
theorem dX3_filledBuckets_2 : decode cX3_filledBuckets 2 = .ok (.aload_n 0, 1) := by decide +kernel
theorem dX3_filledBuckets_3 : decode cX3_filledBuckets 3 = .ok (.getfield 17, 3) := by decide +kernel
theorem dX3_filledBuckets_6 : decode cX3_filledBuckets 6 = .ok (.astore_n 2, 1) := by decide +kernel
theorem dX3_filledBuckets_7 : decode cX3_filledBuckets 7 = .ok (.aload_n 2, 1) := by decide +kernel
theorem dX3_filledBuckets_8 : decode cX3_filledBuckets 8 = .ok (.arraylength, 1) := by decide +kernel
theorem dX3_filledBuckets_9 : decode cX3_filledBuckets 9 = .ok (.istore_n 3, 1) := by decide +kernel
theorem dX3_filledBuckets_10 : decode cX3_filledBuckets 10 = .ok (.iconst 0, 1) := by decide +kernel
theorem dX3_filledBuckets_11 : decode cX3_filledBuckets 11 = .ok (.istore 4, 2) := by decide +kernel
theorem dX3_filledBuckets_13 : decode cX3_filledBuckets 13 = .ok (.iload 4, 2) := by decide +kernel
theorem dX3_filledBuckets_15 : decode cX3_filledBuckets 15 = .ok (.iload_n 3, 1) := by decide +kernel
theorem dX3_filledBuckets_16 : decode cX3_filledBuckets 16 = .ok (.if_icmp .ge 23, 3) := by decide +kernel
theorem dX3_filledBuckets_19 : decode cX3_filledBuckets 19 = .ok (.aload_n 2, 1) := by decide +kernel
theorem dX3_filledBuckets_20 : decode cX3_filledBuckets 20 = .ok (.iload 4, 2) := by decide +kernel
theorem dX3_filledBuckets_22 : decode cX3_filledBuckets 22 = .ok (.aaload, 1) := by decide +kernel
theorem dX3_filledBuckets_23 : decode cX3_filledBuckets 23 = .ok (.astore 5, 2) := by decide +kernel
theorem dX3_filledBuckets_25 : decode cX3_filledBuckets 25 = .ok (.iload_n 1, 1) := by decide +kernel
theorem dX3_filledBuckets_26 : decode cX3_filledBuckets 26 = .ok (.aload 5, 2) := by decide +kernel
theorem dX3_filledBuckets_28 : decode cX3_filledBuckets 28 = .ok (.invokevirtual 33, 3) := by decide +kernel
theorem dX3_filledBuckets_31 : decode cX3_filledBuckets 31 = .ok (.iadd, 1) := by decide +kernel
theorem dX3_filledBuckets_32 : decode cX3_filledBuckets 32 = .ok (.istore_n 1, 1) := by decide +kernel
theorem dX3_filledBuckets_33 : decode cX3_filledBuckets 33 = .ok (.iinc 4 1, 3) := by decide +kernel
theorem dX3_filledBuckets_36 : decode cX3_filledBuckets 36 = .ok (.goto (-23), 3) := by decide +kernel
theorem dX3_filledBuckets_39 : decode cX3_filledBuckets 39 = .ok (.iload_n 1, 1) := by decide +kernel
theorem dX3_filledBuckets_40 : decode cX3_filledBuckets 40 = .ok (.ireturn, 1) := by decide +kernel
theorem dX3_fullLists_0 : decode cX3_fullLists 0 = .ok (.iconst 0, 1) := by decide +kernel
theorem dX3_fullLists_1 : decode cX3_fullLists 1 = .ok (.istore_n 1, 1) := by decide +kernel
theorem dX3_fullLists_2 : decode cX3_fullLists 2 = .ok (.aload_n 0, 1) := by decide +kernel
theorem dX3_fullLists_3 : decode cX3_fullLists 3 = .ok (.getfield 17, 3) := by decide +kernel
theorem dX3_fullLists_6 : decode cX3_fullLists 6 = .ok (.astore_n 2, 1) := by decide +kernel
theorem dX3_fullLists_7 : decode cX3_fullLists 7 = .ok (.aload_n 2, 1) := by decide +kernel
theorem dX3_fullLists_8 : decode cX3_fullLists 8 = .ok (.arraylength, 1) := by decide +kernel
theorem dX3_fullLists_9 : decode cX3_fullLists 9 = .ok (.istore_n 3, 1) := by decide +kernel
theorem dX3_fullLists_10 : decode cX3_fullLists 10 = .ok (.iconst 0, 1) := by decide +kernel
theorem dX3_fullLists_11 : decode cX3_fullLists 11 = .ok (.istore 4, 2) := by decide +kernel
theorem dX3_fullLists_13 : decode cX3_fullLists 13 = .ok (.iload 4, 2) := by decide +kernel
theorem dX3_fullLists_15 : decode cX3_fullLists 15 = .ok (.iload_n 3, 1) := by decide +kernel
theorem dX3_fullLists_16 : decode cX3_fullLists 16 = .ok (.if_icmp .ge 26, 3) := by decide +kernel
theorem dX3_fullLists_19 : decode cX3_fullLists 19 = .ok (.aload_n 2, 1) := by decide +kernel
theorem dX3_fullLists_20 : decode cX3_fullLists 20 = .ok (.iload 4, 2) := by decide +kernel
theorem dX3_fullLists_22 : decode cX3_fullLists 22 = .ok (.aaload, 1) := by decide +kernel
theorem dX3_fullLists_23 : decode cX3_fullLists 23 = .ok (.astore 5, 2) := by decide +kernel
theorem dX3_fullLists_25 : decode cX3_fullLists 25 = .ok (.aload 5, 2) := by decide +kernel
theorem dX3_fullLists_27 : decode cX3_fullLists 27 = .ok (.getfield 37, 3) := by decide +kernel
theorem dX3_fullLists_30 : decode cX3_fullLists 30 = .ok (.ifCond .eq 6, 3) := by decide +kernel
theorem dX3_fullLists_33 : decode cX3_fullLists 33 = .ok (.iinc 1 1, 3) := by decide +kernel
theorem dX3_fullLists_36 : decode cX3_fullLists 36 = .ok (.iinc 4 1, 3) := by decide +kernel
theorem dX3_fullLists_39 : decode cX3_fullLists 39 = .ok (.goto (-26), 3) := by decide +kernel
theorem dX3_fullLists_42 : decode cX3_fullLists 42 = .ok (.iload_n 1, 1) := by decide +kernel
theorem dX3_fullLists_43 : decode cX3_fullLists 43 = .ok (.ireturn, 1) := by decide +kernel
set_option maxRecDepth 20000 in
theorem ggX4_init_X3_init : GoodIn wsX4_init wsX3_init := goodIn_r _ [25, 26, 2, 3, 27, 28, 29, 20, 21, 30, 31, 32, 33, 34, 35, 36, 37, 38, 59, 60, 77, 78, 79, 80, 81] (by decide +kernel) (by decide +kernel)
set_option maxRecDepth 20000 in
theorem gX4_init_X3_init : GoodIn wsX4_init (wsX3_init) := ggX4_init_X3_init
set_option maxRecDepth 20000 in
theorem ggX4_init_X0_init : GoodIn wsX4_init wsX0_init := goodIn_r _ [41, 42, 2, 3, 43, 44, 45, 46, 5, 6, 47, 24, 25, 26, 27, 28, 29, 20, 21, 30, 31, 32, 33, 34, 35, 36, 37, 38, 67, 68, 69, 59, 60, 77, 78, 79, 80, 81] (by decide +kernel) (by decide +kernel)
set_option maxRecDepth 20000 in
theorem gX4_init_X0_init : GoodIn wsX4_init (wsX0_init) := ggX4_init_X0_init
set_option maxRecDepth 20000 in
theorem ggX4_init_X1_init : GoodIn wsX4_init wsX1_init := goodIn_r _ [49, 50, 2, 3, 51, 52, 53, 54, 55, 56, 34, 57, 58, 70, 71, 72, 73, 74, 75, 76] (by decide +kernel) (by decide +kernel)
set_option maxRecDepth 20000 in
theorem gX4_init_X1_init_n33 : GoodIn wsX4_init (wsX1_init) := ggX4_init_X1_init
set_option maxRecDepth 20000 in
theorem ggX4_init_X2_init : GoodIn wsX4_init wsX2_init := goodIn_r _ [31, 32, 2, 3, 33, 34, 35, 36, 37, 38, 77, 78, 79, 80, 81] (by decide +kernel) (by decide +kernel)
set_option maxRecDepth 20000 in
theorem gX4_init_X2_init_n40 : GoodIn wsX4_init (wsX2_init) := ggX4_init_X2_init
theorem dX4_init_0 : decode cX4_init 0 = .ok (.aload_n 0, 1) := by decide +kernel
theorem dX4_init_1 : decode cX4_init 1 = .ok (.invokespecial 1, 3) := by decide +kernel
theorem dX4_init_4 : decode cX4_init 4 = .ok (.aload_n 0, 1) := by decide +kernel
theorem dX4_init_5 : decode cX4_init 5 = .ok (.new 7, 3) := by decide +kernel
theorem dX4_init_8 : decode cX4_init 8 = .ok (.dup, 1) := by decide +kernel
theorem dX4_init_9 : decode cX4_init 9 = .ok (.invokespecial 9, 3) := by decide +kernel
theorem dX4_init_12 : decode cX4_init 12 = .ok (.putfield 10, 3) := by decide +kernel
theorem dX4_init_15 : decode cX4_init 15 = .ok (.aload_n 0, 1) := by decide +kernel
theorem dX4_init_16 : decode cX4_init 16 = .ok (.new 16, 3) := by decide +kernel
theorem dX4_init_19 : decode cX4_init 19 = .ok (.dup, 1) := by decide +kernel
theorem dX4_init_20 : decode cX4_init 20 = .ok (.invokespecial 18, 3) := by decide +kernel
theorem dX4_init_23 : decode cX4_init 23 = .ok (.putfield 19, 3) := by decide +kernel
theorem dX4_init_26 : decode cX4_init 26 = .ok (.aload_n 0, 1) := by decide +kernel
theorem dX4_init_27 : decode cX4_init 27 = .ok (.iconst 2, 1) := by decide +kernel
theorem dX4_init_28 : decode cX4_init 28 = .ok (.anewarray 7, 3) := by decide +kernel
theorem dX4_init_31 : decode cX4_init 31 = .ok (.putfield 23, 3) := by decide +kernel
theorem dX4_init_34 : decode cX4_init 34 = .ok (.iconst 0, 1) := by decide +kernel
theorem dX4_init_35 : decode cX4_init 35 = .ok (.istore_n 1, 1) := by decide +kernel
theorem dX4_init_36 : decode cX4_init 36 = .ok (.iload_n 1, 1) := by decide +kernel
theorem dX4_init_37 : decode cX4_init 37 = .ok (.iconst 2, 1) := by decide +kernel
theorem dX4_init_38 : decode cX4_init 38 = .ok (.if_icmp .ge 22, 3) := by decide +kernel
theorem dX4_init_41 : decode cX4_init 41 = .ok (.aload_n 0, 1) := by decide +kernel
theorem dX4_init_42 : decode cX4_init 42 = .ok (.getfield 23, 3) := by decide +kernel
theorem dX4_init_45 : decode cX4_init 45 = .ok (.iload_n 1, 1) := by decide +kernel
theorem dX4_init_46 : decode cX4_init 46 = .ok (.new 7, 3) := by decide +kernel
theorem dX4_init_49 : decode cX4_init 49 = .ok (.dup, 1) := by decide +kernel
theorem dX4_init_50 : decode cX4_init 50 = .ok (.invokespecial 9, 3) := by decide +kernel
theorem dX4_init_53 : decode cX4_init 53 = .ok (.aastore, 1) := by decide +kernel
theorem dX4_init_54 : decode cX4_init 54 = .ok (.iinc 1 1, 3) := by decide +kernel
theorem dX4_init_57 : decode cX4_init 57 = .ok (.goto (-21), 3) := by decide +kernel
theorem dX4_init_60 : decode cX4_init 60 = .ok (.aload_n 0, 1) := by decide +kernel
theorem dX4_init_61 : decode cX4_init 61 = .ok (.iconst 2, 1) := by decide +kernel
theorem dX4_init_62 : decode cX4_init 62 = .ok (.newarray .boolean, 2) := by decide +kernel
theorem dX4_init_64 : decode cX4_init 64 = .ok (.putfield 27, 3) := by decide +kernel
theorem dX4_init_67 : decode cX4_init 67 = .ok (.aload_n 0, 1) := by decide +kernel
theorem dX4_init_68 : decode cX4_init 68 = .ok (.new 31, 3) := by decide +kernel
theorem dX4_init_71 : decode cX4_init 71 = .ok (.dup, 1) := by decide +kernel
theorem dX4_init_72 : decode cX4_init 72 = .ok (.invokespecial 33, 3) := by decide +kernel
theorem dX4_init_75 : decode cX4_init 75 = .ok (.putfield 34, 3) := by decide +kernel
theorem dX4_init_78 : decode cX4_init 78 = .ok (.aload_n 0, 1) := by decide +kernel
theorem dX4_init_79 : decode cX4_init 79 = .ok (.new 38, 3) := by decide +kernel
theorem dX4_init_82 : decode cX4_init 82 = .ok (.dup, 1) := by decide +kernel
theorem dX4_init_83 : decode cX4_init 83 = .ok (.invokespecial 40, 3) := by decide +kernel
theorem dX4_init_86 : decode cX4_init 86 = .ok (.putfield 41, 3) := by decide +kernel
theorem dX4_init_89 : decode cX4_init 89 = .ok (.return_, 1) := by decide +kernel
set_option maxRecDepth 20000 in
theorem ggX4_salt_X0_record : GoodIn wsX4_salt wsX0_record := goodIn_r _ [8, 9, 10, 11, 12, 13, 14, 15, 16, 17, 18, 19, 20, 21, 22, 23, 24, 25, 26, 27, 28, 29, 30, 31, 32, 33, 34, 35, 36, 57, 58, 59, 55, 56, 60, 61, 62, 63, 64] (by decide +kernel) (by decide +kernel)
set_option maxRecDepth 20000 in
theorem gX4_salt_X0_record : GoodIn wsX4_salt (wsV RX4 46 RX0 yX0_record wsX0_record) := goodIn_app (goodIn_of _ (by decide +kernel)) ggX4_salt_X0_record
set_option maxRecDepth 20000 in
theorem ggX4_salt_X3_changeSalt : GoodIn wsX4_salt wsX3_changeSalt := goodIn_r _ [40, 21, 22, 41, 42, 43, 26, 44, 28, 29, 35, 36, 45, 46, 47, 48, 55, 56, 60, 61, 62, 63, 64] (by decide +kernel) (by decide +kernel)
set_option maxRecDepth 20000 in
theorem gX4_salt_X3_changeSalt : GoodIn wsX4_salt (wsV RX4 54 RX3 yX3_changeSalt wsX3_changeSalt) := goodIn_app (goodIn_of _ (by decide +kernel)) ggX4_salt_X3_changeSalt
theorem dX4_salt_0 : decode cX4_salt 0 = .ok (.iload_n 1, 1) := by decide +kernel
theorem dX4_salt_1 : decode cX4_salt 1 = .ok (.ifCond .lt 9, 3) := by decide +kernel
theorem dX4_salt_4 : decode cX4_salt 4 = .ok (.iload_n 1, 1) := by decide +kernel
theorem dX4_salt_5 : decode cX4_salt 5 = .ok (.ldc 45, 2) := by decide +kernel
theorem dX4_salt_7 : decode cX4_salt 7 = .ok (.if_icmp .lt 6, 3) := by decide +kernel
theorem dX4_salt_10 : decode cX4_salt 10 = .ok (.bipush (-2), 2) := by decide +kernel
theorem dX4_salt_12 : decode cX4_salt 12 = .ok (.ireturn, 1) := by decide +kernel
theorem dX4_salt_13 : decode cX4_salt 13 = .ok (.aload_n 0, 1) := by decide +kernel
theorem dX4_salt_14 : decode cX4_salt 14 = .ok (.getfield 19, 3) := by decide +kernel
theorem dX4_salt_17 : decode cX4_salt 17 = .ok (.aload_n 0, 1) := by decide +kernel
theorem dX4_salt_18 : decode cX4_salt 18 = .ok (.getfield 10, 3) := by decide +kernel
theorem dX4_salt_21 : decode cX4_salt 21 = .ok (.invokevirtual 46, 3) := by decide +kernel
theorem dX4_salt_24 : decode cX4_salt 24 = .ok (.aload_n 0, 1) := by decide +kernel
theorem dX4_salt_25 : decode cX4_salt 25 = .ok (.getfield 10, 3) := by decide +kernel
theorem dX4_salt_28 : decode cX4_salt 28 = .ok (.getfield 50, 3) := by decide +kernel
theorem dX4_salt_31 : decode cX4_salt 31 = .ok (.istore_n 2, 1) := by decide +kernel
theorem dX4_salt_32 : decode cX4_salt 32 = .ok (.aload_n 0, 1) := by decide +kernel
theorem dX4_salt_33 : decode cX4_salt 33 = .ok (.getfield 10, 3) := by decide +kernel
theorem dX4_salt_36 : decode cX4_salt 36 = .ok (.iload_n 1, 1) := by decide +kernel
theorem dX4_salt_37 : decode cX4_salt 37 = .ok (.invokevirtual 54, 3) := by decide +kernel
theorem dX4_salt_40 : decode cX4_salt 40 = .ok (.iload_n 2, 1) := by decide +kernel
theorem dX4_salt_41 : decode cX4_salt 41 = .ok (.ireturn, 1) := by decide +kernel
set_option maxRecDepth 20000 in
theorem ggX4_bits_X3_sketchAt : GoodIn wsX4_bits wsX3_sketchAt := goodIn_r _ [7, 8, 59, 60] (by decide +kernel) (by decide +kernel)
set_option maxRecDepth 20000 in
theorem gX4_bits_X3_sketchAt : GoodIn wsX4_bits (wsV RX4 58 RX3 yX3_sketchAt wsX3_sketchAt) := goodIn_app (goodIn_of _ (by decide +kernel)) ggX4_bits_X3_sketchAt
set_option maxRecDepth 20000 in
theorem ggX4_bits_X0_record : GoodIn wsX4_bits wsX0_record := goodIn_r _ [13, 14, 15, 16, 17, 18, 19, 20, 21, 22, 23, 6, 24, 25, 8, 26, 27, 28, 29, 30, 31, 32, 33, 34, 35, 36, 37, 38, 39, 61, 62, 63, 59, 60, 54, 55, 56, 57, 58] (by decide +kernel) (by decide +kernel)
set_option maxRecDepth 20000 in
theorem gX4_bits_X0_record : GoodIn wsX4_bits (wsV RX4 46 RX0 yX0_record wsX0_record) := goodIn_app (goodIn_of _ (by decide +kernel)) ggX4_bits_X0_record
set_option maxRecDepth 20000 in
theorem ggX4_bits_X2_startAgain : GoodIn wsX4_bits wsX2_startAgain := goodIn_r _ [43, 31, 32, 38, 39, 44, 45, 46, 47, 54, 55, 56, 57, 58] (by decide +kernel) (by decide +kernel)
set_option maxRecDepth 20000 in
theorem gX4_bits_X2_startAgain : GoodIn wsX4_bits (wsV RX4 65 RX2 yX2_startAgain wsX2_startAgain) := goodIn_app (goodIn_of _ (by decide +kernel)) ggX4_bits_X2_startAgain
theorem dX4_bits_0 : decode cX4_bits 0 = .ok (.aload_n 0, 1) := by decide +kernel
theorem dX4_bits_1 : decode cX4_bits 1 = .ok (.getfield 10, 3) := by decide +kernel
theorem dX4_bits_4 : decode cX4_bits 4 = .ok (.iload_n 1, 1) := by decide +kernel
theorem dX4_bits_5 : decode cX4_bits 5 = .ok (.invokevirtual 58, 3) := by decide +kernel
theorem dX4_bits_8 : decode cX4_bits 8 = .ok (.astore_n 3, 1) := by decide +kernel
theorem dX4_bits_9 : decode cX4_bits 9 = .ok (.aload_n 3, 1) := by decide +kernel
theorem dX4_bits_10 : decode cX4_bits 10 = .ok (.ifnonnull 5, 3) := by decide +kernel
theorem dX4_bits_13 : decode cX4_bits 13 = .ok (.iconst (-1), 1) := by decide +kernel
theorem dX4_bits_14 : decode cX4_bits 14 = .ok (.ireturn, 1) := by decide +kernel
theorem dX4_bits_15 : decode cX4_bits 15 = .ok (.iload_n 2, 1) := by decide +kernel
theorem dX4_bits_16 : decode cX4_bits 16 = .ok (.iconst 2, 1) := by decide +kernel
theorem dX4_bits_17 : decode cX4_bits 17 = .ok (.if_icmp .lt 9, 3) := by decide +kernel
theorem dX4_bits_20 : decode cX4_bits 20 = .ok (.iload_n 2, 1) := by decide +kernel
theorem dX4_bits_21 : decode cX4_bits 21 = .ok (.bipush 6, 2) := by decide +kernel
theorem dX4_bits_23 : decode cX4_bits 23 = .ok (.if_icmp .le 6, 3) := by decide +kernel
theorem dX4_bits_26 : decode cX4_bits 26 = .ok (.bipush (-2), 2) := by decide +kernel
theorem dX4_bits_28 : decode cX4_bits 28 = .ok (.ireturn, 1) := by decide +kernel
theorem dX4_bits_29 : decode cX4_bits 29 = .ok (.aload_n 0, 1) := by decide +kernel
theorem dX4_bits_30 : decode cX4_bits 30 = .ok (.getfield 19, 3) := by decide +kernel
theorem dX4_bits_33 : decode cX4_bits 33 = .ok (.aload_n 0, 1) := by decide +kernel
theorem dX4_bits_34 : decode cX4_bits 34 = .ok (.getfield 10, 3) := by decide +kernel
theorem dX4_bits_37 : decode cX4_bits 37 = .ok (.invokevirtual 46, 3) := by decide +kernel
theorem dX4_bits_40 : decode cX4_bits 40 = .ok (.aload_n 3, 1) := by decide +kernel
theorem dX4_bits_41 : decode cX4_bits 41 = .ok (.getfield 62, 3) := by decide +kernel
theorem dX4_bits_44 : decode cX4_bits 44 = .ok (.istore 4, 2) := by decide +kernel
theorem dX4_bits_46 : decode cX4_bits 46 = .ok (.aload_n 3, 1) := by decide +kernel
theorem dX4_bits_47 : decode cX4_bits 47 = .ok (.iload_n 2, 1) := by decide +kernel
theorem dX4_bits_48 : decode cX4_bits 48 = .ok (.invokevirtual 65, 3) := by decide +kernel
theorem dX4_bits_51 : decode cX4_bits 51 = .ok (.iload 4, 2) := by decide +kernel
theorem dX4_bits_53 : decode cX4_bits 53 = .ok (.ireturn, 1) := by decide +kernel
set_option maxRecDepth 20000 in
theorem ggX4_add_X3_sketchAt : GoodIn wsX4_add wsX3_sketchAt := goodIn_r _ [7, 8, 103, 104] (by decide +kernel) (by decide +kernel)
set_option maxRecDepth 20000 in
theorem gX4_add_X3_sketchAt : GoodIn wsX4_add (wsV RX4 58 RX3 yX3_sketchAt wsX3_sketchAt) := goodIn_app (goodIn_of _ (by decide +kernel)) ggX4_add_X3_sketchAt
set_option maxRecDepth 20000 in
theorem ggX4_add_X4_isThing : GoodIn wsX4_add wsX4_isThing := goodIn_r _ [12, 13] (by decide +kernel) (by decide +kernel)
set_option maxRecDepth 20000 in
theorem gX4_add_X4_isThing : GoodIn wsX4_add (va_wsS RX4 68 yX4_isThing wsX4_isThing) := goodIn_app (goodIn_of _ (by decide +kernel)) ggX4_add_X4_isThing
set_option maxRecDepth 20000 in
theorem ggX4_add_X0_record : GoodIn wsX4_add wsX0_record := goodIn_r _ [18, 19, 20, 21, 22, 23, 24, 25, 26, 27, 28, 6, 29, 30, 8, 31, 32, 33, 34, 35, 36, 37, 38, 39, 40, 41, 42, 43, 44, 105, 106, 107, 103, 104, 108, 109, 110, 111, 112] (by decide +kernel) (by decide +kernel)
set_option maxRecDepth 20000 in
theorem gX4_add_X0_record : GoodIn wsX4_add (wsV RX4 46 RX0 yX0_record wsX0_record) := goodIn_app (goodIn_of _ (by decide +kernel)) ggX4_add_X0_record
set_option maxRecDepth 20000 in
theorem ggX4_add_X4_takeThings : GoodIn wsX4_add wsX4_takeThings := goodIn_r _ [48, 1, 49, 50, 11, 51, 52, 53, 54, 55, 56, 34, 57, 58, 59, 60, 61, 62, 63, 64, 65, 36, 66, 67, 68, 69, 70, 71, 72, 73, 74, 75, 76, 77, 78, 79, 80, 37, 81, 82, 83, 84, 85, 86, 87, 88, 44, 43, 42, 89, 90, 91, 92, 93, 94, 95, 96, 97, 98, 99, 100, 101, 102, 103, 104, 108, 109, 110, 111, 112] (by decide +kernel) (by decide +kernel)
set_option maxRecDepth 20000 in
theorem gX4_add_X4_takeThings : GoodIn wsX4_add (wsV RX4 72 RX4 yX4_takeThings wsX4_takeThings) := goodIn_app (goodIn_of _ (by decide +kernel)) ggX4_add_X4_takeThings
theorem dX4_add_0 : decode cX4_add 0 = .ok (.aload_n 0, 1) := by decide +kernel
theorem dX4_add_1 : decode cX4_add 1 = .ok (.getfield 10, 3) := by decide +kernel
theorem dX4_add_4 : decode cX4_add 4 = .ok (.iload_n 1, 1) := by decide +kernel
theorem dX4_add_5 : decode cX4_add 5 = .ok (.invokevirtual 58, 3) := by decide +kernel
theorem dX4_add_8 : decode cX4_add 8 = .ok (.astore_n 3, 1) := by decide +kernel
theorem dX4_add_9 : decode cX4_add 9 = .ok (.aload_n 3, 1) := by decide +kernel
theorem dX4_add_10 : decode cX4_add 10 = .ok (.ifnonnull 5, 3) := by decide +kernel
theorem dX4_add_13 : decode cX4_add 13 = .ok (.iconst (-1), 1) := by decide +kernel
theorem dX4_add_14 : decode cX4_add 14 = .ok (.ireturn, 1) := by decide +kernel
theorem dX4_add_15 : decode cX4_add 15 = .ok (.iload_n 2, 1) := by decide +kernel
theorem dX4_add_16 : decode cX4_add 16 = .ok (.invokestatic 68, 3) := by decide +kernel
theorem dX4_add_19 : decode cX4_add 19 = .ok (.ifCond .ne 6, 3) := by decide +kernel
theorem dX4_add_22 : decode cX4_add 22 = .ok (.bipush (-2), 2) := by decide +kernel
theorem dX4_add_24 : decode cX4_add 24 = .ok (.ireturn, 1) := by decide +kernel
theorem dX4_add_25 : decode cX4_add 25 = .ok (.aload_n 0, 1) := by decide +kernel
theorem dX4_add_26 : decode cX4_add 26 = .ok (.getfield 19, 3) := by decide +kernel
theorem dX4_add_29 : decode cX4_add 29 = .ok (.aload_n 0, 1) := by decide +kernel
theorem dX4_add_30 : decode cX4_add 30 = .ok (.getfield 10, 3) := by decide +kernel
theorem dX4_add_33 : decode cX4_add 33 = .ok (.invokevirtual 46, 3) := by decide +kernel
theorem dX4_add_36 : decode cX4_add 36 = .ok (.aload_n 0, 1) := by decide +kernel
theorem dX4_add_37 : decode cX4_add 37 = .ok (.aload_n 3, 1) := by decide +kernel
theorem dX4_add_38 : decode cX4_add 38 = .ok (.iload_n 2, 1) := by decide +kernel
theorem dX4_add_39 : decode cX4_add 39 = .ok (.iconst 1, 1) := by decide +kernel
theorem dX4_add_40 : decode cX4_add 40 = .ok (.invokevirtual 72, 3) := by decide +kernel
theorem dX4_add_43 : decode cX4_add 43 = .ok (.ireturn, 1) := by decide +kernel
set_option maxRecDepth 20000 in
theorem ggX4_addRange_X3_sketchAt : GoodIn wsX4_addRange wsX3_sketchAt := goodIn_r _ [7, 8, 106, 107] (by decide +kernel) (by decide +kernel)
set_option maxRecDepth 20000 in
theorem gX4_addRange_X3_sketchAt : GoodIn wsX4_addRange (wsV RX4 58 RX3 yX3_sketchAt wsX3_sketchAt) := goodIn_app (goodIn_of _ (by decide +kernel)) ggX4_addRange_X3_sketchAt
set_option maxRecDepth 20000 in
theorem ggX4_addRange_X4_isRange : GoodIn wsX4_addRange wsX4_isRange := goodIn_r _ [12, 13, 14, 15, 11, 16] (by decide +kernel) (by decide +kernel)
set_option maxRecDepth 20000 in
theorem gX4_addRange_X4_isRange : GoodIn wsX4_addRange (va_wsS RX4 76 yX4_isRange wsX4_isRange) := goodIn_app (goodIn_of _ (by decide +kernel)) ggX4_addRange_X4_isRange
set_option maxRecDepth 20000 in
theorem ggX4_addRange_X0_record : GoodIn wsX4_addRange wsX0_record := goodIn_r _ [21, 22, 23, 24, 25, 26, 27, 28, 29, 30, 31, 6, 32, 33, 8, 34, 35, 36, 37, 38, 39, 40, 41, 42, 43, 44, 45, 46, 47, 108, 109, 110, 106, 107, 111, 112, 113, 114, 115] (by decide +kernel) (by decide +kernel)
set_option maxRecDepth 20000 in
theorem gX4_addRange_X0_record : GoodIn wsX4_addRange (wsV RX4 46 RX0 yX0_record wsX0_record) := goodIn_app (goodIn_of _ (by decide +kernel)) ggX4_addRange_X0_record
set_option maxRecDepth 20000 in
theorem ggX4_addRange_X4_takeThings : GoodIn wsX4_addRange wsX4_takeThings := goodIn_r _ [51, 1, 52, 53, 11, 54, 55, 56, 57, 58, 59, 37, 60, 61, 62, 63, 64, 65, 66, 67, 68, 39, 69, 70, 71, 72, 73, 74, 75, 76, 77, 78, 79, 80, 81, 82, 83, 40, 84, 85, 86, 87, 88, 89, 90, 91, 47, 46, 45, 92, 93, 94, 95, 96, 97, 98, 99, 100, 101, 102, 103, 104, 105, 106, 107, 111, 112, 113, 114, 115] (by decide +kernel) (by decide +kernel)
set_option maxRecDepth 20000 in
theorem gX4_addRange_X4_takeThings : GoodIn wsX4_addRange (wsV RX4 72 RX4 yX4_takeThings wsX4_takeThings) := goodIn_app (goodIn_of _ (by decide +kernel)) ggX4_addRange_X4_takeThings
theorem dX4_addRange_0 : decode cX4_addRange 0 = .ok (.aload_n 0, 1) := by decide +kernel
theorem dX4_addRange_1 : decode cX4_addRange 1 = .ok (.getfield 10, 3) := by decide +kernel
theorem dX4_addRange_4 : decode cX4_addRange 4 = .ok (.iload_n 1, 1) := by decide +kernel
theorem dX4_addRange_5 : decode cX4_addRange 5 = .ok (.invokevirtual 58, 3) := by decide +kernel
theorem dX4_addRange_8 : decode cX4_addRange 8 = .ok (.astore 4, 2) := by decide +kernel
theorem dX4_addRange_10 : decode cX4_addRange 10 = .ok (.aload 4, 2) := by decide +kernel
theorem dX4_addRange_12 : decode cX4_addRange 12 = .ok (.ifnonnull 5, 3) := by decide +kernel
theorem dX4_addRange_15 : decode cX4_addRange 15 = .ok (.iconst (-1), 1) := by decide +kernel
theorem dX4_addRange_16 : decode cX4_addRange 16 = .ok (.ireturn, 1) := by decide +kernel
theorem dX4_addRange_17 : decode cX4_addRange 17 = .ok (.iload_n 2, 1) := by decide +kernel
theorem dX4_addRange_18 : decode cX4_addRange 18 = .ok (.iload_n 3, 1) := by decide +kernel
theorem dX4_addRange_19 : decode cX4_addRange 19 = .ok (.invokestatic 76, 3) := by decide +kernel
theorem dX4_addRange_22 : decode cX4_addRange 22 = .ok (.ifCond .ne 6, 3) := by decide +kernel
theorem dX4_addRange_25 : decode cX4_addRange 25 = .ok (.bipush (-2), 2) := by decide +kernel
theorem dX4_addRange_27 : decode cX4_addRange 27 = .ok (.ireturn, 1) := by decide +kernel
theorem dX4_addRange_28 : decode cX4_addRange 28 = .ok (.aload_n 0, 1) := by decide +kernel
theorem dX4_addRange_29 : decode cX4_addRange 29 = .ok (.getfield 19, 3) := by decide +kernel
theorem dX4_addRange_32 : decode cX4_addRange 32 = .ok (.aload_n 0, 1) := by decide +kernel
theorem dX4_addRange_33 : decode cX4_addRange 33 = .ok (.getfield 10, 3) := by decide +kernel
theorem dX4_addRange_36 : decode cX4_addRange 36 = .ok (.invokevirtual 46, 3) := by decide +kernel
theorem dX4_addRange_39 : decode cX4_addRange 39 = .ok (.aload_n 0, 1) := by decide +kernel
theorem dX4_addRange_40 : decode cX4_addRange 40 = .ok (.aload 4, 2) := by decide +kernel
theorem dX4_addRange_42 : decode cX4_addRange 42 = .ok (.iload_n 2, 1) := by decide +kernel
theorem dX4_addRange_43 : decode cX4_addRange 43 = .ok (.iload_n 3, 1) := by decide +kernel
theorem dX4_addRange_44 : decode cX4_addRange 44 = .ok (.invokevirtual 72, 3) := by decide +kernel
theorem dX4_addRange_47 : decode cX4_addRange 47 = .ok (.ireturn, 1) := by decide +kernel
set_option maxRecDepth 20000 in
theorem ggX4_join_X3_sketchAt : GoodIn wsX4_join wsX3_sketchAt := goodIn_r _ [7, 8, 122, 123] (by decide +kernel) (by decide +kernel)
set_option maxRecDepth 20000 in
theorem gX4_join_X3_sketchAt : GoodIn wsX4_join (wsV RX4 58 RX3 yX3_sketchAt wsX3_sketchAt) := goodIn_app (goodIn_of _ (by decide +kernel)) ggX4_join_X3_sketchAt
set_option maxRecDepth 20000 in
theorem ggX4_join_X4_areToJoin : GoodIn wsX4_join wsX4_areToJoin := goodIn_r _ [12, 124, 125, 126, 127, 128] (by decide +kernel) (by decide +kernel)
set_option maxRecDepth 20000 in
theorem gX4_join_X4_areToJoin : GoodIn wsX4_join (va_wsS RX4 80 yX4_areToJoin wsX4_areToJoin) := goodIn_app (goodIn_of _ (by decide +kernel)) ggX4_join_X4_areToJoin
set_option maxRecDepth 20000 in
theorem ggX4_join_X0_record : GoodIn wsX4_join wsX0_record := goodIn_r _ [17, 18, 19, 20, 21, 22, 23, 24, 25, 26, 27, 6, 28, 29, 8, 30, 31, 32, 33, 34, 35, 36, 37, 38, 39, 40, 41, 42, 43, 129, 130, 131, 122, 123, 124, 125, 126, 127, 128] (by decide +kernel) (by decide +kernel)
set_option maxRecDepth 20000 in
theorem gX4_join_X0_record : GoodIn wsX4_join (wsV RX4 46 RX0 yX0_record wsX0_record) := goodIn_app (goodIn_of _ (by decide +kernel)) ggX4_join_X0_record
set_option maxRecDepth 20000 in
theorem ggX4_join_X2_takeAll : GoodIn wsX4_join wsX2_takeAll := goodIn_r _ [47, 43, 42, 48, 49, 50, 33, 51, 35, 52, 53, 54, 55, 36, 56, 57, 58, 59, 60, 61, 62, 63, 64, 65, 66, 67, 68, 69, 70, 71, 41, 72, 73, 74, 75, 76, 77, 78, 79, 80, 81, 82, 83, 124, 125, 126, 127, 128] (by decide +kernel) (by decide +kernel)
set_option maxRecDepth 20000 in
theorem gX4_join_X2_takeAll : GoodIn wsX4_join (wsV RX4 84 RX2 yX2_takeAll wsX2_takeAll) := goodIn_app (goodIn_of _ (by decide +kernel)) ggX4_join_X2_takeAll
set_option maxRecDepth 20000 in
theorem ggX4_join_X2_estimate : GoodIn wsX4_join wsX2_estimate := goodIn_r _ [87, 88, 89, 90, 33, 91, 92, 93, 94, 95, 96, 97, 98, 99, 48, 49, 50, 51, 35, 52, 53, 54, 55, 36, 56, 57, 58, 59, 100, 101, 102, 103, 104, 105, 106, 107, 108, 109, 110, 111, 112, 113, 114, 115, 124, 125, 126, 127, 128] (by decide +kernel) (by decide +kernel)
set_option maxRecDepth 20000 in
theorem gX4_join_X2_estimate : GoodIn wsX4_join (wsV RX4 88 RX2 yX2_estimate wsX2_estimate) := goodIn_app (goodIn_of _ (by decide +kernel)) ggX4_join_X2_estimate
theorem dX4_join_0 : decode cX4_join 0 = .ok (.aload_n 0, 1) := by decide +kernel
theorem dX4_join_1 : decode cX4_join 1 = .ok (.getfield 10, 3) := by decide +kernel
theorem dX4_join_4 : decode cX4_join 4 = .ok (.iload_n 1, 1) := by decide +kernel
theorem dX4_join_5 : decode cX4_join 5 = .ok (.invokevirtual 58, 3) := by decide +kernel
theorem dX4_join_8 : decode cX4_join 8 = .ok (.astore_n 3, 1) := by decide +kernel
theorem dX4_join_9 : decode cX4_join 9 = .ok (.aload_n 0, 1) := by decide +kernel
theorem dX4_join_10 : decode cX4_join 10 = .ok (.getfield 10, 3) := by decide +kernel
theorem dX4_join_13 : decode cX4_join 13 = .ok (.iload_n 2, 1) := by decide +kernel
theorem dX4_join_14 : decode cX4_join 14 = .ok (.invokevirtual 58, 3) := by decide +kernel
theorem dX4_join_17 : decode cX4_join 17 = .ok (.astore 4, 2) := by decide +kernel
theorem dX4_join_19 : decode cX4_join 19 = .ok (.aload_n 3, 1) := by decide +kernel
theorem dX4_join_20 : decode cX4_join 20 = .ok (.ifnull 8, 3) := by decide +kernel
theorem dX4_join_23 : decode cX4_join 23 = .ok (.aload 4, 2) := by decide +kernel
theorem dX4_join_25 : decode cX4_join 25 = .ok (.ifnonnull 5, 3) := by decide +kernel
theorem dX4_join_28 : decode cX4_join 28 = .ok (.iconst (-1), 1) := by decide +kernel
theorem dX4_join_29 : decode cX4_join 29 = .ok (.ireturn, 1) := by decide +kernel
theorem dX4_join_30 : decode cX4_join 30 = .ok (.aload_n 3, 1) := by decide +kernel
theorem dX4_join_31 : decode cX4_join 31 = .ok (.aload 4, 2) := by decide +kernel
theorem dX4_join_33 : decode cX4_join 33 = .ok (.invokestatic 80, 3) := by decide +kernel
theorem dX4_join_36 : decode cX4_join 36 = .ok (.ifCond .ne 6, 3) := by decide +kernel
theorem dX4_join_39 : decode cX4_join 39 = .ok (.bipush (-5), 2) := by decide +kernel
theorem dX4_join_41 : decode cX4_join 41 = .ok (.ireturn, 1) := by decide +kernel
theorem dX4_join_42 : decode cX4_join 42 = .ok (.aload_n 0, 1) := by decide +kernel
theorem dX4_join_43 : decode cX4_join 43 = .ok (.getfield 19, 3) := by decide +kernel
theorem dX4_join_46 : decode cX4_join 46 = .ok (.aload_n 0, 1) := by decide +kernel
theorem dX4_join_47 : decode cX4_join 47 = .ok (.getfield 10, 3) := by decide +kernel
theorem dX4_join_50 : decode cX4_join 50 = .ok (.invokevirtual 46, 3) := by decide +kernel
theorem dX4_join_53 : decode cX4_join 53 = .ok (.aload_n 3, 1) := by decide +kernel
theorem dX4_join_54 : decode cX4_join 54 = .ok (.aload 4, 2) := by decide +kernel
theorem dX4_join_56 : decode cX4_join 56 = .ok (.invokevirtual 84, 3) := by decide +kernel
theorem dX4_join_59 : decode cX4_join 59 = .ok (.aload_n 3, 1) := by decide +kernel
theorem dX4_join_60 : decode cX4_join 60 = .ok (.invokevirtual 88, 3) := by decide +kernel
theorem dX4_join_63 : decode cX4_join 63 = .ok (.ireturn, 1) := by decide +kernel
set_option maxRecDepth 20000 in
theorem ggX4_fold_X3_sketchAt : GoodIn wsX4_fold wsX3_sketchAt := goodIn_r _ [7, 8, 71, 72] (by decide +kernel) (by decide +kernel)
set_option maxRecDepth 20000 in
theorem gX4_fold_X3_sketchAt : GoodIn wsX4_fold (wsV RX4 58 RX3 yX3_sketchAt wsX3_sketchAt) := goodIn_app (goodIn_of _ (by decide +kernel)) ggX4_fold_X3_sketchAt
set_option maxRecDepth 20000 in
theorem ggX4_fold_X4_isToFold : GoodIn wsX4_fold wsX4_isToFold := goodIn_r _ [12, 73, 74, 75, 76, 77] (by decide +kernel) (by decide +kernel)
set_option maxRecDepth 20000 in
theorem gX4_fold_X4_isToFold : GoodIn wsX4_fold (va_wsS RX4 92 yX4_isToFold wsX4_isToFold) := goodIn_app (goodIn_of _ (by decide +kernel)) ggX4_fold_X4_isToFold
set_option maxRecDepth 20000 in
theorem ggX4_fold_X0_record : GoodIn wsX4_fold wsX0_record := goodIn_r _ [17, 18, 19, 20, 21, 22, 23, 24, 25, 26, 27, 6, 28, 29, 8, 30, 31, 32, 33, 34, 35, 36, 37, 38, 39, 40, 41, 42, 43, 78, 79, 80, 71, 72, 73, 74, 75, 76, 77] (by decide +kernel) (by decide +kernel)
set_option maxRecDepth 20000 in
theorem gX4_fold_X0_record : GoodIn wsX4_fold (wsV RX4 46 RX0 yX0_record wsX0_record) := goodIn_app (goodIn_of _ (by decide +kernel)) ggX4_fold_X0_record
set_option maxRecDepth 20000 in
theorem ggX4_fold_X2_halve : GoodIn wsX4_fold wsX2_halve := goodIn_r _ [47, 36, 48, 49, 50, 51, 35, 52, 53, 54, 33, 55, 56, 57, 58, 59, 60, 61, 62, 63, 73, 74, 75, 76, 77] (by decide +kernel) (by decide +kernel)
set_option maxRecDepth 20000 in
theorem gX4_fold_X2_halve : GoodIn wsX4_fold (wsV RX4 96 RX2 yX2_halve wsX2_halve) := goodIn_app (goodIn_of _ (by decide +kernel)) ggX4_fold_X2_halve
set_option maxRecDepth 20000 in
theorem ggX4_fold_X2_buckets : GoodIn wsX4_fold wsX2_buckets := goodIn_r _ [55, 35, 73, 74, 75, 76, 77] (by decide +kernel) (by decide +kernel)
set_option maxRecDepth 20000 in
theorem gX4_fold_X2_buckets : GoodIn wsX4_fold (wsV RX4 99 RX2 yX2_buckets wsX2_buckets) := goodIn_app (goodIn_of _ (by decide +kernel)) ggX4_fold_X2_buckets
theorem dX4_fold_0 : decode cX4_fold 0 = .ok (.aload_n 0, 1) := by decide +kernel
theorem dX4_fold_1 : decode cX4_fold 1 = .ok (.getfield 10, 3) := by decide +kernel
theorem dX4_fold_4 : decode cX4_fold 4 = .ok (.iload_n 1, 1) := by decide +kernel
theorem dX4_fold_5 : decode cX4_fold 5 = .ok (.invokevirtual 58, 3) := by decide +kernel
theorem dX4_fold_8 : decode cX4_fold 8 = .ok (.astore_n 2, 1) := by decide +kernel
theorem dX4_fold_9 : decode cX4_fold 9 = .ok (.aload_n 2, 1) := by decide +kernel
theorem dX4_fold_10 : decode cX4_fold 10 = .ok (.ifnonnull 5, 3) := by decide +kernel
theorem dX4_fold_13 : decode cX4_fold 13 = .ok (.iconst (-1), 1) := by decide +kernel
theorem dX4_fold_14 : decode cX4_fold 14 = .ok (.ireturn, 1) := by decide +kernel
theorem dX4_fold_15 : decode cX4_fold 15 = .ok (.aload_n 2, 1) := by decide +kernel
theorem dX4_fold_16 : decode cX4_fold 16 = .ok (.invokestatic 92, 3) := by decide +kernel
theorem dX4_fold_19 : decode cX4_fold 19 = .ok (.ifCond .ne 6, 3) := by decide +kernel
theorem dX4_fold_22 : decode cX4_fold 22 = .ok (.bipush (-5), 2) := by decide +kernel
theorem dX4_fold_24 : decode cX4_fold 24 = .ok (.ireturn, 1) := by decide +kernel
theorem dX4_fold_25 : decode cX4_fold 25 = .ok (.aload_n 0, 1) := by decide +kernel
theorem dX4_fold_26 : decode cX4_fold 26 = .ok (.getfield 19, 3) := by decide +kernel
theorem dX4_fold_29 : decode cX4_fold 29 = .ok (.aload_n 0, 1) := by decide +kernel
theorem dX4_fold_30 : decode cX4_fold 30 = .ok (.getfield 10, 3) := by decide +kernel
theorem dX4_fold_33 : decode cX4_fold 33 = .ok (.invokevirtual 46, 3) := by decide +kernel
theorem dX4_fold_36 : decode cX4_fold 36 = .ok (.aload_n 2, 1) := by decide +kernel
theorem dX4_fold_37 : decode cX4_fold 37 = .ok (.invokevirtual 96, 3) := by decide +kernel
theorem dX4_fold_40 : decode cX4_fold 40 = .ok (.aload_n 2, 1) := by decide +kernel
theorem dX4_fold_41 : decode cX4_fold 41 = .ok (.invokevirtual 99, 3) := by decide +kernel
theorem dX4_fold_44 : decode cX4_fold 44 = .ok (.ireturn, 1) := by decide +kernel
set_option maxRecDepth 20000 in
theorem ggX4_empty_X3_sketchAt : GoodIn wsX4_empty wsX3_sketchAt := goodIn_r _ [7, 8, 75, 76] (by decide +kernel) (by decide +kernel)
set_option maxRecDepth 20000 in
theorem gX4_empty_X3_sketchAt : GoodIn wsX4_empty (wsV RX4 58 RX3 yX3_sketchAt wsX3_sketchAt) := goodIn_app (goodIn_of _ (by decide +kernel)) ggX4_empty_X3_sketchAt
set_option maxRecDepth 20000 in
theorem ggX4_empty_X0_record : GoodIn wsX4_empty wsX0_record := goodIn_r _ [13, 14, 15, 16, 17, 18, 19, 20, 21, 22, 23, 6, 24, 25, 8, 26, 27, 28, 29, 30, 31, 32, 33, 34, 35, 36, 37, 38, 39, 77, 78, 79, 75, 76, 70, 71, 72, 73, 74] (by decide +kernel) (by decide +kernel)
set_option maxRecDepth 20000 in
theorem gX4_empty_X0_record : GoodIn wsX4_empty (wsV RX4 46 RX0 yX0_record wsX0_record) := goodIn_app (goodIn_of _ (by decide +kernel)) ggX4_empty_X0_record
set_option maxRecDepth 20000 in
theorem ggX4_empty_X2_filledBuckets : GoodIn wsX4_empty wsX2_filledBuckets := goodIn_r _ [43, 44, 45, 46, 29, 47, 31, 48, 49, 50, 51, 32, 52, 53, 54, 55, 70, 71, 72, 73, 74] (by decide +kernel) (by decide +kernel)
set_option maxRecDepth 20000 in
theorem gX4_empty_X2_filledBuckets : GoodIn wsX4_empty (wsV RX4 102 RX2 yX2_filledBuckets wsX2_filledBuckets) := goodIn_app (goodIn_of _ (by decide +kernel)) ggX4_empty_X2_filledBuckets
set_option maxRecDepth 20000 in
theorem ggX4_empty_X2_startAgain : GoodIn wsX4_empty wsX2_startAgain := goodIn_r _ [59, 31, 32, 38, 39, 60, 61, 62, 63, 70, 71, 72, 73, 74] (by decide +kernel) (by decide +kernel)
set_option maxRecDepth 20000 in
theorem gX4_empty_X2_startAgain : GoodIn wsX4_empty (wsV RX4 65 RX2 yX2_startAgain wsX2_startAgain) := goodIn_app (goodIn_of _ (by decide +kernel)) ggX4_empty_X2_startAgain
theorem dX4_empty_0 : decode cX4_empty 0 = .ok (.aload_n 0, 1) := by decide +kernel
theorem dX4_empty_1 : decode cX4_empty 1 = .ok (.getfield 10, 3) := by decide +kernel
theorem dX4_empty_4 : decode cX4_empty 4 = .ok (.iload_n 1, 1) := by decide +kernel
theorem dX4_empty_5 : decode cX4_empty 5 = .ok (.invokevirtual 58, 3) := by decide +kernel
theorem dX4_empty_8 : decode cX4_empty 8 = .ok (.astore_n 2, 1) := by decide +kernel
theorem dX4_empty_9 : decode cX4_empty 9 = .ok (.aload_n 2, 1) := by decide +kernel
theorem dX4_empty_10 : decode cX4_empty 10 = .ok (.ifnonnull 5, 3) := by decide +kernel
theorem dX4_empty_13 : decode cX4_empty 13 = .ok (.iconst (-1), 1) := by decide +kernel
theorem dX4_empty_14 : decode cX4_empty 14 = .ok (.ireturn, 1) := by decide +kernel
theorem dX4_empty_15 : decode cX4_empty 15 = .ok (.aload_n 0, 1) := by decide +kernel
theorem dX4_empty_16 : decode cX4_empty 16 = .ok (.getfield 19, 3) := by decide +kernel
theorem dX4_empty_19 : decode cX4_empty 19 = .ok (.aload_n 0, 1) := by decide +kernel
theorem dX4_empty_20 : decode cX4_empty 20 = .ok (.getfield 10, 3) := by decide +kernel
theorem dX4_empty_23 : decode cX4_empty 23 = .ok (.invokevirtual 46, 3) := by decide +kernel
theorem dX4_empty_26 : decode cX4_empty 26 = .ok (.aload_n 2, 1) := by decide +kernel
theorem dX4_empty_27 : decode cX4_empty 27 = .ok (.invokevirtual 102, 3) := by decide +kernel
theorem dX4_empty_30 : decode cX4_empty 30 = .ok (.istore_n 3, 1) := by decide +kernel
theorem dX4_empty_31 : decode cX4_empty 31 = .ok (.aload_n 2, 1) := by decide +kernel
theorem dX4_empty_32 : decode cX4_empty 32 = .ok (.aload_n 2, 1) := by decide +kernel
theorem dX4_empty_33 : decode cX4_empty 33 = .ok (.getfield 62, 3) := by decide +kernel
theorem dX4_empty_36 : decode cX4_empty 36 = .ok (.invokevirtual 65, 3) := by decide +kernel
theorem dX4_empty_39 : decode cX4_empty 39 = .ok (.iload_n 3, 1) := by decide +kernel
theorem dX4_empty_40 : decode cX4_empty 40 = .ok (.ireturn, 1) := by decide +kernel
set_option maxRecDepth 20000 in
theorem ggX4_thing_X3_sketchAt : GoodIn wsX4_thing wsX3_sketchAt := goodIn_r _ [6, 7, 60, 61] (by decide +kernel) (by decide +kernel)
set_option maxRecDepth 20000 in
theorem gX4_thing_X3_sketchAt : GoodIn wsX4_thing (wsV RX4 58 RX3 yX3_sketchAt wsX3_sketchAt) := goodIn_app (goodIn_of _ (by decide +kernel)) ggX4_thing_X3_sketchAt
set_option maxRecDepth 20000 in
theorem ggX4_thing_X4_isThing : GoodIn wsX4_thing wsX4_isThing := goodIn_r _ [11, 12] (by decide +kernel) (by decide +kernel)
set_option maxRecDepth 20000 in
theorem gX4_thing_X4_isThing : GoodIn wsX4_thing (va_wsS RX4 68 yX4_isThing wsX4_isThing) := goodIn_app (goodIn_of _ (by decide +kernel)) ggX4_thing_X4_isThing
set_option maxRecDepth 20000 in
theorem ggX4_thing_X4_hashOf : GoodIn wsX4_thing wsX4_hashOf := goodIn_r _ [15, 16, 17] (by decide +kernel) (by decide +kernel)
set_option maxRecDepth 20000 in
theorem gX4_thing_X4_hashOf : GoodIn wsX4_thing (va_wsS RX4 105 yX4_hashOf wsX4_hashOf) := goodIn_app (goodIn_of _ (by decide +kernel)) ggX4_thing_X4_hashOf
set_option maxRecDepth 20000 in
theorem ggX4_thing_X2_bucketOf : GoodIn wsX4_thing wsX2_bucketOf := goodIn_r _ [22, 23, 24, 25, 21, 26, 27, 62, 63, 64, 65, 66] (by decide +kernel) (by decide +kernel)
set_option maxRecDepth 20000 in
theorem gX4_thing_X2_bucketOf : GoodIn wsX4_thing (wsV RX4 109 RX2 yX2_bucketOf wsX2_bucketOf) := goodIn_app (goodIn_of _ (by decide +kernel)) ggX4_thing_X2_bucketOf
set_option maxRecDepth 20000 in
theorem ggX4_thing_X2_rankOf : GoodIn wsX4_thing wsX2_rankOf := goodIn_r _ [31, 27, 32, 33, 34, 35, 36, 37, 38, 62, 63, 64, 65, 66] (by decide +kernel) (by decide +kernel)
set_option maxRecDepth 20000 in
theorem gX4_thing_X2_rankOf : GoodIn wsX4_thing (wsV RX4 113 RX2 yX2_rankOf wsX2_rankOf) := goodIn_app (goodIn_of _ (by decide +kernel)) ggX4_thing_X2_rankOf
set_option maxRecDepth 20000 in
theorem ggX4_thing_X2_wouldChangeBy : GoodIn wsX4_thing wsX2_wouldChangeBy := goodIn_r _ [42, 43, 29, 30, 21, 31, 27, 32, 33, 34, 35, 36, 37, 38, 44, 19, 20, 22, 23, 24, 25, 26, 45, 46, 47, 48, 49, 50, 51, 52, 53, 62, 63, 64, 65, 66] (by decide +kernel) (by decide +kernel)
set_option maxRecDepth 20000 in
theorem gX4_thing_X2_wouldChangeBy : GoodIn wsX4_thing (wsV RX4 116 RX2 yX2_wouldChangeBy wsX2_wouldChangeBy) := goodIn_app (goodIn_of _ (by decide +kernel)) ggX4_thing_X2_wouldChangeBy
theorem dX4_thing_0 : decode cX4_thing 0 = .ok (.aload_n 0, 1) := by decide +kernel
theorem dX4_thing_1 : decode cX4_thing 1 = .ok (.getfield 10, 3) := by decide +kernel
theorem dX4_thing_4 : decode cX4_thing 4 = .ok (.iload_n 1, 1) := by decide +kernel
theorem dX4_thing_5 : decode cX4_thing 5 = .ok (.invokevirtual 58, 3) := by decide +kernel
theorem dX4_thing_8 : decode cX4_thing 8 = .ok (.astore 4, 2) := by decide +kernel
theorem dX4_thing_10 : decode cX4_thing 10 = .ok (.aload 4, 2) := by decide +kernel
theorem dX4_thing_12 : decode cX4_thing 12 = .ok (.ifnonnull 5, 3) := by decide +kernel
theorem dX4_thing_15 : decode cX4_thing 15 = .ok (.iconst (-1), 1) := by decide +kernel
theorem dX4_thing_16 : decode cX4_thing 16 = .ok (.ireturn, 1) := by decide +kernel
theorem dX4_thing_17 : decode cX4_thing 17 = .ok (.iload_n 2, 1) := by decide +kernel
theorem dX4_thing_18 : decode cX4_thing 18 = .ok (.invokestatic 68, 3) := by decide +kernel
theorem dX4_thing_21 : decode cX4_thing 21 = .ok (.ifCond .ne 6, 3) := by decide +kernel
theorem dX4_thing_24 : decode cX4_thing 24 = .ok (.bipush (-2), 2) := by decide +kernel
theorem dX4_thing_26 : decode cX4_thing 26 = .ok (.ireturn, 1) := by decide +kernel
theorem dX4_thing_27 : decode cX4_thing 27 = .ok (.iload_n 2, 1) := by decide +kernel
theorem dX4_thing_28 : decode cX4_thing 28 = .ok (.aload_n 0, 1) := by decide +kernel
theorem dX4_thing_29 : decode cX4_thing 29 = .ok (.getfield 10, 3) := by decide +kernel
theorem dX4_thing_32 : decode cX4_thing 32 = .ok (.getfield 50, 3) := by decide +kernel
theorem dX4_thing_35 : decode cX4_thing 35 = .ok (.invokestatic 105, 3) := by decide +kernel
theorem dX4_thing_38 : decode cX4_thing 38 = .ok (.istore 5, 2) := by decide +kernel
theorem dX4_thing_40 : decode cX4_thing 40 = .ok (.iload_n 3, 1) := by decide +kernel
theorem dX4_thing_41 : decode cX4_thing 41 = .ok (.tableswitch 66 0 3 #[31, 34, 42, 50], 31) := by decide +kernel
theorem dX4_thing_72 : decode cX4_thing 72 = .ok (.iload 5, 2) := by decide +kernel
theorem dX4_thing_74 : decode cX4_thing 74 = .ok (.ireturn, 1) := by decide +kernel
theorem dX4_thing_75 : decode cX4_thing 75 = .ok (.aload 4, 2) := by decide +kernel
theorem dX4_thing_77 : decode cX4_thing 77 = .ok (.iload 5, 2) := by decide +kernel
theorem dX4_thing_79 : decode cX4_thing 79 = .ok (.invokevirtual 109, 3) := by decide +kernel
theorem dX4_thing_82 : decode cX4_thing 82 = .ok (.ireturn, 1) := by decide +kernel
theorem dX4_thing_83 : decode cX4_thing 83 = .ok (.aload 4, 2) := by decide +kernel
theorem dX4_thing_85 : decode cX4_thing 85 = .ok (.iload 5, 2) := by decide +kernel
theorem dX4_thing_87 : decode cX4_thing 87 = .ok (.invokevirtual 113, 3) := by decide +kernel
theorem dX4_thing_90 : decode cX4_thing 90 = .ok (.ireturn, 1) := by decide +kernel
theorem dX4_thing_91 : decode cX4_thing 91 = .ok (.aload 4, 2) := by decide +kernel
theorem dX4_thing_93 : decode cX4_thing 93 = .ok (.iload 5, 2) := by decide +kernel
theorem dX4_thing_95 : decode cX4_thing 95 = .ok (.invokevirtual 116, 3) := by decide +kernel
theorem dX4_thing_98 : decode cX4_thing 98 = .ok (.ifCond .eq 7, 3) := by decide +kernel
theorem dX4_thing_101 : decode cX4_thing 101 = .ok (.iconst 1, 1) := by decide +kernel
theorem dX4_thing_102 : decode cX4_thing 102 = .ok (.goto 4, 3) := by decide +kernel
theorem dX4_thing_105 : decode cX4_thing 105 = .ok (.iconst 0, 1) := by decide +kernel
theorem dX4_thing_106 : decode cX4_thing 106 = .ok (.ireturn, 1) := by decide +kernel
theorem dX4_thing_107 : decode cX4_thing 107 = .ok (.bipush (-2), 2) := by decide +kernel
theorem dX4_thing_109 : decode cX4_thing 109 = .ok (.ireturn, 1) := by decide +kernel
set_option maxRecDepth 20000 in
theorem ggX4_bucket_X3_sketchAt : GoodIn wsX4_bucket wsX3_sketchAt := goodIn_r _ [6, 7, 26, 27] (by decide +kernel) (by decide +kernel)
set_option maxRecDepth 20000 in
theorem gX4_bucket_X3_sketchAt : GoodIn wsX4_bucket (wsV RX4 58 RX3 yX3_sketchAt wsX3_sketchAt) := goodIn_app (goodIn_of _ (by decide +kernel)) ggX4_bucket_X3_sketchAt
set_option maxRecDepth 20000 in
theorem ggX4_bucket_X2_hasBucket : GoodIn wsX4_bucket wsX2_hasBucket := goodIn_r _ [12, 13, 14, 28, 29, 30, 31, 32] (by decide +kernel) (by decide +kernel)
set_option maxRecDepth 20000 in
theorem gX4_bucket_X2_hasBucket : GoodIn wsX4_bucket (wsV RX4 119 RX2 yX2_hasBucket wsX2_hasBucket) := goodIn_app (goodIn_of _ (by decide +kernel)) ggX4_bucket_X2_hasBucket
set_option maxRecDepth 20000 in
theorem ggX4_bucket_X2_rankIn : GoodIn wsX4_bucket wsX2_rankIn := goodIn_r _ [18, 14, 19, 9, 10, 11, 12, 13, 28, 29, 30, 31, 32] (by decide +kernel) (by decide +kernel)
set_option maxRecDepth 20000 in
theorem gX4_bucket_X2_rankIn : GoodIn wsX4_bucket (wsV RX4 122 RX2 yX2_rankIn wsX2_rankIn) := goodIn_app (goodIn_of _ (by decide +kernel)) ggX4_bucket_X2_rankIn
theorem dX4_bucket_0 : decode cX4_bucket 0 = .ok (.aload_n 0, 1) := by decide +kernel
theorem dX4_bucket_1 : decode cX4_bucket 1 = .ok (.getfield 10, 3) := by decide +kernel
theorem dX4_bucket_4 : decode cX4_bucket 4 = .ok (.iload_n 1, 1) := by decide +kernel
theorem dX4_bucket_5 : decode cX4_bucket 5 = .ok (.invokevirtual 58, 3) := by decide +kernel
theorem dX4_bucket_8 : decode cX4_bucket 8 = .ok (.astore_n 3, 1) := by decide +kernel
theorem dX4_bucket_9 : decode cX4_bucket 9 = .ok (.aload_n 3, 1) := by decide +kernel
theorem dX4_bucket_10 : decode cX4_bucket 10 = .ok (.ifnull 11, 3) := by decide +kernel
theorem dX4_bucket_13 : decode cX4_bucket 13 = .ok (.aload_n 3, 1) := by decide +kernel
theorem dX4_bucket_14 : decode cX4_bucket 14 = .ok (.iload_n 2, 1) := by decide +kernel
theorem dX4_bucket_15 : decode cX4_bucket 15 = .ok (.invokevirtual 119, 3) := by decide +kernel
theorem dX4_bucket_18 : decode cX4_bucket 18 = .ok (.ifCond .ne 5, 3) := by decide +kernel
theorem dX4_bucket_21 : decode cX4_bucket 21 = .ok (.iconst (-1), 1) := by decide +kernel
theorem dX4_bucket_22 : decode cX4_bucket 22 = .ok (.ireturn, 1) := by decide +kernel
theorem dX4_bucket_23 : decode cX4_bucket 23 = .ok (.aload_n 3, 1) := by decide +kernel
theorem dX4_bucket_24 : decode cX4_bucket 24 = .ok (.iload_n 2, 1) := by decide +kernel
theorem dX4_bucket_25 : decode cX4_bucket 25 = .ok (.invokevirtual 122, 3) := by decide +kernel
theorem dX4_bucket_28 : decode cX4_bucket 28 = .ok (.ireturn, 1) := by decide +kernel
set_option maxRecDepth 20000 in
theorem ggX4_ofSketch_X3_sketchAt : GoodIn wsX4_ofSketch wsX3_sketchAt := goodIn_r _ [6, 7, 85, 86] (by decide +kernel) (by decide +kernel)
set_option maxRecDepth 20000 in
theorem gX4_ofSketch_X3_sketchAt : GoodIn wsX4_ofSketch (wsV RX4 58 RX3 yX3_sketchAt wsX3_sketchAt) := goodIn_app (goodIn_of _ (by decide +kernel)) ggX4_ofSketch_X3_sketchAt
set_option maxRecDepth 20000 in
theorem ggX4_ofSketch_X2_buckets : GoodIn wsX4_ofSketch wsX2_buckets := goodIn_r _ [12, 13, 80, 81, 82, 83, 84] (by decide +kernel) (by decide +kernel)
set_option maxRecDepth 20000 in
theorem gX4_ofSketch_X2_buckets : GoodIn wsX4_ofSketch (wsV RX4 99 RX2 yX2_buckets wsX2_buckets) := goodIn_app (goodIn_of _ (by decide +kernel)) ggX4_ofSketch_X2_buckets
set_option maxRecDepth 20000 in
theorem ggX4_ofSketch_X2_emptyBuckets : GoodIn wsX4_ofSketch wsX2_emptyBuckets := goodIn_r _ [17, 18, 9, 10, 11, 12, 13, 19, 20, 21, 22, 23, 24, 25, 26, 27, 28, 29, 30, 31, 80, 81, 82, 83, 84] (by decide +kernel) (by decide +kernel)
set_option maxRecDepth 20000 in
theorem gX4_ofSketch_X2_emptyBuckets : GoodIn wsX4_ofSketch (wsV RX4 125 RX2 yX2_emptyBuckets wsX2_emptyBuckets) := goodIn_app (goodIn_of _ (by decide +kernel)) ggX4_ofSketch_X2_emptyBuckets
set_option maxRecDepth 20000 in
theorem ggX4_ofSketch_X2_greatestRank : GoodIn wsX4_ofSketch wsX2_greatestRank := goodIn_r _ [35, 36, 37, 38, 39, 18, 9, 10, 11, 12, 13, 23, 24, 25, 26, 27, 28, 29, 30, 31, 80, 81, 82, 83, 84] (by decide +kernel) (by decide +kernel)
set_option maxRecDepth 20000 in
theorem gX4_ofSketch_X2_greatestRank : GoodIn wsX4_ofSketch (wsV RX4 128 RX2 yX2_greatestRank wsX2_greatestRank) := goodIn_app (goodIn_of _ (by decide +kernel)) ggX4_ofSketch_X2_greatestRank
set_option maxRecDepth 20000 in
theorem ggX4_ofSketch_X2_rankSum : GoodIn wsX4_ofSketch wsX2_rankSum := goodIn_r _ [43, 44, 18, 9, 10, 11, 12, 13, 23, 24, 25, 26, 27, 28, 29, 30, 31, 80, 81, 82, 83, 84] (by decide +kernel) (by decide +kernel)
set_option maxRecDepth 20000 in
theorem gX4_ofSketch_X2_rankSum : GoodIn wsX4_ofSketch (wsV RX4 131 RX2 yX2_rankSum wsX2_rankSum) := goodIn_app (goodIn_of _ (by decide +kernel)) ggX4_ofSketch_X2_rankSum
set_option maxRecDepth 20000 in
theorem ggX4_ofSketch_X2_rawEstimate : GoodIn wsX4_ofSketch wsX2_rawEstimate := goodIn_r _ [48, 49, 50, 51, 52, 41, 42, 11, 43, 44, 18, 9, 10, 12, 13, 23, 24, 25, 26, 27, 28, 29, 30, 31, 80, 81, 82, 83, 84] (by decide +kernel) (by decide +kernel)
set_option maxRecDepth 20000 in
theorem gX4_ofSketch_X2_rawEstimate : GoodIn wsX4_ofSketch (wsV RX4 134 RX2 yX2_rawEstimate wsX2_rawEstimate) := goodIn_app (goodIn_of _ (by decide +kernel)) ggX4_ofSketch_X2_rawEstimate
set_option maxRecDepth 20000 in
theorem ggX4_ofSketch_X2_estimate : GoodIn wsX4_ofSketch wsX2_estimate := goodIn_r _ [56, 57, 46, 47, 11, 48, 49, 50, 51, 52, 41, 42, 43, 44, 18, 9, 10, 12, 13, 23, 24, 25, 26, 27, 28, 29, 30, 31, 58, 15, 16, 17, 19, 20, 21, 22, 59, 60, 61, 62, 36, 37, 38, 39, 80, 81, 82, 83, 84] (by decide +kernel) (by decide +kernel)
set_option maxRecDepth 20000 in
theorem gX4_ofSketch_X2_estimate : GoodIn wsX4_ofSketch (wsV RX4 88 RX2 yX2_estimate wsX2_estimate) := goodIn_app (goodIn_of _ (by decide +kernel)) ggX4_ofSketch_X2_estimate
set_option maxRecDepth 20000 in
theorem ggX4_ofSketch_X2_toldError : GoodIn wsX4_ofSketch wsX2_toldError := goodIn_r _ [66, 67, 68, 69, 70, 71, 11, 72, 18, 9, 10, 12, 13, 73, 54, 55, 56, 57, 46, 47, 48, 49, 50, 51, 52, 41, 42, 43, 44, 23, 24, 25, 26, 27, 28, 29, 30, 31, 58, 15, 16, 17, 19, 20, 21, 22, 59, 60, 61, 62, 36, 37, 38, 39, 80, 81, 82, 83, 84] (by decide +kernel) (by decide +kernel)
set_option maxRecDepth 20000 in
theorem gX4_ofSketch_X2_toldError : GoodIn wsX4_ofSketch (wsV RX4 137 RX2 yX2_toldError wsX2_toldError) := goodIn_app (goodIn_of _ (by decide +kernel)) ggX4_ofSketch_X2_toldError
theorem dX4_ofSketch_0 : decode cX4_ofSketch 0 = .ok (.aload_n 0, 1) := by decide +kernel
theorem dX4_ofSketch_1 : decode cX4_ofSketch 1 = .ok (.getfield 10, 3) := by decide +kernel
theorem dX4_ofSketch_4 : decode cX4_ofSketch 4 = .ok (.iload_n 1, 1) := by decide +kernel
theorem dX4_ofSketch_5 : decode cX4_ofSketch 5 = .ok (.invokevirtual 58, 3) := by decide +kernel
theorem dX4_ofSketch_8 : decode cX4_ofSketch 8 = .ok (.astore_n 3, 1) := by decide +kernel
theorem dX4_ofSketch_9 : decode cX4_ofSketch 9 = .ok (.aload_n 3, 1) := by decide +kernel
theorem dX4_ofSketch_10 : decode cX4_ofSketch 10 = .ok (.ifnonnull 5, 3) := by decide +kernel
theorem dX4_ofSketch_13 : decode cX4_ofSketch 13 = .ok (.iconst (-1), 1) := by decide +kernel
theorem dX4_ofSketch_14 : decode cX4_ofSketch 14 = .ok (.ireturn, 1) := by decide +kernel
theorem dX4_ofSketch_15 : decode cX4_ofSketch 15 = .ok (.iload_n 2, 1) := by decide +kernel
theorem dX4_ofSketch_16 : decode cX4_ofSketch 16 = .ok (.tableswitch 109 0 8 #[52, 57, 62, 67, 72, 77, 82, 87, 92], 52) := by decide +kernel
theorem dX4_ofSketch_68 : decode cX4_ofSketch 68 = .ok (.aload_n 3, 1) := by decide +kernel
theorem dX4_ofSketch_69 : decode cX4_ofSketch 69 = .ok (.getfield 62, 3) := by decide +kernel
theorem dX4_ofSketch_72 : decode cX4_ofSketch 72 = .ok (.ireturn, 1) := by decide +kernel
theorem dX4_ofSketch_73 : decode cX4_ofSketch 73 = .ok (.aload_n 3, 1) := by decide +kernel
theorem dX4_ofSketch_74 : decode cX4_ofSketch 74 = .ok (.invokevirtual 99, 3) := by decide +kernel
theorem dX4_ofSketch_77 : decode cX4_ofSketch 77 = .ok (.ireturn, 1) := by decide +kernel
theorem dX4_ofSketch_78 : decode cX4_ofSketch 78 = .ok (.aload_n 3, 1) := by decide +kernel
theorem dX4_ofSketch_79 : decode cX4_ofSketch 79 = .ok (.invokevirtual 125, 3) := by decide +kernel
theorem dX4_ofSketch_82 : decode cX4_ofSketch 82 = .ok (.ireturn, 1) := by decide +kernel
theorem dX4_ofSketch_83 : decode cX4_ofSketch 83 = .ok (.aload_n 3, 1) := by decide +kernel
theorem dX4_ofSketch_84 : decode cX4_ofSketch 84 = .ok (.invokevirtual 128, 3) := by decide +kernel
theorem dX4_ofSketch_87 : decode cX4_ofSketch 87 = .ok (.ireturn, 1) := by decide +kernel
theorem dX4_ofSketch_88 : decode cX4_ofSketch 88 = .ok (.aload_n 3, 1) := by decide +kernel
theorem dX4_ofSketch_89 : decode cX4_ofSketch 89 = .ok (.invokevirtual 131, 3) := by decide +kernel
theorem dX4_ofSketch_92 : decode cX4_ofSketch 92 = .ok (.ireturn, 1) := by decide +kernel
theorem dX4_ofSketch_93 : decode cX4_ofSketch 93 = .ok (.aload_n 3, 1) := by decide +kernel
theorem dX4_ofSketch_94 : decode cX4_ofSketch 94 = .ok (.invokevirtual 134, 3) := by decide +kernel
theorem dX4_ofSketch_97 : decode cX4_ofSketch 97 = .ok (.ireturn, 1) := by decide +kernel
theorem dX4_ofSketch_98 : decode cX4_ofSketch 98 = .ok (.aload_n 3, 1) := by decide +kernel
theorem dX4_ofSketch_99 : decode cX4_ofSketch 99 = .ok (.invokevirtual 88, 3) := by decide +kernel
theorem dX4_ofSketch_102 : decode cX4_ofSketch 102 = .ok (.ireturn, 1) := by decide +kernel
theorem dX4_ofSketch_103 : decode cX4_ofSketch 103 = .ok (.aload_n 3, 1) := by decide +kernel
theorem dX4_ofSketch_104 : decode cX4_ofSketch 104 = .ok (.invokevirtual 137, 3) := by decide +kernel
theorem dX4_ofSketch_107 : decode cX4_ofSketch 107 = .ok (.ireturn, 1) := by decide +kernel
theorem dX4_ofSketch_108 : decode cX4_ofSketch 108 = .ok (.aload_n 3, 1) := by decide +kernel
theorem dX4_ofSketch_109 : decode cX4_ofSketch 109 = .ok (.getfield 140, 3) := by decide +kernel
theorem dX4_ofSketch_112 : decode cX4_ofSketch 112 = .ok (.ifCond .eq 8, 3) := by decide +kernel
theorem dX4_ofSketch_115 : decode cX4_ofSketch 115 = .ok (.bipush (-6), 2) := by decide +kernel
theorem dX4_ofSketch_117 : decode cX4_ofSketch 117 = .ok (.goto 7, 3) := by decide +kernel
theorem dX4_ofSketch_120 : decode cX4_ofSketch 120 = .ok (.aload_n 3, 1) := by decide +kernel
theorem dX4_ofSketch_121 : decode cX4_ofSketch 121 = .ok (.getfield 144, 3) := by decide +kernel
theorem dX4_ofSketch_124 : decode cX4_ofSketch 124 = .ok (.ireturn, 1) := by decide +kernel
theorem dX4_ofSketch_125 : decode cX4_ofSketch 125 = .ok (.bipush (-2), 2) := by decide +kernel
theorem dX4_ofSketch_127 : decode cX4_ofSketch 127 = .ok (.ireturn, 1) := by decide +kernel
set_option maxRecDepth 20000 in
theorem ggX4_withRank_X3_sketchAt : GoodIn wsX4_withRank wsX3_sketchAt := goodIn_r _ [8, 9, 35, 36] (by decide +kernel) (by decide +kernel)
set_option maxRecDepth 20000 in
theorem gX4_withRank_X3_sketchAt : GoodIn wsX4_withRank (wsV RX4 58 RX3 yX3_sketchAt wsX3_sketchAt) := goodIn_app (goodIn_of _ (by decide +kernel)) ggX4_withRank_X3_sketchAt
set_option maxRecDepth 20000 in
theorem ggX4_withRank_X2_bucketsWithRank : GoodIn wsX4_withRank wsX2_bucketsWithRank := goodIn_r _ [14, 15, 16, 17, 13, 18, 19, 20, 21, 22, 23, 24, 25, 26, 27, 28, 37, 38, 39, 40, 41] (by decide +kernel) (by decide +kernel)
set_option maxRecDepth 20000 in
theorem gX4_withRank_X2_bucketsWithRank : GoodIn wsX4_withRank (wsV RX4 151 RX2 yX2_bucketsWithRank wsX2_bucketsWithRank) := goodIn_app (goodIn_of _ (by decide +kernel)) ggX4_withRank_X2_bucketsWithRank
theorem dX4_withRank_0 : decode cX4_withRank 0 = .ok (.aload_n 0, 1) := by decide +kernel
theorem dX4_withRank_1 : decode cX4_withRank 1 = .ok (.getfield 10, 3) := by decide +kernel
theorem dX4_withRank_4 : decode cX4_withRank 4 = .ok (.iload_n 1, 1) := by decide +kernel
theorem dX4_withRank_5 : decode cX4_withRank 5 = .ok (.invokevirtual 58, 3) := by decide +kernel
theorem dX4_withRank_8 : decode cX4_withRank 8 = .ok (.astore_n 3, 1) := by decide +kernel
theorem dX4_withRank_9 : decode cX4_withRank 9 = .ok (.aload_n 3, 1) := by decide +kernel
theorem dX4_withRank_10 : decode cX4_withRank 10 = .ok (.ifnonnull 7, 3) := by decide +kernel
theorem dX4_withRank_13 : decode cX4_withRank 13 = .ok (.ldc2_w 147, 3) := by decide +kernel
theorem dX4_withRank_16 : decode cX4_withRank 16 = .ok (.lreturn, 1) := by decide +kernel
theorem dX4_withRank_17 : decode cX4_withRank 17 = .ok (.iload_n 2, 1) := by decide +kernel
theorem dX4_withRank_18 : decode cX4_withRank 18 = .ok (.ifCond .lt 9, 3) := by decide +kernel
theorem dX4_withRank_21 : decode cX4_withRank 21 = .ok (.iload_n 2, 1) := by decide +kernel
theorem dX4_withRank_22 : decode cX4_withRank 22 = .ok (.bipush 15, 2) := by decide +kernel
theorem dX4_withRank_24 : decode cX4_withRank 24 = .ok (.if_icmp .le 7, 3) := by decide +kernel
theorem dX4_withRank_27 : decode cX4_withRank 27 = .ok (.ldc2_w 149, 3) := by decide +kernel
theorem dX4_withRank_30 : decode cX4_withRank 30 = .ok (.lreturn, 1) := by decide +kernel
theorem dX4_withRank_31 : decode cX4_withRank 31 = .ok (.aload_n 3, 1) := by decide +kernel
theorem dX4_withRank_32 : decode cX4_withRank 32 = .ok (.iload_n 2, 1) := by decide +kernel
theorem dX4_withRank_33 : decode cX4_withRank 33 = .ok (.invokevirtual 151, 3) := by decide +kernel
theorem dX4_withRank_36 : decode cX4_withRank 36 = .ok (.lreturn, 1) := by decide +kernel
set_option maxRecDepth 20000 in
theorem ggX4_listed_X3_sketchAt : GoodIn wsX4_listed wsX3_sketchAt := goodIn_r _ [6, 7, 26, 27] (by decide +kernel) (by decide +kernel)
set_option maxRecDepth 20000 in
theorem gX4_listed_X3_sketchAt : GoodIn wsX4_listed (wsV RX4 58 RX3 yX3_sketchAt wsX3_sketchAt) := goodIn_app (goodIn_of _ (by decide +kernel)) ggX4_listed_X3_sketchAt
set_option maxRecDepth 20000 in
theorem ggX4_listed_X2_hasPlace : GoodIn wsX4_listed wsX2_hasPlace := goodIn_r _ [12, 13, 14, 28, 29, 30, 31, 32] (by decide +kernel) (by decide +kernel)
set_option maxRecDepth 20000 in
theorem gX4_listed_X2_hasPlace : GoodIn wsX4_listed (wsV RX4 155 RX2 yX2_hasPlace wsX2_hasPlace) := goodIn_app (goodIn_of _ (by decide +kernel)) ggX4_listed_X2_hasPlace
set_option maxRecDepth 20000 in
theorem ggX4_listed_X2_thingAt : GoodIn wsX4_listed wsX2_thingAt := goodIn_r _ [18, 14, 19, 9, 10, 11, 12, 13, 28, 29, 30, 31, 32] (by decide +kernel) (by decide +kernel)
set_option maxRecDepth 20000 in
theorem gX4_listed_X2_thingAt : GoodIn wsX4_listed (wsV RX4 158 RX2 yX2_thingAt wsX2_thingAt) := goodIn_app (goodIn_of _ (by decide +kernel)) ggX4_listed_X2_thingAt
theorem dX4_listed_0 : decode cX4_listed 0 = .ok (.aload_n 0, 1) := by decide +kernel
theorem dX4_listed_1 : decode cX4_listed 1 = .ok (.getfield 10, 3) := by decide +kernel
theorem dX4_listed_4 : decode cX4_listed 4 = .ok (.iload_n 1, 1) := by decide +kernel
theorem dX4_listed_5 : decode cX4_listed 5 = .ok (.invokevirtual 58, 3) := by decide +kernel
theorem dX4_listed_8 : decode cX4_listed 8 = .ok (.astore_n 3, 1) := by decide +kernel
theorem dX4_listed_9 : decode cX4_listed 9 = .ok (.aload_n 3, 1) := by decide +kernel
theorem dX4_listed_10 : decode cX4_listed 10 = .ok (.ifnull 11, 3) := by decide +kernel
theorem dX4_listed_13 : decode cX4_listed 13 = .ok (.aload_n 3, 1) := by decide +kernel
theorem dX4_listed_14 : decode cX4_listed 14 = .ok (.iload_n 2, 1) := by decide +kernel
theorem dX4_listed_15 : decode cX4_listed 15 = .ok (.invokevirtual 155, 3) := by decide +kernel
theorem dX4_listed_18 : decode cX4_listed 18 = .ok (.ifCond .ne 5, 3) := by decide +kernel
theorem dX4_listed_21 : decode cX4_listed 21 = .ok (.iconst (-1), 1) := by decide +kernel
theorem dX4_listed_22 : decode cX4_listed 22 = .ok (.ireturn, 1) := by decide +kernel
theorem dX4_listed_23 : decode cX4_listed 23 = .ok (.aload_n 3, 1) := by decide +kernel
theorem dX4_listed_24 : decode cX4_listed 24 = .ok (.iload_n 2, 1) := by decide +kernel
theorem dX4_listed_25 : decode cX4_listed 25 = .ok (.invokevirtual 158, 3) := by decide +kernel
theorem dX4_listed_28 : decode cX4_listed 28 = .ok (.ireturn, 1) := by decide +kernel
set_option maxRecDepth 20000 in
theorem ggX4_count_X3_filledSketches : GoodIn wsX4_count wsX3_filledSketches := goodIn_r _ [8, 9, 10, 11, 12, 13, 14, 15, 16, 17, 18, 19, 20, 21, 22, 23, 24, 25, 26, 27, 28, 43, 44, 55, 56, 57, 58, 59] (by decide +kernel) (by decide +kernel)
set_option maxRecDepth 20000 in
theorem gX4_count_X3_filledSketches : GoodIn wsX4_count (wsV RX4 161 RX3 yX3_filledSketches wsX3_filledSketches) := goodIn_app (goodIn_of _ (by decide +kernel)) ggX4_count_X3_filledSketches
set_option maxRecDepth 20000 in
theorem ggX4_count_X3_filledBuckets : GoodIn wsX4_count wsX3_filledBuckets := goodIn_r _ [32, 9, 10, 11, 12, 13, 14, 15, 16, 17, 18, 19, 20, 21, 22, 23, 24, 25, 26, 27, 28, 43, 44, 55, 56, 57, 58, 59] (by decide +kernel) (by decide +kernel)
set_option maxRecDepth 20000 in
theorem gX4_count_X3_filledBuckets : GoodIn wsX4_count (wsV RX4 164 RX3 yX3_filledBuckets wsX3_filledBuckets) := goodIn_app (goodIn_of _ (by decide +kernel)) ggX4_count_X3_filledBuckets
set_option maxRecDepth 20000 in
theorem ggX4_count_X3_fullLists : GoodIn wsX4_count wsX3_fullLists := goodIn_r _ [36, 9, 43, 44, 55, 56, 57, 58, 59] (by decide +kernel) (by decide +kernel)
set_option maxRecDepth 20000 in
theorem gX4_count_X3_fullLists : GoodIn wsX4_count (wsV RX4 165 RX3 yX3_fullLists wsX3_fullLists) := goodIn_app (goodIn_of _ (by decide +kernel)) ggX4_count_X3_fullLists
theorem dX4_count_0 : decode cX4_count 0 = .ok (.iload_n 1, 1) := by decide +kernel
theorem dX4_count_1 : decode cX4_count 1 = .ok (.tableswitch 87 0 5 #[39, 47, 55, 63, 71, 79], 39) := by decide +kernel
theorem dX4_count_40 : decode cX4_count 40 = .ok (.aload_n 0, 1) := by decide +kernel
theorem dX4_count_41 : decode cX4_count 41 = .ok (.getfield 10, 3) := by decide +kernel
theorem dX4_count_44 : decode cX4_count 44 = .ok (.getfield 50, 3) := by decide +kernel
theorem dX4_count_47 : decode cX4_count 47 = .ok (.ireturn, 1) := by decide +kernel
theorem dX4_count_48 : decode cX4_count 48 = .ok (.aload_n 0, 1) := by decide +kernel
theorem dX4_count_49 : decode cX4_count 49 = .ok (.getfield 10, 3) := by decide +kernel
theorem dX4_count_52 : decode cX4_count 52 = .ok (.invokevirtual 161, 3) := by decide +kernel
theorem dX4_count_55 : decode cX4_count 55 = .ok (.ireturn, 1) := by decide +kernel
theorem dX4_count_56 : decode cX4_count 56 = .ok (.aload_n 0, 1) := by decide +kernel
theorem dX4_count_57 : decode cX4_count 57 = .ok (.getfield 10, 3) := by decide +kernel
theorem dX4_count_60 : decode cX4_count 60 = .ok (.invokevirtual 164, 3) := by decide +kernel
theorem dX4_count_63 : decode cX4_count 63 = .ok (.ireturn, 1) := by decide +kernel
theorem dX4_count_64 : decode cX4_count 64 = .ok (.aload_n 0, 1) := by decide +kernel
theorem dX4_count_65 : decode cX4_count 65 = .ok (.getfield 10, 3) := by decide +kernel
theorem dX4_count_68 : decode cX4_count 68 = .ok (.invokevirtual 165, 3) := by decide +kernel
theorem dX4_count_71 : decode cX4_count 71 = .ok (.ireturn, 1) := by decide +kernel
theorem dX4_count_72 : decode cX4_count 72 = .ok (.aload_n 0, 1) := by decide +kernel
theorem dX4_count_73 : decode cX4_count 73 = .ok (.getfield 34, 3) := by decide +kernel
theorem dX4_count_76 : decode cX4_count 76 = .ok (.getfield 168, 3) := by decide +kernel
theorem dX4_count_79 : decode cX4_count 79 = .ok (.ireturn, 1) := by decide +kernel
theorem dX4_count_80 : decode cX4_count 80 = .ok (.aload_n 0, 1) := by decide +kernel
theorem dX4_count_81 : decode cX4_count 81 = .ok (.getfield 19, 3) := by decide +kernel
theorem dX4_count_84 : decode cX4_count 84 = .ok (.getfield 171, 3) := by decide +kernel
theorem dX4_count_87 : decode cX4_count 87 = .ok (.ireturn, 1) := by decide +kernel
theorem dX4_count_88 : decode cX4_count 88 = .ok (.bipush (-2), 2) := by decide +kernel
theorem dX4_count_90 : decode cX4_count 90 = .ok (.ireturn, 1) := by decide +kernel
set_option maxRecDepth 20000 in
theorem ggX4_together_X3_sketchAt : GoodIn wsX4_together wsX3_sketchAt := goodIn_r _ [7, 8, 106, 107] (by decide +kernel) (by decide +kernel)
set_option maxRecDepth 20000 in
theorem gX4_together_X3_sketchAt : GoodIn wsX4_together (wsV RX4 58 RX3 yX3_sketchAt wsX3_sketchAt) := goodIn_app (goodIn_of _ (by decide +kernel)) ggX4_together_X3_sketchAt
set_option maxRecDepth 20000 in
theorem ggX4_together_X2_copyFrom : GoodIn wsX4_together wsX2_copyFrom := goodIn_r _ [13, 14, 15, 16, 17, 18, 19, 20, 21, 22, 101, 102, 103, 104, 105] (by decide +kernel) (by decide +kernel)
set_option maxRecDepth 20000 in
theorem gX4_together_X2_copyFrom : GoodIn wsX4_together (wsV RX4 174 RX2 yX2_copyFrom wsX2_copyFrom) := goodIn_app (goodIn_of _ (by decide +kernel)) ggX4_together_X2_copyFrom
set_option maxRecDepth 20000 in
theorem ggX4_together_X2_takeAll : GoodIn wsX4_together wsX2_takeAll := goodIn_r _ [26, 22, 21, 27, 28, 29, 12, 30, 14, 31, 32, 33, 34, 15, 35, 36, 37, 38, 39, 40, 41, 42, 43, 44, 45, 46, 47, 48, 49, 50, 20, 51, 52, 53, 54, 55, 56, 57, 58, 59, 60, 61, 62, 101, 102, 103, 104, 105] (by decide +kernel) (by decide +kernel)
set_option maxRecDepth 20000 in
theorem gX4_together_X2_takeAll : GoodIn wsX4_together (wsV RX4 84 RX2 yX2_takeAll wsX2_takeAll) := goodIn_app (goodIn_of _ (by decide +kernel)) ggX4_together_X2_takeAll
set_option maxRecDepth 20000 in
theorem ggX4_together_X2_estimate : GoodIn wsX4_together wsX2_estimate := goodIn_r _ [66, 67, 68, 69, 12, 70, 71, 72, 73, 74, 75, 76, 77, 78, 27, 28, 29, 30, 14, 31, 32, 33, 34, 15, 35, 36, 37, 38, 79, 80, 81, 82, 83, 84, 85, 86, 87, 88, 89, 90, 91, 92, 93, 94, 101, 102, 103, 104, 105] (by decide +kernel) (by decide +kernel)
set_option maxRecDepth 20000 in
theorem gX4_together_X2_estimate : GoodIn wsX4_together (wsV RX4 88 RX2 yX2_estimate wsX2_estimate) := goodIn_app (goodIn_of _ (by decide +kernel)) ggX4_together_X2_estimate
theorem dX4_together_0 : decode cX4_together 0 = .ok (.aload_n 0, 1) := by decide +kernel
theorem dX4_together_1 : decode cX4_together 1 = .ok (.getfield 10, 3) := by decide +kernel
theorem dX4_together_4 : decode cX4_together 4 = .ok (.iload_n 1, 1) := by decide +kernel
theorem dX4_together_5 : decode cX4_together 5 = .ok (.invokevirtual 58, 3) := by decide +kernel
theorem dX4_together_8 : decode cX4_together 8 = .ok (.astore_n 3, 1) := by decide +kernel
theorem dX4_together_9 : decode cX4_together 9 = .ok (.aload_n 0, 1) := by decide +kernel
theorem dX4_together_10 : decode cX4_together 10 = .ok (.getfield 10, 3) := by decide +kernel
theorem dX4_together_13 : decode cX4_together 13 = .ok (.iload_n 2, 1) := by decide +kernel
theorem dX4_together_14 : decode cX4_together 14 = .ok (.invokevirtual 58, 3) := by decide +kernel
theorem dX4_together_17 : decode cX4_together 17 = .ok (.astore 4, 2) := by decide +kernel
theorem dX4_together_19 : decode cX4_together 19 = .ok (.aload_n 3, 1) := by decide +kernel
theorem dX4_together_20 : decode cX4_together 20 = .ok (.ifnull 8, 3) := by decide +kernel
theorem dX4_together_23 : decode cX4_together 23 = .ok (.aload 4, 2) := by decide +kernel
theorem dX4_together_25 : decode cX4_together 25 = .ok (.ifnonnull 5, 3) := by decide +kernel
theorem dX4_together_28 : decode cX4_together 28 = .ok (.iconst (-1), 1) := by decide +kernel
theorem dX4_together_29 : decode cX4_together 29 = .ok (.ireturn, 1) := by decide +kernel
theorem dX4_together_30 : decode cX4_together 30 = .ok (.aload_n 3, 1) := by decide +kernel
theorem dX4_together_31 : decode cX4_together 31 = .ok (.getfield 62, 3) := by decide +kernel
theorem dX4_together_34 : decode cX4_together 34 = .ok (.aload 4, 2) := by decide +kernel
theorem dX4_together_36 : decode cX4_together 36 = .ok (.getfield 62, 3) := by decide +kernel
theorem dX4_together_39 : decode cX4_together 39 = .ok (.if_icmp .eq 6, 3) := by decide +kernel
theorem dX4_together_42 : decode cX4_together 42 = .ok (.bipush (-5), 2) := by decide +kernel
theorem dX4_together_44 : decode cX4_together 44 = .ok (.ireturn, 1) := by decide +kernel
theorem dX4_together_45 : decode cX4_together 45 = .ok (.aload_n 0, 1) := by decide +kernel
theorem dX4_together_46 : decode cX4_together 46 = .ok (.getfield 41, 3) := by decide +kernel
theorem dX4_together_49 : decode cX4_together 49 = .ok (.aload_n 3, 1) := by decide +kernel
theorem dX4_together_50 : decode cX4_together 50 = .ok (.invokevirtual 174, 3) := by decide +kernel
theorem dX4_together_53 : decode cX4_together 53 = .ok (.aload_n 0, 1) := by decide +kernel
theorem dX4_together_54 : decode cX4_together 54 = .ok (.getfield 41, 3) := by decide +kernel
theorem dX4_together_57 : decode cX4_together 57 = .ok (.aload 4, 2) := by decide +kernel
theorem dX4_together_59 : decode cX4_together 59 = .ok (.invokevirtual 84, 3) := by decide +kernel
theorem dX4_together_62 : decode cX4_together 62 = .ok (.aload_n 0, 1) := by decide +kernel
theorem dX4_together_63 : decode cX4_together 63 = .ok (.getfield 41, 3) := by decide +kernel
theorem dX4_together_66 : decode cX4_together 66 = .ok (.invokevirtual 88, 3) := by decide +kernel
theorem dX4_together_69 : decode cX4_together 69 = .ok (.ireturn, 1) := by decide +kernel
set_option maxRecDepth 20000 in
theorem ggX4_alike_X3_sketchAt : GoodIn wsX4_alike wsX3_sketchAt := goodIn_r _ [6, 7, 43, 44] (by decide +kernel) (by decide +kernel)
set_option maxRecDepth 20000 in
theorem gX4_alike_X3_sketchAt : GoodIn wsX4_alike (wsV RX4 58 RX3 yX3_sketchAt wsX3_sketchAt) := goodIn_app (goodIn_of _ (by decide +kernel)) ggX4_alike_X3_sketchAt
set_option maxRecDepth 20000 in
theorem ggX4_alike_X2_sameBuckets : GoodIn wsX4_alike wsX2_sameBuckets := goodIn_r _ [12, 13, 14, 15, 11, 16, 17, 18, 19, 20, 21, 22, 23, 24, 25, 26, 38, 39, 40, 41, 42] (by decide +kernel) (by decide +kernel)
set_option maxRecDepth 20000 in
theorem gX4_alike_X2_sameBuckets : GoodIn wsX4_alike (wsV RX4 177 RX2 yX2_sameBuckets wsX2_sameBuckets) := goodIn_app (goodIn_of _ (by decide +kernel)) ggX4_alike_X2_sameBuckets
set_option maxRecDepth 20000 in
theorem ggX4_alike_X4_bitsOfShare : GoodIn wsX4_alike wsX4_bitsOfShare := goodIn_r _ [30, 31] (by decide +kernel) (by decide +kernel)
set_option maxRecDepth 20000 in
theorem gX4_alike_X4_bitsOfShare : GoodIn wsX4_alike (va_wsS RX4 181 yX4_bitsOfShare wsX4_bitsOfShare) := goodIn_app (goodIn_of _ (by decide +kernel)) ggX4_alike_X4_bitsOfShare
theorem dX4_alike_0 : decode cX4_alike 0 = .ok (.aload_n 0, 1) := by decide +kernel
theorem dX4_alike_1 : decode cX4_alike 1 = .ok (.getfield 10, 3) := by decide +kernel
theorem dX4_alike_4 : decode cX4_alike 4 = .ok (.iload_n 1, 1) := by decide +kernel
theorem dX4_alike_5 : decode cX4_alike 5 = .ok (.invokevirtual 58, 3) := by decide +kernel
theorem dX4_alike_8 : decode cX4_alike 8 = .ok (.astore_n 3, 1) := by decide +kernel
theorem dX4_alike_9 : decode cX4_alike 9 = .ok (.aload_n 0, 1) := by decide +kernel
theorem dX4_alike_10 : decode cX4_alike 10 = .ok (.getfield 10, 3) := by decide +kernel
theorem dX4_alike_13 : decode cX4_alike 13 = .ok (.iload_n 2, 1) := by decide +kernel
theorem dX4_alike_14 : decode cX4_alike 14 = .ok (.invokevirtual 58, 3) := by decide +kernel
theorem dX4_alike_17 : decode cX4_alike 17 = .ok (.astore 4, 2) := by decide +kernel
theorem dX4_alike_19 : decode cX4_alike 19 = .ok (.aload_n 3, 1) := by decide +kernel
theorem dX4_alike_20 : decode cX4_alike 20 = .ok (.ifnull 8, 3) := by decide +kernel
theorem dX4_alike_23 : decode cX4_alike 23 = .ok (.aload 4, 2) := by decide +kernel
theorem dX4_alike_25 : decode cX4_alike 25 = .ok (.ifnonnull 5, 3) := by decide +kernel
theorem dX4_alike_28 : decode cX4_alike 28 = .ok (.iconst (-1), 1) := by decide +kernel
theorem dX4_alike_29 : decode cX4_alike 29 = .ok (.ireturn, 1) := by decide +kernel
theorem dX4_alike_30 : decode cX4_alike 30 = .ok (.aload_n 3, 1) := by decide +kernel
theorem dX4_alike_31 : decode cX4_alike 31 = .ok (.getfield 62, 3) := by decide +kernel
theorem dX4_alike_34 : decode cX4_alike 34 = .ok (.aload 4, 2) := by decide +kernel
theorem dX4_alike_36 : decode cX4_alike 36 = .ok (.getfield 62, 3) := by decide +kernel
theorem dX4_alike_39 : decode cX4_alike 39 = .ok (.if_icmp .eq 6, 3) := by decide +kernel
theorem dX4_alike_42 : decode cX4_alike 42 = .ok (.bipush (-5), 2) := by decide +kernel
theorem dX4_alike_44 : decode cX4_alike 44 = .ok (.ireturn, 1) := by decide +kernel
theorem dX4_alike_45 : decode cX4_alike 45 = .ok (.aload_n 3, 1) := by decide +kernel
theorem dX4_alike_46 : decode cX4_alike 46 = .ok (.aload 4, 2) := by decide +kernel
theorem dX4_alike_48 : decode cX4_alike 48 = .ok (.invokevirtual 177, 3) := by decide +kernel
theorem dX4_alike_51 : decode cX4_alike 51 = .ok (.aload_n 3, 1) := by decide +kernel
theorem dX4_alike_52 : decode cX4_alike 52 = .ok (.getfield 62, 3) := by decide +kernel
theorem dX4_alike_55 : decode cX4_alike 55 = .ok (.invokestatic 181, 3) := by decide +kernel
theorem dX4_alike_58 : decode cX4_alike 58 = .ok (.ireturn, 1) := by decide +kernel
set_option maxRecDepth 20000 in
theorem ggX4_off_X3_sketchAt : GoodIn wsX4_off wsX3_sketchAt := goodIn_r _ [7, 8, 67, 68] (by decide +kernel) (by decide +kernel)
set_option maxRecDepth 20000 in
theorem gX4_off_X3_sketchAt : GoodIn wsX4_off (wsV RX4 58 RX3 yX3_sketchAt wsX3_sketchAt) := goodIn_app (goodIn_of _ (by decide +kernel)) ggX4_off_X3_sketchAt
set_option maxRecDepth 20000 in
theorem ggX4_off_X2_estimate : GoodIn wsX4_off wsX2_estimate := goodIn_r _ [13, 14, 15, 16, 12, 17, 18, 19, 20, 21, 22, 23, 24, 25, 26, 27, 28, 29, 30, 31, 32, 33, 34, 35, 36, 37, 38, 39, 40, 41, 42, 43, 44, 45, 46, 47, 48, 49, 50, 51, 52, 53, 54, 55, 62, 63, 64, 65, 66] (by decide +kernel) (by decide +kernel)
set_option maxRecDepth 20000 in
theorem gX4_off_X2_estimate : GoodIn wsX4_off (wsV RX4 88 RX2 yX2_estimate wsX2_estimate) := goodIn_app (goodIn_of _ (by decide +kernel)) ggX4_off_X2_estimate
theorem dX4_off_0 : decode cX4_off 0 = .ok (.aload_n 0, 1) := by decide +kernel
theorem dX4_off_1 : decode cX4_off 1 = .ok (.getfield 10, 3) := by decide +kernel
theorem dX4_off_4 : decode cX4_off 4 = .ok (.iload_n 1, 1) := by decide +kernel
theorem dX4_off_5 : decode cX4_off 5 = .ok (.invokevirtual 58, 3) := by decide +kernel
theorem dX4_off_8 : decode cX4_off 8 = .ok (.astore_n 2, 1) := by decide +kernel
theorem dX4_off_9 : decode cX4_off 9 = .ok (.aload_n 2, 1) := by decide +kernel
theorem dX4_off_10 : decode cX4_off 10 = .ok (.ifnonnull 5, 3) := by decide +kernel
theorem dX4_off_13 : decode cX4_off 13 = .ok (.iconst (-1), 1) := by decide +kernel
theorem dX4_off_14 : decode cX4_off 14 = .ok (.ireturn, 1) := by decide +kernel
theorem dX4_off_15 : decode cX4_off 15 = .ok (.aload_n 2, 1) := by decide +kernel
theorem dX4_off_16 : decode cX4_off 16 = .ok (.getfield 140, 3) := by decide +kernel
theorem dX4_off_19 : decode cX4_off 19 = .ok (.ifCond .eq 6, 3) := by decide +kernel
theorem dX4_off_22 : decode cX4_off 22 = .ok (.bipush (-5), 2) := by decide +kernel
theorem dX4_off_24 : decode cX4_off 24 = .ok (.ireturn, 1) := by decide +kernel
theorem dX4_off_25 : decode cX4_off 25 = .ok (.aload_n 2, 1) := by decide +kernel
theorem dX4_off_26 : decode cX4_off 26 = .ok (.invokevirtual 88, 3) := by decide +kernel
theorem dX4_off_29 : decode cX4_off 29 = .ok (.aload_n 2, 1) := by decide +kernel
theorem dX4_off_30 : decode cX4_off 30 = .ok (.getfield 144, 3) := by decide +kernel
theorem dX4_off_33 : decode cX4_off 33 = .ok (.isub, 1) := by decide +kernel
theorem dX4_off_34 : decode cX4_off 34 = .ok (.ldc 184, 2) := by decide +kernel
theorem dX4_off_36 : decode cX4_off 36 = .ok (.iadd, 1) := by decide +kernel
theorem dX4_off_37 : decode cX4_off 37 = .ok (.ireturn, 1) := by decide +kernel
set_option maxRecDepth 20000 in
theorem ggX4_nextNew_X3_sketchAt : GoodIn wsX4_nextNew wsX3_sketchAt := goodIn_r _ [7, 8, 58, 59] (by decide +kernel) (by decide +kernel)
set_option maxRecDepth 20000 in
theorem gX4_nextNew_X3_sketchAt : GoodIn wsX4_nextNew (wsV RX4 58 RX3 yX3_sketchAt wsX3_sketchAt) := goodIn_app (goodIn_of _ (by decide +kernel)) ggX4_nextNew_X3_sketchAt
set_option maxRecDepth 20000 in
theorem ggX4_nextNew_X4_isThing : GoodIn wsX4_nextNew wsX4_isThing := goodIn_r _ [12, 2] (by decide +kernel) (by decide +kernel)
set_option maxRecDepth 20000 in
theorem gX4_nextNew_X4_isThing : GoodIn wsX4_nextNew (va_wsS RX4 68 yX4_isThing wsX4_isThing) := goodIn_app (goodIn_of _ (by decide +kernel)) ggX4_nextNew_X4_isThing
set_option maxRecDepth 20000 in
theorem ggX4_nextNew_X4_hashOf : GoodIn wsX4_nextNew wsX4_hashOf := goodIn_r _ [15, 16, 17] (by decide +kernel) (by decide +kernel)
set_option maxRecDepth 20000 in
theorem gX4_nextNew_X4_hashOf : GoodIn wsX4_nextNew (va_wsS RX4 105 yX4_hashOf wsX4_hashOf) := goodIn_app (goodIn_of _ (by decide +kernel)) ggX4_nextNew_X4_hashOf
set_option maxRecDepth 20000 in
theorem ggX4_nextNew_X2_wouldChangeBy : GoodIn wsX4_nextNew wsX2_wouldChangeBy := goodIn_r _ [22, 23, 24, 25, 21, 26, 27, 28, 29, 30, 31, 32, 33, 34, 35, 36, 37, 38, 39, 40, 41, 42, 43, 44, 45, 46, 47, 48, 49, 50, 51, 60, 61, 62, 63, 64] (by decide +kernel) (by decide +kernel)
set_option maxRecDepth 20000 in
theorem gX4_nextNew_X2_wouldChangeBy : GoodIn wsX4_nextNew (wsV RX4 116 RX2 yX2_wouldChangeBy wsX2_wouldChangeBy) := goodIn_app (goodIn_of _ (by decide +kernel)) ggX4_nextNew_X2_wouldChangeBy
theorem dX4_nextNew_0 : decode cX4_nextNew 0 = .ok (.aload_n 0, 1) := by decide +kernel
theorem dX4_nextNew_1 : decode cX4_nextNew 1 = .ok (.getfield 10, 3) := by decide +kernel
theorem dX4_nextNew_4 : decode cX4_nextNew 4 = .ok (.iload_n 1, 1) := by decide +kernel
theorem dX4_nextNew_5 : decode cX4_nextNew 5 = .ok (.invokevirtual 58, 3) := by decide +kernel
theorem dX4_nextNew_8 : decode cX4_nextNew 8 = .ok (.astore_n 3, 1) := by decide +kernel
theorem dX4_nextNew_9 : decode cX4_nextNew 9 = .ok (.aload_n 3, 1) := by decide +kernel
theorem dX4_nextNew_10 : decode cX4_nextNew 10 = .ok (.ifnonnull 5, 3) := by decide +kernel
theorem dX4_nextNew_13 : decode cX4_nextNew 13 = .ok (.iconst (-1), 1) := by decide +kernel
theorem dX4_nextNew_14 : decode cX4_nextNew 14 = .ok (.ireturn, 1) := by decide +kernel
theorem dX4_nextNew_15 : decode cX4_nextNew 15 = .ok (.iload_n 2, 1) := by decide +kernel
theorem dX4_nextNew_16 : decode cX4_nextNew 16 = .ok (.invokestatic 68, 3) := by decide +kernel
theorem dX4_nextNew_19 : decode cX4_nextNew 19 = .ok (.ifCond .ne 6, 3) := by decide +kernel
theorem dX4_nextNew_22 : decode cX4_nextNew 22 = .ok (.bipush (-2), 2) := by decide +kernel
theorem dX4_nextNew_24 : decode cX4_nextNew 24 = .ok (.ireturn, 1) := by decide +kernel
theorem dX4_nextNew_25 : decode cX4_nextNew 25 = .ok (.iload_n 2, 1) := by decide +kernel
theorem dX4_nextNew_26 : decode cX4_nextNew 26 = .ok (.istore 4, 2) := by decide +kernel
theorem dX4_nextNew_28 : decode cX4_nextNew 28 = .ok (.iload 4, 2) := by decide +kernel
theorem dX4_nextNew_30 : decode cX4_nextNew 30 = .ok (.ldc 184, 2) := by decide +kernel
theorem dX4_nextNew_32 : decode cX4_nextNew 32 = .ok (.if_icmp .ge 31, 3) := by decide +kernel
theorem dX4_nextNew_35 : decode cX4_nextNew 35 = .ok (.aload_n 3, 1) := by decide +kernel
theorem dX4_nextNew_36 : decode cX4_nextNew 36 = .ok (.iload 4, 2) := by decide +kernel
theorem dX4_nextNew_38 : decode cX4_nextNew 38 = .ok (.aload_n 0, 1) := by decide +kernel
theorem dX4_nextNew_39 : decode cX4_nextNew 39 = .ok (.getfield 10, 3) := by decide +kernel
theorem dX4_nextNew_42 : decode cX4_nextNew 42 = .ok (.getfield 50, 3) := by decide +kernel
theorem dX4_nextNew_45 : decode cX4_nextNew 45 = .ok (.invokestatic 105, 3) := by decide +kernel
theorem dX4_nextNew_48 : decode cX4_nextNew 48 = .ok (.invokevirtual 116, 3) := by decide +kernel
theorem dX4_nextNew_51 : decode cX4_nextNew 51 = .ok (.ifCond .eq 6, 3) := by decide +kernel
theorem dX4_nextNew_54 : decode cX4_nextNew 54 = .ok (.iload 4, 2) := by decide +kernel
theorem dX4_nextNew_56 : decode cX4_nextNew 56 = .ok (.ireturn, 1) := by decide +kernel
theorem dX4_nextNew_57 : decode cX4_nextNew 57 = .ok (.iinc 4 1, 3) := by decide +kernel
theorem dX4_nextNew_60 : decode cX4_nextNew 60 = .ok (.goto (-32), 3) := by decide +kernel
theorem dX4_nextNew_63 : decode cX4_nextNew 63 = .ok (.bipush (-6), 2) := by decide +kernel
theorem dX4_nextNew_65 : decode cX4_nextNew 65 = .ok (.ireturn, 1) := by decide +kernel
set_option maxRecDepth 20000 in
theorem ggX4_bestSalt_X3_sketchAt : GoodIn wsX4_bestSalt wsX3_sketchAt := goodIn_r _ [6, 7, 122, 123] (by decide +kernel) (by decide +kernel)
set_option maxRecDepth 20000 in
theorem gX4_bestSalt_X3_sketchAt : GoodIn wsX4_bestSalt (wsV RX4 58 RX3 yX3_sketchAt wsX3_sketchAt) := goodIn_app (goodIn_of _ (by decide +kernel)) ggX4_bestSalt_X3_sketchAt
set_option maxRecDepth 20000 in
theorem ggX4_bestSalt_X4_distanceBySalt : GoodIn wsX4_bestSalt wsX4_distanceBySalt := goodIn_r _ [12, 13, 14, 15, 16, 17, 18, 19, 20, 21, 22, 23, 24, 25, 26, 27, 28, 29, 30, 31, 32, 33, 34, 35, 36, 37, 38, 39, 40, 41, 11, 42, 43, 44, 45, 46, 47, 48, 49, 50, 51, 52, 53, 54, 55, 56, 57, 58, 59, 60, 61, 62, 63, 64, 65, 66, 67, 68, 69, 70, 71, 72, 73, 74, 75, 76, 77, 78, 79, 80, 81, 82, 83, 84, 85, 86, 87, 88, 89, 90, 91, 92, 93, 94, 95, 96, 97, 98, 99, 100, 101, 102, 103, 104, 105, 106, 107, 108, 109, 110, 111, 112, 113, 114, 115, 116, 117, 118, 119, 120, 121] (by decide +kernel) (by decide +kernel)
set_option maxRecDepth 20000 in
theorem gX4_bestSalt_X4_distanceBySalt : GoodIn wsX4_bestSalt (wsV RX4 185 RX4 yX4_distanceBySalt wsX4_distanceBySalt) := goodIn_app (goodIn_of _ (by decide +kernel)) ggX4_bestSalt_X4_distanceBySalt
theorem dX4_bestSalt_0 : decode cX4_bestSalt 0 = .ok (.aload_n 0, 1) := by decide +kernel
theorem dX4_bestSalt_1 : decode cX4_bestSalt 1 = .ok (.getfield 10, 3) := by decide +kernel
theorem dX4_bestSalt_4 : decode cX4_bestSalt 4 = .ok (.iload_n 1, 1) := by decide +kernel
theorem dX4_bestSalt_5 : decode cX4_bestSalt 5 = .ok (.invokevirtual 58, 3) := by decide +kernel
theorem dX4_bestSalt_8 : decode cX4_bestSalt 8 = .ok (.astore_n 2, 1) := by decide +kernel
theorem dX4_bestSalt_9 : decode cX4_bestSalt 9 = .ok (.aload_n 2, 1) := by decide +kernel
theorem dX4_bestSalt_10 : decode cX4_bestSalt 10 = .ok (.ifnonnull 5, 3) := by decide +kernel
theorem dX4_bestSalt_13 : decode cX4_bestSalt 13 = .ok (.iconst (-1), 1) := by decide +kernel
theorem dX4_bestSalt_14 : decode cX4_bestSalt 14 = .ok (.ireturn, 1) := by decide +kernel
theorem dX4_bestSalt_15 : decode cX4_bestSalt 15 = .ok (.aload_n 2, 1) := by decide +kernel
theorem dX4_bestSalt_16 : decode cX4_bestSalt 16 = .ok (.getfield 140, 3) := by decide +kernel
theorem dX4_bestSalt_19 : decode cX4_bestSalt 19 = .ok (.ifCond .eq 6, 3) := by decide +kernel
theorem dX4_bestSalt_22 : decode cX4_bestSalt 22 = .ok (.bipush (-5), 2) := by decide +kernel
theorem dX4_bestSalt_24 : decode cX4_bestSalt 24 = .ok (.ireturn, 1) := by decide +kernel
theorem dX4_bestSalt_25 : decode cX4_bestSalt 25 = .ok (.iconst 0, 1) := by decide +kernel
theorem dX4_bestSalt_26 : decode cX4_bestSalt 26 = .ok (.istore_n 3, 1) := by decide +kernel
theorem dX4_bestSalt_27 : decode cX4_bestSalt 27 = .ok (.aload_n 0, 1) := by decide +kernel
theorem dX4_bestSalt_28 : decode cX4_bestSalt 28 = .ok (.aload_n 2, 1) := by decide +kernel
theorem dX4_bestSalt_29 : decode cX4_bestSalt 29 = .ok (.iconst 0, 1) := by decide +kernel
theorem dX4_bestSalt_30 : decode cX4_bestSalt 30 = .ok (.invokevirtual 185, 3) := by decide +kernel
theorem dX4_bestSalt_33 : decode cX4_bestSalt 33 = .ok (.istore 4, 2) := by decide +kernel
theorem dX4_bestSalt_35 : decode cX4_bestSalt 35 = .ok (.iconst 1, 1) := by decide +kernel
theorem dX4_bestSalt_36 : decode cX4_bestSalt 36 = .ok (.istore 5, 2) := by decide +kernel
theorem dX4_bestSalt_38 : decode cX4_bestSalt 38 = .ok (.iload 5, 2) := by decide +kernel
theorem dX4_bestSalt_40 : decode cX4_bestSalt 40 = .ok (.sipush 256, 3) := by decide +kernel
theorem dX4_bestSalt_43 : decode cX4_bestSalt 43 = .ok (.if_icmp .ge 32, 3) := by decide +kernel
theorem dX4_bestSalt_46 : decode cX4_bestSalt 46 = .ok (.aload_n 0, 1) := by decide +kernel
theorem dX4_bestSalt_47 : decode cX4_bestSalt 47 = .ok (.aload_n 2, 1) := by decide +kernel
theorem dX4_bestSalt_48 : decode cX4_bestSalt 48 = .ok (.iload 5, 2) := by decide +kernel
theorem dX4_bestSalt_50 : decode cX4_bestSalt 50 = .ok (.invokevirtual 185, 3) := by decide +kernel
theorem dX4_bestSalt_53 : decode cX4_bestSalt 53 = .ok (.istore 6, 2) := by decide +kernel
theorem dX4_bestSalt_55 : decode cX4_bestSalt 55 = .ok (.iload 6, 2) := by decide +kernel
theorem dX4_bestSalt_57 : decode cX4_bestSalt 57 = .ok (.iload 4, 2) := by decide +kernel
theorem dX4_bestSalt_59 : decode cX4_bestSalt 59 = .ok (.if_icmp .ge 10, 3) := by decide +kernel
theorem dX4_bestSalt_62 : decode cX4_bestSalt 62 = .ok (.iload 6, 2) := by decide +kernel
theorem dX4_bestSalt_64 : decode cX4_bestSalt 64 = .ok (.istore 4, 2) := by decide +kernel
theorem dX4_bestSalt_66 : decode cX4_bestSalt 66 = .ok (.iload 5, 2) := by decide +kernel
theorem dX4_bestSalt_68 : decode cX4_bestSalt 68 = .ok (.istore_n 3, 1) := by decide +kernel
theorem dX4_bestSalt_69 : decode cX4_bestSalt 69 = .ok (.iinc 5 1, 3) := by decide +kernel
theorem dX4_bestSalt_72 : decode cX4_bestSalt 72 = .ok (.goto (-34), 3) := by decide +kernel
theorem dX4_bestSalt_75 : decode cX4_bestSalt 75 = .ok (.iload_n 3, 1) := by decide +kernel
theorem dX4_bestSalt_76 : decode cX4_bestSalt 76 = .ok (.ireturn, 1) := by decide +kernel
set_option maxRecDepth 20000 in
theorem ggX4_put_X4_charactersIn : GoodIn wsX4_put wsX4_charactersIn := goodIn_r _ [6, 2] (by decide +kernel) (by decide +kernel)
set_option maxRecDepth 20000 in
theorem gX4_put_X4_charactersIn : GoodIn wsX4_put (va_wsS RX4 189 yX4_charactersIn wsX4_charactersIn) := goodIn_app (goodIn_of _ (by decide +kernel)) ggX4_put_X4_charactersIn
set_option maxRecDepth 20000 in
theorem ggX4_put_X1_append : GoodIn wsX4_put wsX1_append := goodIn_r _ [11, 12, 13, 20, 21, 22, 23, 24, 25, 26] (by decide +kernel) (by decide +kernel)
set_option maxRecDepth 20000 in
theorem gX4_put_X1_append : GoodIn wsX4_put (wsV RX4 195 RX1 yX1_append wsX1_append) := goodIn_app (goodIn_of _ (by decide +kernel)) ggX4_put_X1_append
theorem dX4_put_0 : decode cX4_put 0 = .ok (.lload_n 1, 1) := by decide +kernel
theorem dX4_put_1 : decode cX4_put 1 = .ok (.invokestatic 189, 3) := by decide +kernel
theorem dX4_put_4 : decode cX4_put 4 = .ok (.istore_n 3, 1) := by decide +kernel
theorem dX4_put_5 : decode cX4_put 5 = .ok (.iload_n 3, 1) := by decide +kernel
theorem dX4_put_6 : decode cX4_put 6 = .ok (.ifCond .ne 6, 3) := by decide +kernel
theorem dX4_put_9 : decode cX4_put 9 = .ok (.bipush (-2), 2) := by decide +kernel
theorem dX4_put_11 : decode cX4_put 11 = .ok (.ireturn, 1) := by decide +kernel
theorem dX4_put_12 : decode cX4_put 12 = .ok (.aload_n 0, 1) := by decide +kernel
theorem dX4_put_13 : decode cX4_put 13 = .ok (.getfield 34, 3) := by decide +kernel
theorem dX4_put_16 : decode cX4_put 16 = .ok (.getfield 168, 3) := by decide +kernel
theorem dX4_put_19 : decode cX4_put 19 = .ok (.iload_n 3, 1) := by decide +kernel
theorem dX4_put_20 : decode cX4_put 20 = .ok (.iadd, 1) := by decide +kernel
theorem dX4_put_21 : decode cX4_put 21 = .ok (.bipush 80, 2) := by decide +kernel
theorem dX4_put_23 : decode cX4_put 23 = .ok (.if_icmp .le 6, 3) := by decide +kernel
theorem dX4_put_26 : decode cX4_put 26 = .ok (.bipush (-4), 2) := by decide +kernel
theorem dX4_put_28 : decode cX4_put 28 = .ok (.ireturn, 1) := by decide +kernel
theorem dX4_put_29 : decode cX4_put 29 = .ok (.iload_n 3, 1) := by decide +kernel
theorem dX4_put_30 : decode cX4_put 30 = .ok (.iconst 1, 1) := by decide +kernel
theorem dX4_put_31 : decode cX4_put 31 = .ok (.isub, 1) := by decide +kernel
theorem dX4_put_32 : decode cX4_put 32 = .ok (.istore 4, 2) := by decide +kernel
theorem dX4_put_34 : decode cX4_put 34 = .ok (.iload 4, 2) := by decide +kernel
theorem dX4_put_36 : decode cX4_put 36 = .ok (.ifCond .lt 29, 3) := by decide +kernel
theorem dX4_put_39 : decode cX4_put 39 = .ok (.aload_n 0, 1) := by decide +kernel
theorem dX4_put_40 : decode cX4_put 40 = .ok (.getfield 34, 3) := by decide +kernel
theorem dX4_put_43 : decode cX4_put 43 = .ok (.lload_n 1, 1) := by decide +kernel
theorem dX4_put_44 : decode cX4_put 44 = .ok (.bipush 8, 2) := by decide +kernel
theorem dX4_put_46 : decode cX4_put 46 = .ok (.iload 4, 2) := by decide +kernel
theorem dX4_put_48 : decode cX4_put 48 = .ok (.imul, 1) := by decide +kernel
theorem dX4_put_49 : decode cX4_put 49 = .ok (.lushr, 1) := by decide +kernel
theorem dX4_put_50 : decode cX4_put 50 = .ok (.ldc2_w 193, 3) := by decide +kernel
theorem dX4_put_53 : decode cX4_put 53 = .ok (.land, 1) := by decide +kernel
theorem dX4_put_54 : decode cX4_put 54 = .ok (.l2i, 1) := by decide +kernel
theorem dX4_put_55 : decode cX4_put 55 = .ok (.i2c, 1) := by decide +kernel
theorem dX4_put_56 : decode cX4_put 56 = .ok (.invokevirtual 195, 3) := by decide +kernel
theorem dX4_put_59 : decode cX4_put 59 = .ok (.iinc 4 (-1), 3) := by decide +kernel
theorem dX4_put_62 : decode cX4_put 62 = .ok (.goto (-28), 3) := by decide +kernel
theorem dX4_put_65 : decode cX4_put 65 = .ok (.aload_n 0, 1) := by decide +kernel
theorem dX4_put_66 : decode cX4_put 66 = .ok (.getfield 34, 3) := by decide +kernel
theorem dX4_put_69 : decode cX4_put 69 = .ok (.getfield 168, 3) := by decide +kernel
theorem dX4_put_72 : decode cX4_put 72 = .ok (.ireturn, 1) := by decide +kernel
set_option maxRecDepth 20000 in
theorem ggX4_wipe_X1_clear : GoodIn wsX4_wipe wsX1_clear := goodIn_r _ [6, 7, 14, 15, 16, 17, 18, 19, 20] (by decide +kernel) (by decide +kernel)
set_option maxRecDepth 20000 in
theorem gX4_wipe_X1_clear : GoodIn wsX4_wipe (wsV RX4 199 RX1 yX1_clear wsX1_clear) := goodIn_app (goodIn_of _ (by decide +kernel)) ggX4_wipe_X1_clear
theorem dX4_wipe_0 : decode cX4_wipe 0 = .ok (.aload_n 0, 1) := by decide +kernel
theorem dX4_wipe_1 : decode cX4_wipe 1 = .ok (.getfield 34, 3) := by decide +kernel
theorem dX4_wipe_4 : decode cX4_wipe 4 = .ok (.getfield 168, 3) := by decide +kernel
theorem dX4_wipe_7 : decode cX4_wipe 7 = .ok (.istore_n 1, 1) := by decide +kernel
theorem dX4_wipe_8 : decode cX4_wipe 8 = .ok (.aload_n 0, 1) := by decide +kernel
theorem dX4_wipe_9 : decode cX4_wipe 9 = .ok (.getfield 34, 3) := by decide +kernel
theorem dX4_wipe_12 : decode cX4_wipe 12 = .ok (.invokevirtual 199, 3) := by decide +kernel
theorem dX4_wipe_15 : decode cX4_wipe 15 = .ok (.iload_n 1, 1) := by decide +kernel
theorem dX4_wipe_16 : decode cX4_wipe 16 = .ok (.ireturn, 1) := by decide +kernel
set_option maxRecDepth 20000 in
theorem ggX4_fault_X1_faultPlace : GoodIn wsX4_fault wsX1_faultPlace := goodIn_r _ [6, 7, 8, 9, 10, 11, 5, 12, 13, 14, 15, 16, 17, 18, 19, 20, 21, 22, 23, 24, 25, 26, 27, 28, 29, 30, 31, 32, 33, 34, 35, 36, 37, 38, 39, 40, 41, 42, 43, 44, 45, 46, 47, 48, 49, 50, 51, 52, 53, 54, 61, 62, 63, 64, 65, 66, 67] (by decide +kernel) (by decide +kernel)
set_option maxRecDepth 20000 in
theorem gX4_fault_X1_faultPlace : GoodIn wsX4_fault (wsV RX4 202 RX1 yX1_faultPlace wsX1_faultPlace) := goodIn_app (goodIn_of _ (by decide +kernel)) ggX4_fault_X1_faultPlace
theorem dX4_fault_0 : decode cX4_fault 0 = .ok (.aload_n 0, 1) := by decide +kernel
theorem dX4_fault_1 : decode cX4_fault 1 = .ok (.getfield 34, 3) := by decide +kernel
theorem dX4_fault_4 : decode cX4_fault 4 = .ok (.invokevirtual 202, 3) := by decide +kernel
theorem dX4_fault_7 : decode cX4_fault 7 = .ok (.ireturn, 1) := by decide +kernel
set_option maxRecDepth 20000 in
theorem ggX4_carryOut_X1_faultPlace : GoodIn wsX4_carryOut wsX1_faultPlace := goodIn_r _ [8, 9, 10, 11, 12, 13, 7, 14, 15, 16, 17, 18, 19, 20, 21, 22, 23, 24, 25, 26, 27, 28, 29, 30, 31, 32, 33, 34, 35, 36, 37, 38, 39, 40, 41, 42, 43, 44, 45, 46, 47, 48, 49, 50, 51, 52, 53, 54, 55, 56, 229, 230, 231, 232, 233, 234, 235] (by decide +kernel) (by decide +kernel)
set_option maxRecDepth 20000 in
theorem gX4_carryOut_X1_faultPlace : GoodIn wsX4_carryOut (wsV RX4 202 RX1 yX1_faultPlace wsX1_faultPlace) := goodIn_app (goodIn_of _ (by decide +kernel)) ggX4_carryOut_X1_faultPlace
set_option maxRecDepth 20000 in
theorem ggX4_carryOut_X0_record : GoodIn wsX4_carryOut wsX0_record := goodIn_r _ [61, 62, 63, 64, 65, 66, 67, 68, 69, 70, 71, 72, 73, 74, 75, 76, 77, 78, 79, 80, 81, 82, 83, 84, 85, 86, 87, 88, 89, 236, 237, 238, 239, 240, 241, 242, 243, 244, 245] (by decide +kernel) (by decide +kernel)
set_option maxRecDepth 20000 in
theorem gX4_carryOut_X0_record : GoodIn wsX4_carryOut (wsV RX4 46 RX0 yX0_record wsX0_record) := goodIn_app (goodIn_of _ (by decide +kernel)) ggX4_carryOut_X0_record
set_option maxRecDepth 20000 in
theorem ggX4_carryOut_X1_goToStart : GoodIn wsX4_carryOut wsX1_goToStart := goodIn_r _ [14, 9, 229, 230, 231, 232, 233, 234, 235] (by decide +kernel) (by decide +kernel)
set_option maxRecDepth 20000 in
theorem gX4_carryOut_X1_goToStart : GoodIn wsX4_carryOut (wsV RX4 205 RX1 yX1_goToStart wsX1_goToStart) := goodIn_app (goodIn_of _ (by decide +kernel)) ggX4_carryOut_X1_goToStart
set_option maxRecDepth 20000 in
theorem ggX4_carryOut_X1_readOrder : GoodIn wsX4_carryOut wsX1_readOrder := goodIn_r _ [18, 19, 20, 9, 21, 22, 23, 24, 7, 25, 26, 27, 28, 29, 30, 31, 32, 33, 10, 34, 35, 36, 37, 38, 39, 40, 41, 42, 43, 44, 45, 46, 47, 48, 49, 50, 51, 52, 53, 54, 55, 56, 229, 230, 231, 232, 233, 234, 235] (by decide +kernel) (by decide +kernel)
set_option maxRecDepth 20000 in
theorem gX4_carryOut_X1_readOrder : GoodIn wsX4_carryOut (wsV RX4 208 RX1 yX1_readOrder wsX1_readOrder) := goodIn_app (goodIn_of _ (by decide +kernel)) ggX4_carryOut_X1_readOrder
set_option maxRecDepth 20000 in
theorem ggX4_carryOut_X4_carryOrderOut : GoodIn wsX4_carryOut wsX4_carryOrderOut := goodIn_r _ [96, 3, 1, 97, 98, 99, 72, 100, 75, 101, 102, 103, 95, 104, 105, 106, 107, 7, 108, 19, 48, 109, 110, 111, 112, 113, 114, 115, 116, 117, 118, 119, 120, 79, 121, 122, 123, 124, 125, 126, 127, 128, 129, 81, 130, 131, 132, 133, 134, 135, 136, 137, 138, 139, 140, 141, 142, 143, 144, 82, 145, 146, 147, 148, 149, 150, 151, 152, 89, 88, 87, 153, 154, 155, 156, 157, 158, 159, 160, 161, 162, 163, 164, 165, 166, 167, 168, 169, 170, 171, 172, 173, 174, 175, 176, 177, 178, 179, 180, 181, 182, 183, 184, 185, 186, 187, 188, 189, 190, 191, 192, 193, 194, 195, 196, 197, 198, 199, 200, 201, 202, 203, 204, 205, 206, 207, 208, 209, 210, 211, 212, 213, 214, 215, 216, 217, 223, 224, 225, 226, 227, 228, 229, 230, 231, 232, 233, 234, 235, 241, 242, 243, 244, 245, 239, 240] (by decide +kernel) (by decide +kernel)
set_option maxRecDepth 20000 in
theorem gX4_carryOut_X4_carryOrderOut : GoodIn wsX4_carryOut (wsV RX4 212 RX4 yX4_carryOrderOut wsX4_carryOrderOut) := goodIn_app (goodIn_of _ (by decide +kernel)) ggX4_carryOut_X4_carryOrderOut
set_option maxRecDepth 20000 in
theorem ggX4_carryOut_X1_accept : GoodIn wsX4_carryOut wsX1_accept := goodIn_r _ [52, 9, 30, 31, 32, 7, 33, 10, 34, 229, 230, 231, 232, 233, 234, 235] (by decide +kernel) (by decide +kernel)
set_option maxRecDepth 20000 in
theorem gX4_carryOut_X1_accept : GoodIn wsX4_carryOut (wsV RX4 215 RX1 yX1_accept wsX1_accept) := goodIn_app (goodIn_of _ (by decide +kernel)) ggX4_carryOut_X1_accept
set_option maxRecDepth 20000 in
theorem ggX4_carryOut_X1_clear : GoodIn wsX4_carryOut wsX1_clear := goodIn_r _ [222, 10, 229, 230, 231, 232, 233, 234, 235] (by decide +kernel) (by decide +kernel)
set_option maxRecDepth 20000 in
theorem gX4_carryOut_X1_clear : GoodIn wsX4_carryOut (wsV RX4 199 RX1 yX1_clear wsX1_clear) := goodIn_app (goodIn_of _ (by decide +kernel)) ggX4_carryOut_X1_clear
theorem dX4_carryOut_0 : decode cX4_carryOut 0 = .ok (.aload_n 0, 1) := by decide +kernel
theorem dX4_carryOut_1 : decode cX4_carryOut 1 = .ok (.getfield 34, 3) := by decide +kernel
theorem dX4_carryOut_4 : decode cX4_carryOut 4 = .ok (.invokevirtual 202, 3) := by decide +kernel
theorem dX4_carryOut_7 : decode cX4_carryOut 7 = .ok (.bipush (-6), 2) := by decide +kernel
theorem dX4_carryOut_9 : decode cX4_carryOut 9 = .ok (.if_icmp .eq 6, 3) := by decide +kernel
theorem dX4_carryOut_12 : decode cX4_carryOut 12 = .ok (.bipush (-3), 2) := by decide +kernel
theorem dX4_carryOut_14 : decode cX4_carryOut 14 = .ok (.ireturn, 1) := by decide +kernel
theorem dX4_carryOut_15 : decode cX4_carryOut 15 = .ok (.aload_n 0, 1) := by decide +kernel
theorem dX4_carryOut_16 : decode cX4_carryOut 16 = .ok (.getfield 19, 3) := by decide +kernel
theorem dX4_carryOut_19 : decode cX4_carryOut 19 = .ok (.aload_n 0, 1) := by decide +kernel
theorem dX4_carryOut_20 : decode cX4_carryOut 20 = .ok (.getfield 10, 3) := by decide +kernel
theorem dX4_carryOut_23 : decode cX4_carryOut 23 = .ok (.invokevirtual 46, 3) := by decide +kernel
theorem dX4_carryOut_26 : decode cX4_carryOut 26 = .ok (.iconst 0, 1) := by decide +kernel
theorem dX4_carryOut_27 : decode cX4_carryOut 27 = .ok (.istore_n 1, 1) := by decide +kernel
theorem dX4_carryOut_28 : decode cX4_carryOut 28 = .ok (.aload_n 0, 1) := by decide +kernel
theorem dX4_carryOut_29 : decode cX4_carryOut 29 = .ok (.getfield 34, 3) := by decide +kernel
theorem dX4_carryOut_32 : decode cX4_carryOut 32 = .ok (.invokevirtual 205, 3) := by decide +kernel
theorem dX4_carryOut_35 : decode cX4_carryOut 35 = .ok (.iload_n 1, 1) := by decide +kernel
theorem dX4_carryOut_36 : decode cX4_carryOut 36 = .ok (.bipush 80, 2) := by decide +kernel
theorem dX4_carryOut_38 : decode cX4_carryOut 38 = .ok (.if_icmp .ge 38, 3) := by decide +kernel
theorem dX4_carryOut_41 : decode cX4_carryOut 41 = .ok (.aload_n 0, 1) := by decide +kernel
theorem dX4_carryOut_42 : decode cX4_carryOut 42 = .ok (.getfield 34, 3) := by decide +kernel
theorem dX4_carryOut_45 : decode cX4_carryOut 45 = .ok (.invokevirtual 208, 3) := by decide +kernel
theorem dX4_carryOut_48 : decode cX4_carryOut 48 = .ok (.ifCond .eq 28, 3) := by decide +kernel
theorem dX4_carryOut_51 : decode cX4_carryOut 51 = .ok (.aload_n 0, 1) := by decide +kernel
theorem dX4_carryOut_52 : decode cX4_carryOut 52 = .ok (.invokevirtual 212, 3) := by decide +kernel
theorem dX4_carryOut_55 : decode cX4_carryOut 55 = .ok (.ifCond .eq 21, 3) := by decide +kernel
theorem dX4_carryOut_58 : decode cX4_carryOut 58 = .ok (.iinc 1 1, 3) := by decide +kernel
theorem dX4_carryOut_61 : decode cX4_carryOut 61 = .ok (.aload_n 0, 1) := by decide +kernel
theorem dX4_carryOut_62 : decode cX4_carryOut 62 = .ok (.getfield 34, 3) := by decide +kernel
theorem dX4_carryOut_65 : decode cX4_carryOut 65 = .ok (.bipush 59, 2) := by decide +kernel
theorem dX4_carryOut_67 : decode cX4_carryOut 67 = .ok (.invokevirtual 215, 3) := by decide +kernel
theorem dX4_carryOut_70 : decode cX4_carryOut 70 = .ok (.ifCond .ne (-35), 3) := by decide +kernel
theorem dX4_carryOut_73 : decode cX4_carryOut 73 = .ok (.goto 3, 3) := by decide +kernel
theorem dX4_carryOut_76 : decode cX4_carryOut 76 = .ok (.aload_n 0, 1) := by decide +kernel
theorem dX4_carryOut_77 : decode cX4_carryOut 77 = .ok (.getfield 34, 3) := by decide +kernel
theorem dX4_carryOut_80 : decode cX4_carryOut 80 = .ok (.invokevirtual 199, 3) := by decide +kernel
theorem dX4_carryOut_83 : decode cX4_carryOut 83 = .ok (.iload_n 1, 1) := by decide +kernel
theorem dX4_carryOut_84 : decode cX4_carryOut 84 = .ok (.ireturn, 1) := by decide +kernel
set_option maxRecDepth 20000 in
theorem ggX4_undo_X0_takeBack : GoodIn wsX4_undo wsX0_takeBack := goodIn_r _ [7, 8, 9, 10, 11, 12, 13, 14, 15, 16, 17, 18, 19, 20, 21, 22, 23, 24, 25, 26, 27, 28, 29, 30, 31, 32, 33, 34, 35, 42, 43, 44, 45, 46, 47, 48, 49, 50, 51] (by decide +kernel) (by decide +kernel)
set_option maxRecDepth 20000 in
theorem gX4_undo_X0_takeBack : GoodIn wsX4_undo (wsV RX4 219 RX0 yX0_takeBack wsX0_takeBack) := goodIn_app (goodIn_of _ (by decide +kernel)) ggX4_undo_X0_takeBack
theorem dX4_undo_0 : decode cX4_undo 0 = .ok (.aload_n 0, 1) := by decide +kernel
theorem dX4_undo_1 : decode cX4_undo 1 = .ok (.getfield 19, 3) := by decide +kernel
theorem dX4_undo_4 : decode cX4_undo 4 = .ok (.getfield 171, 3) := by decide +kernel
theorem dX4_undo_7 : decode cX4_undo 7 = .ok (.ifCond .ne 6, 3) := by decide +kernel
theorem dX4_undo_10 : decode cX4_undo 10 = .ok (.bipush (-5), 2) := by decide +kernel
theorem dX4_undo_12 : decode cX4_undo 12 = .ok (.ireturn, 1) := by decide +kernel
theorem dX4_undo_13 : decode cX4_undo 13 = .ok (.aload_n 0, 1) := by decide +kernel
theorem dX4_undo_14 : decode cX4_undo 14 = .ok (.getfield 19, 3) := by decide +kernel
theorem dX4_undo_17 : decode cX4_undo 17 = .ok (.aload_n 0, 1) := by decide +kernel
theorem dX4_undo_18 : decode cX4_undo 18 = .ok (.getfield 10, 3) := by decide +kernel
theorem dX4_undo_21 : decode cX4_undo 21 = .ok (.invokevirtual 219, 3) := by decide +kernel
theorem dX4_undo_24 : decode cX4_undo 24 = .ok (.aload_n 0, 1) := by decide +kernel
theorem dX4_undo_25 : decode cX4_undo 25 = .ok (.getfield 19, 3) := by decide +kernel
theorem dX4_undo_28 : decode cX4_undo 28 = .ok (.getfield 171, 3) := by decide +kernel
theorem dX4_undo_31 : decode cX4_undo 31 = .ok (.ireturn, 1) := by decide +kernel
set_option maxRecDepth 20000 in
theorem ggX4_save_X3_copyFrom : GoodIn wsX4_save wsX3_copyFrom := goodIn_r _ [8, 9, 10, 11, 12, 13, 14, 15, 16, 17, 18, 19, 20, 21, 22, 23, 24, 51, 52, 53, 54, 55, 56, 57] (by decide +kernel) (by decide +kernel)
set_option maxRecDepth 20000 in
theorem gX4_save_X3_copyFrom : GoodIn wsX4_save (wsV RX4 222 RX3 yX3_copyFrom wsX3_copyFrom) := goodIn_app (goodIn_of _ (by decide +kernel)) ggX4_save_X3_copyFrom
set_option maxRecDepth 20000 in
theorem ggX4_save_X3_filledBuckets : GoodIn wsX4_save wsX3_filledBuckets := goodIn_r _ [28, 10, 29, 30, 31, 14, 32, 33, 34, 35, 36, 16, 37, 38, 39, 40, 17, 41, 42, 43, 44, 51, 52, 53, 54, 55, 56, 57] (by decide +kernel) (by decide +kernel)
set_option maxRecDepth 20000 in
theorem gX4_save_X3_filledBuckets : GoodIn wsX4_save (wsV RX4 164 RX3 yX3_filledBuckets wsX3_filledBuckets) := goodIn_app (goodIn_of _ (by decide +kernel)) ggX4_save_X3_filledBuckets
theorem dX4_save_0 : decode cX4_save 0 = .ok (.iload_n 1, 1) := by decide +kernel
theorem dX4_save_1 : decode cX4_save 1 = .ok (.ifCond .lt 8, 3) := by decide +kernel
theorem dX4_save_4 : decode cX4_save 4 = .ok (.iload_n 1, 1) := by decide +kernel
theorem dX4_save_5 : decode cX4_save 5 = .ok (.iconst 2, 1) := by decide +kernel
theorem dX4_save_6 : decode cX4_save 6 = .ok (.if_icmp .lt 6, 3) := by decide +kernel
theorem dX4_save_9 : decode cX4_save 9 = .ok (.bipush (-2), 2) := by decide +kernel
theorem dX4_save_11 : decode cX4_save 11 = .ok (.ireturn, 1) := by decide +kernel
theorem dX4_save_12 : decode cX4_save 12 = .ok (.aload_n 0, 1) := by decide +kernel
theorem dX4_save_13 : decode cX4_save 13 = .ok (.getfield 23, 3) := by decide +kernel
theorem dX4_save_16 : decode cX4_save 16 = .ok (.iload_n 1, 1) := by decide +kernel
theorem dX4_save_17 : decode cX4_save 17 = .ok (.aaload, 1) := by decide +kernel
theorem dX4_save_18 : decode cX4_save 18 = .ok (.aload_n 0, 1) := by decide +kernel
theorem dX4_save_19 : decode cX4_save 19 = .ok (.getfield 10, 3) := by decide +kernel
theorem dX4_save_22 : decode cX4_save 22 = .ok (.invokevirtual 222, 3) := by decide +kernel
theorem dX4_save_25 : decode cX4_save 25 = .ok (.aload_n 0, 1) := by decide +kernel
theorem dX4_save_26 : decode cX4_save 26 = .ok (.getfield 27, 3) := by decide +kernel
theorem dX4_save_29 : decode cX4_save 29 = .ok (.iload_n 1, 1) := by decide +kernel
theorem dX4_save_30 : decode cX4_save 30 = .ok (.iconst 1, 1) := by decide +kernel
theorem dX4_save_31 : decode cX4_save 31 = .ok (.bastore, 1) := by decide +kernel
theorem dX4_save_32 : decode cX4_save 32 = .ok (.aload_n 0, 1) := by decide +kernel
theorem dX4_save_33 : decode cX4_save 33 = .ok (.getfield 10, 3) := by decide +kernel
theorem dX4_save_36 : decode cX4_save 36 = .ok (.invokevirtual 164, 3) := by decide +kernel
theorem dX4_save_39 : decode cX4_save 39 = .ok (.ireturn, 1) := by decide +kernel
set_option maxRecDepth 20000 in
theorem ggX4_restore_X0_record : GoodIn wsX4_restore wsX0_record := goodIn_r _ [9, 10, 11, 12, 13, 14, 15, 16, 17, 18, 19, 20, 21, 22, 23, 24, 25, 26, 27, 28, 29, 30, 31, 32, 33, 34, 35, 36, 37, 65, 66, 67, 68, 69, 70, 71, 72, 73, 74] (by decide +kernel) (by decide +kernel)
set_option maxRecDepth 20000 in
theorem gX4_restore_X0_record : GoodIn wsX4_restore (wsV RX4 46 RX0 yX0_record wsX0_record) := goodIn_app (goodIn_of _ (by decide +kernel)) ggX4_restore_X0_record
set_option maxRecDepth 20000 in
theorem ggX4_restore_X3_copyFrom : GoodIn wsX4_restore wsX3_copyFrom := goodIn_r _ [21, 22, 23, 24, 25, 26, 27, 28, 29, 30, 31, 32, 33, 34, 35, 36, 37, 68, 69, 70, 71, 72, 73, 74] (by decide +kernel) (by decide +kernel)
set_option maxRecDepth 20000 in
theorem gX4_restore_X3_copyFrom : GoodIn wsX4_restore (wsV RX4 222 RX3 yX3_copyFrom wsX3_copyFrom) := goodIn_app (goodIn_of _ (by decide +kernel)) ggX4_restore_X3_copyFrom
set_option maxRecDepth 20000 in
theorem ggX4_restore_X3_filledBuckets : GoodIn wsX4_restore wsX3_filledBuckets := goodIn_r _ [42, 23, 43, 44, 45, 27, 46, 47, 48, 49, 50, 29, 51, 52, 53, 54, 30, 55, 56, 57, 58, 68, 69, 70, 71, 72, 73, 74] (by decide +kernel) (by decide +kernel)
set_option maxRecDepth 20000 in
theorem gX4_restore_X3_filledBuckets : GoodIn wsX4_restore (wsV RX4 164 RX3 yX3_filledBuckets wsX3_filledBuckets) := goodIn_app (goodIn_of _ (by decide +kernel)) ggX4_restore_X3_filledBuckets
theorem dX4_restore_0 : decode cX4_restore 0 = .ok (.iload_n 1, 1) := by decide +kernel
theorem dX4_restore_1 : decode cX4_restore 1 = .ok (.ifCond .lt 8, 3) := by decide +kernel
theorem dX4_restore_4 : decode cX4_restore 4 = .ok (.iload_n 1, 1) := by decide +kernel
theorem dX4_restore_5 : decode cX4_restore 5 = .ok (.iconst 2, 1) := by decide +kernel
theorem dX4_restore_6 : decode cX4_restore 6 = .ok (.if_icmp .lt 6, 3) := by decide +kernel
theorem dX4_restore_9 : decode cX4_restore 9 = .ok (.bipush (-2), 2) := by decide +kernel
theorem dX4_restore_11 : decode cX4_restore 11 = .ok (.ireturn, 1) := by decide +kernel
theorem dX4_restore_12 : decode cX4_restore 12 = .ok (.aload_n 0, 1) := by decide +kernel
theorem dX4_restore_13 : decode cX4_restore 13 = .ok (.getfield 27, 3) := by decide +kernel
theorem dX4_restore_16 : decode cX4_restore 16 = .ok (.iload_n 1, 1) := by decide +kernel
theorem dX4_restore_17 : decode cX4_restore 17 = .ok (.baload, 1) := by decide +kernel
theorem dX4_restore_18 : decode cX4_restore 18 = .ok (.ifCond .ne 6, 3) := by decide +kernel
theorem dX4_restore_21 : decode cX4_restore 21 = .ok (.bipush (-5), 2) := by decide +kernel
theorem dX4_restore_23 : decode cX4_restore 23 = .ok (.ireturn, 1) := by decide +kernel
theorem dX4_restore_24 : decode cX4_restore 24 = .ok (.aload_n 0, 1) := by decide +kernel
theorem dX4_restore_25 : decode cX4_restore 25 = .ok (.getfield 19, 3) := by decide +kernel
theorem dX4_restore_28 : decode cX4_restore 28 = .ok (.aload_n 0, 1) := by decide +kernel
theorem dX4_restore_29 : decode cX4_restore 29 = .ok (.getfield 10, 3) := by decide +kernel
theorem dX4_restore_32 : decode cX4_restore 32 = .ok (.invokevirtual 46, 3) := by decide +kernel
theorem dX4_restore_35 : decode cX4_restore 35 = .ok (.aload_n 0, 1) := by decide +kernel
theorem dX4_restore_36 : decode cX4_restore 36 = .ok (.getfield 10, 3) := by decide +kernel
theorem dX4_restore_39 : decode cX4_restore 39 = .ok (.aload_n 0, 1) := by decide +kernel
theorem dX4_restore_40 : decode cX4_restore 40 = .ok (.getfield 23, 3) := by decide +kernel
theorem dX4_restore_43 : decode cX4_restore 43 = .ok (.iload_n 1, 1) := by decide +kernel
theorem dX4_restore_44 : decode cX4_restore 44 = .ok (.aaload, 1) := by decide +kernel
theorem dX4_restore_45 : decode cX4_restore 45 = .ok (.invokevirtual 222, 3) := by decide +kernel
theorem dX4_restore_48 : decode cX4_restore 48 = .ok (.aload_n 0, 1) := by decide +kernel
theorem dX4_restore_49 : decode cX4_restore 49 = .ok (.getfield 10, 3) := by decide +kernel
theorem dX4_restore_52 : decode cX4_restore 52 = .ok (.invokevirtual 164, 3) := by decide +kernel
theorem dX4_restore_55 : decode cX4_restore 55 = .ok (.ireturn, 1) := by decide +kernel
theorem dX4_isThing_0 : decode cX4_isThing 0 = .ok (.iload_n 0, 1) := by decide +kernel
theorem dX4_isThing_1 : decode cX4_isThing 1 = .ok (.ifCond .lt 13, 3) := by decide +kernel
theorem dX4_isThing_4 : decode cX4_isThing 4 = .ok (.iload_n 0, 1) := by decide +kernel
theorem dX4_isThing_5 : decode cX4_isThing 5 = .ok (.ldc 184, 2) := by decide +kernel
theorem dX4_isThing_7 : decode cX4_isThing 7 = .ok (.if_icmp .ge 7, 3) := by decide +kernel
theorem dX4_isThing_10 : decode cX4_isThing 10 = .ok (.iconst 1, 1) := by decide +kernel
theorem dX4_isThing_11 : decode cX4_isThing 11 = .ok (.goto 4, 3) := by decide +kernel
theorem dX4_isThing_14 : decode cX4_isThing 14 = .ok (.iconst 0, 1) := by decide +kernel
theorem dX4_isThing_15 : decode cX4_isThing 15 = .ok (.ireturn, 1) := by decide +kernel
set_option maxRecDepth 20000 in
theorem ggX4_isRange_X4_isThing : GoodIn wsX4_isRange wsX4_isThing := goodIn_r _ [5, 1] (by decide +kernel) (by decide +kernel)
set_option maxRecDepth 20000 in
theorem gX4_isRange_X4_isThing : GoodIn wsX4_isRange (va_wsS RX4 68 yX4_isThing wsX4_isThing) := goodIn_app (goodIn_of _ (by decide +kernel)) ggX4_isRange_X4_isThing
theorem dX4_isRange_0 : decode cX4_isRange 0 = .ok (.iload_n 0, 1) := by decide +kernel
theorem dX4_isRange_1 : decode cX4_isRange 1 = .ok (.invokestatic 68, 3) := by decide +kernel
theorem dX4_isRange_4 : decode cX4_isRange 4 = .ok (.ifCond .eq 27, 3) := by decide +kernel
theorem dX4_isRange_7 : decode cX4_isRange 7 = .ok (.iload_n 1, 1) := by decide +kernel
theorem dX4_isRange_8 : decode cX4_isRange 8 = .ok (.iconst 1, 1) := by decide +kernel
theorem dX4_isRange_9 : decode cX4_isRange 9 = .ok (.if_icmp .lt 22, 3) := by decide +kernel
theorem dX4_isRange_12 : decode cX4_isRange 12 = .ok (.iload_n 1, 1) := by decide +kernel
theorem dX4_isRange_13 : decode cX4_isRange 13 = .ok (.sipush 999, 3) := by decide +kernel
theorem dX4_isRange_16 : decode cX4_isRange 16 = .ok (.if_icmp .gt 15, 3) := by decide +kernel
theorem dX4_isRange_19 : decode cX4_isRange 19 = .ok (.iload_n 0, 1) := by decide +kernel
theorem dX4_isRange_20 : decode cX4_isRange 20 = .ok (.iload_n 1, 1) := by decide +kernel
theorem dX4_isRange_21 : decode cX4_isRange 21 = .ok (.iadd, 1) := by decide +kernel
theorem dX4_isRange_22 : decode cX4_isRange 22 = .ok (.ldc 184, 2) := by decide +kernel
theorem dX4_isRange_24 : decode cX4_isRange 24 = .ok (.if_icmp .gt 7, 3) := by decide +kernel
theorem dX4_isRange_27 : decode cX4_isRange 27 = .ok (.iconst 1, 1) := by decide +kernel
theorem dX4_isRange_28 : decode cX4_isRange 28 = .ok (.goto 4, 3) := by decide +kernel
theorem dX4_isRange_31 : decode cX4_isRange 31 = .ok (.iconst 0, 1) := by decide +kernel
theorem dX4_isRange_32 : decode cX4_isRange 32 = .ok (.ireturn, 1) := by decide +kernel
theorem dX4_areToJoin_0 : decode cX4_areToJoin 0 = .ok (.aload_n 0, 1) := by decide +kernel
theorem dX4_areToJoin_1 : decode cX4_areToJoin 1 = .ok (.aload_n 1, 1) := by decide +kernel
theorem dX4_areToJoin_2 : decode cX4_areToJoin 2 = .ok (.if_acmp .eq 18, 3) := by decide +kernel
theorem dX4_areToJoin_5 : decode cX4_areToJoin 5 = .ok (.aload_n 0, 1) := by decide +kernel
theorem dX4_areToJoin_6 : decode cX4_areToJoin 6 = .ok (.getfield 62, 3) := by decide +kernel
theorem dX4_areToJoin_9 : decode cX4_areToJoin 9 = .ok (.aload_n 1, 1) := by decide +kernel
theorem dX4_areToJoin_10 : decode cX4_areToJoin 10 = .ok (.getfield 62, 3) := by decide +kernel
theorem dX4_areToJoin_13 : decode cX4_areToJoin 13 = .ok (.if_icmp .ne 7, 3) := by decide +kernel
theorem dX4_areToJoin_16 : decode cX4_areToJoin 16 = .ok (.iconst 1, 1) := by decide +kernel
theorem dX4_areToJoin_17 : decode cX4_areToJoin 17 = .ok (.goto 4, 3) := by decide +kernel
theorem dX4_areToJoin_20 : decode cX4_areToJoin 20 = .ok (.iconst 0, 1) := by decide +kernel
theorem dX4_areToJoin_21 : decode cX4_areToJoin 21 = .ok (.ireturn, 1) := by decide +kernel
theorem dX4_isToFold_0 : decode cX4_isToFold 0 = .ok (.aload_n 0, 1) := by decide +kernel
theorem dX4_isToFold_1 : decode cX4_isToFold 1 = .ok (.getfield 62, 3) := by decide +kernel
theorem dX4_isToFold_4 : decode cX4_isToFold 4 = .ok (.iconst 2, 1) := by decide +kernel
theorem dX4_isToFold_5 : decode cX4_isToFold 5 = .ok (.if_icmp .le 7, 3) := by decide +kernel
theorem dX4_isToFold_8 : decode cX4_isToFold 8 = .ok (.iconst 1, 1) := by decide +kernel
theorem dX4_isToFold_9 : decode cX4_isToFold 9 = .ok (.goto 4, 3) := by decide +kernel
theorem dX4_isToFold_12 : decode cX4_isToFold 12 = .ok (.iconst 0, 1) := by decide +kernel
theorem dX4_isToFold_13 : decode cX4_isToFold 13 = .ok (.ireturn, 1) := by decide +kernel
theorem dX4_hashOf_0 : decode cX4_hashOf 0 = .ok (.iload_n 0, 1) := by decide +kernel
theorem dX4_hashOf_1 : decode cX4_hashOf 1 = .ok (.ldc 224, 2) := by decide +kernel
theorem dX4_hashOf_3 : decode cX4_hashOf 3 = .ok (.imul, 1) := by decide +kernel
theorem dX4_hashOf_4 : decode cX4_hashOf 4 = .ok (.iload_n 1, 1) := by decide +kernel
theorem dX4_hashOf_5 : decode cX4_hashOf 5 = .ok (.iadd, 1) := by decide +kernel
theorem dX4_hashOf_6 : decode cX4_hashOf 6 = .ok (.ldc 225, 2) := by decide +kernel
theorem dX4_hashOf_8 : decode cX4_hashOf 8 = .ok (.iand, 1) := by decide +kernel
theorem dX4_hashOf_9 : decode cX4_hashOf 9 = .ok (.istore_n 2, 1) := by decide +kernel
theorem dX4_hashOf_10 : decode cX4_hashOf 10 = .ok (.iload_n 2, 1) := by decide +kernel
theorem dX4_hashOf_11 : decode cX4_hashOf 11 = .ok (.iload_n 2, 1) := by decide +kernel
theorem dX4_hashOf_12 : decode cX4_hashOf 12 = .ok (.bipush 8, 2) := by decide +kernel
theorem dX4_hashOf_14 : decode cX4_hashOf 14 = .ok (.ishr, 1) := by decide +kernel
theorem dX4_hashOf_15 : decode cX4_hashOf 15 = .ok (.ixor, 1) := by decide +kernel
theorem dX4_hashOf_16 : decode cX4_hashOf 16 = .ok (.ireturn, 1) := by decide +kernel
set_option maxRecDepth 20000 in
theorem ggX4_takeThings_X4_hashOf : GoodIn wsX4_takeThings wsX4_hashOf := goodIn_r _ [5, 6, 7] (by decide +kernel) (by decide +kernel)
set_option maxRecDepth 20000 in
theorem gX4_takeThings_X4_hashOf : GoodIn wsX4_takeThings (va_wsS RX4 105 yX4_hashOf wsX4_hashOf) := goodIn_app (goodIn_of _ (by decide +kernel)) ggX4_takeThings_X4_hashOf
set_option maxRecDepth 20000 in
theorem ggX4_takeThings_X2_takeHash : GoodIn wsX4_takeThings wsX2_takeHash := goodIn_r _ [12, 13, 14, 15, 11, 16, 17, 18, 19, 20, 21, 22, 23, 24, 25, 26, 27, 28, 29, 30, 31, 32, 33, 34, 35, 36, 37, 38, 39, 40, 41, 65, 66, 67, 68, 69] (by decide +kernel) (by decide +kernel)
set_option maxRecDepth 20000 in
theorem gX4_takeThings_X2_takeHash : GoodIn wsX4_takeThings (wsV RX4 226 RX2 yX2_takeHash wsX2_takeHash) := goodIn_app (goodIn_of _ (by decide +kernel)) ggX4_takeThings_X2_takeHash
set_option maxRecDepth 20000 in
theorem ggX4_takeThings_X2_list : GoodIn wsX4_takeThings wsX2_list := goodIn_r _ [45, 46, 47, 48, 49, 50, 51, 11, 52, 53, 54, 55, 56, 65, 66, 67, 68, 69] (by decide +kernel) (by decide +kernel)
set_option maxRecDepth 20000 in
theorem gX4_takeThings_X2_list : GoodIn wsX4_takeThings (wsV RX4 229 RX2 yX2_list wsX2_list) := goodIn_app (goodIn_of _ (by decide +kernel)) ggX4_takeThings_X2_list
theorem dX4_takeThings_0 : decode cX4_takeThings 0 = .ok (.iconst 0, 1) := by decide +kernel
theorem dX4_takeThings_1 : decode cX4_takeThings 1 = .ok (.istore 4, 2) := by decide +kernel
theorem dX4_takeThings_3 : decode cX4_takeThings 3 = .ok (.iload_n 2, 1) := by decide +kernel
theorem dX4_takeThings_4 : decode cX4_takeThings 4 = .ok (.istore 5, 2) := by decide +kernel
theorem dX4_takeThings_6 : decode cX4_takeThings 6 = .ok (.iload 5, 2) := by decide +kernel
theorem dX4_takeThings_8 : decode cX4_takeThings 8 = .ok (.iload_n 2, 1) := by decide +kernel
theorem dX4_takeThings_9 : decode cX4_takeThings 9 = .ok (.iload_n 3, 1) := by decide +kernel
theorem dX4_takeThings_10 : decode cX4_takeThings 10 = .ok (.iadd, 1) := by decide +kernel
theorem dX4_takeThings_11 : decode cX4_takeThings 11 = .ok (.if_icmp .ge 37, 3) := by decide +kernel
theorem dX4_takeThings_14 : decode cX4_takeThings 14 = .ok (.aload_n 1, 1) := by decide +kernel
theorem dX4_takeThings_15 : decode cX4_takeThings 15 = .ok (.iload 5, 2) := by decide +kernel
theorem dX4_takeThings_17 : decode cX4_takeThings 17 = .ok (.aload_n 0, 1) := by decide +kernel
theorem dX4_takeThings_18 : decode cX4_takeThings 18 = .ok (.getfield 10, 3) := by decide +kernel
theorem dX4_takeThings_21 : decode cX4_takeThings 21 = .ok (.getfield 50, 3) := by decide +kernel
theorem dX4_takeThings_24 : decode cX4_takeThings 24 = .ok (.invokestatic 105, 3) := by decide +kernel
theorem dX4_takeThings_27 : decode cX4_takeThings 27 = .ok (.invokevirtual 226, 3) := by decide +kernel
theorem dX4_takeThings_30 : decode cX4_takeThings 30 = .ok (.ifCond .eq 6, 3) := by decide +kernel
theorem dX4_takeThings_33 : decode cX4_takeThings 33 = .ok (.iinc 4 1, 3) := by decide +kernel
theorem dX4_takeThings_36 : decode cX4_takeThings 36 = .ok (.aload_n 1, 1) := by decide +kernel
theorem dX4_takeThings_37 : decode cX4_takeThings 37 = .ok (.iload 5, 2) := by decide +kernel
theorem dX4_takeThings_39 : decode cX4_takeThings 39 = .ok (.invokevirtual 229, 3) := by decide +kernel
theorem dX4_takeThings_42 : decode cX4_takeThings 42 = .ok (.iinc 5 1, 3) := by decide +kernel
theorem dX4_takeThings_45 : decode cX4_takeThings 45 = .ok (.goto (-39), 3) := by decide +kernel
theorem dX4_takeThings_48 : decode cX4_takeThings 48 = .ok (.iload 4, 2) := by decide +kernel
theorem dX4_takeThings_50 : decode cX4_takeThings 50 = .ok (.ireturn, 1) := by decide +kernel
set_option maxRecDepth 20000 in
theorem ggX4_distanceBySalt_X2_startAgain : GoodIn wsX4_distanceBySalt wsX2_startAgain := goodIn_r _ [10, 11, 12, 13, 14, 15, 16, 17, 18, 106, 107, 108, 109, 110] (by decide +kernel) (by decide +kernel)
set_option maxRecDepth 20000 in
theorem gX4_distanceBySalt_X2_startAgain : GoodIn wsX4_distanceBySalt (wsV RX4 65 RX2 yX2_startAgain wsX2_startAgain) := goodIn_app (goodIn_of _ (by decide +kernel)) ggX4_distanceBySalt_X2_startAgain
set_option maxRecDepth 20000 in
theorem ggX4_distanceBySalt_X2_thingAt : GoodIn wsX4_distanceBySalt wsX2_thingAt := goodIn_r _ [22, 23, 24, 25, 26, 9, 27, 13, 106, 107, 108, 109, 110] (by decide +kernel) (by decide +kernel)
set_option maxRecDepth 20000 in
theorem gX4_distanceBySalt_X2_thingAt : GoodIn wsX4_distanceBySalt (wsV RX4 158 RX2 yX2_thingAt wsX2_thingAt) := goodIn_app (goodIn_of _ (by decide +kernel)) ggX4_distanceBySalt_X2_thingAt
set_option maxRecDepth 20000 in
theorem ggX4_distanceBySalt_X4_hashOf : GoodIn wsX4_distanceBySalt wsX4_hashOf := goodIn_r _ [31, 32, 33] (by decide +kernel) (by decide +kernel)
set_option maxRecDepth 20000 in
theorem gX4_distanceBySalt_X4_hashOf : GoodIn wsX4_distanceBySalt (va_wsS RX4 105 yX4_hashOf wsX4_hashOf) := goodIn_app (goodIn_of _ (by decide +kernel)) ggX4_distanceBySalt_X4_hashOf
set_option maxRecDepth 20000 in
theorem ggX4_distanceBySalt_X2_takeHash : GoodIn wsX4_distanceBySalt wsX2_takeHash := goodIn_r _ [37, 38, 39, 40, 9, 41, 42, 43, 44, 45, 11, 46, 47, 48, 49, 50, 51, 52, 53, 54, 55, 56, 57, 58, 59, 60, 12, 61, 62, 63, 64, 106, 107, 108, 109, 110] (by decide +kernel) (by decide +kernel)
set_option maxRecDepth 20000 in
theorem gX4_distanceBySalt_X2_takeHash : GoodIn wsX4_distanceBySalt (wsV RX4 226 RX2 yX2_takeHash wsX2_takeHash) := goodIn_app (goodIn_of _ (by decide +kernel)) ggX4_distanceBySalt_X2_takeHash
set_option maxRecDepth 20000 in
theorem ggX4_distanceBySalt_X2_estimate : GoodIn wsX4_distanceBySalt wsX2_estimate := goodIn_r _ [68, 69, 70, 71, 9, 72, 73, 74, 75, 76, 77, 78, 79, 80, 42, 43, 44, 45, 11, 81, 82, 83, 84, 12, 61, 62, 63, 64, 85, 86, 87, 88, 89, 90, 91, 92, 93, 94, 95, 96, 97, 98, 4, 99, 106, 107, 108, 109, 110] (by decide +kernel) (by decide +kernel)
set_option maxRecDepth 20000 in
theorem gX4_distanceBySalt_X2_estimate : GoodIn wsX4_distanceBySalt (wsV RX4 88 RX2 yX2_estimate wsX2_estimate) := goodIn_app (goodIn_of _ (by decide +kernel)) ggX4_distanceBySalt_X2_estimate
theorem dX4_distanceBySalt_0 : decode cX4_distanceBySalt 0 = .ok (.aload_n 0, 1) := by decide +kernel
theorem dX4_distanceBySalt_1 : decode cX4_distanceBySalt 1 = .ok (.getfield 41, 3) := by decide +kernel
theorem dX4_distanceBySalt_4 : decode cX4_distanceBySalt 4 = .ok (.aload_n 1, 1) := by decide +kernel
theorem dX4_distanceBySalt_5 : decode cX4_distanceBySalt 5 = .ok (.getfield 62, 3) := by decide +kernel
theorem dX4_distanceBySalt_8 : decode cX4_distanceBySalt 8 = .ok (.invokevirtual 65, 3) := by decide +kernel
theorem dX4_distanceBySalt_11 : decode cX4_distanceBySalt 11 = .ok (.iconst 0, 1) := by decide +kernel
theorem dX4_distanceBySalt_12 : decode cX4_distanceBySalt 12 = .ok (.istore_n 3, 1) := by decide +kernel
theorem dX4_distanceBySalt_13 : decode cX4_distanceBySalt 13 = .ok (.iload_n 3, 1) := by decide +kernel
theorem dX4_distanceBySalt_14 : decode cX4_distanceBySalt 14 = .ok (.aload_n 1, 1) := by decide +kernel
theorem dX4_distanceBySalt_15 : decode cX4_distanceBySalt 15 = .ok (.getfield 144, 3) := by decide +kernel
theorem dX4_distanceBySalt_18 : decode cX4_distanceBySalt 18 = .ok (.if_icmp .ge 26, 3) := by decide +kernel
theorem dX4_distanceBySalt_21 : decode cX4_distanceBySalt 21 = .ok (.aload_n 0, 1) := by decide +kernel
theorem dX4_distanceBySalt_22 : decode cX4_distanceBySalt 22 = .ok (.getfield 41, 3) := by decide +kernel
theorem dX4_distanceBySalt_25 : decode cX4_distanceBySalt 25 = .ok (.aload_n 1, 1) := by decide +kernel
theorem dX4_distanceBySalt_26 : decode cX4_distanceBySalt 26 = .ok (.iload_n 3, 1) := by decide +kernel
theorem dX4_distanceBySalt_27 : decode cX4_distanceBySalt 27 = .ok (.invokevirtual 158, 3) := by decide +kernel
theorem dX4_distanceBySalt_30 : decode cX4_distanceBySalt 30 = .ok (.iload_n 2, 1) := by decide +kernel
theorem dX4_distanceBySalt_31 : decode cX4_distanceBySalt 31 = .ok (.invokestatic 105, 3) := by decide +kernel
theorem dX4_distanceBySalt_34 : decode cX4_distanceBySalt 34 = .ok (.invokevirtual 226, 3) := by decide +kernel
theorem dX4_distanceBySalt_37 : decode cX4_distanceBySalt 37 = .ok (.pop, 1) := by decide +kernel
theorem dX4_distanceBySalt_38 : decode cX4_distanceBySalt 38 = .ok (.iinc 3 1, 3) := by decide +kernel
theorem dX4_distanceBySalt_41 : decode cX4_distanceBySalt 41 = .ok (.goto (-28), 3) := by decide +kernel
theorem dX4_distanceBySalt_44 : decode cX4_distanceBySalt 44 = .ok (.aload_n 0, 1) := by decide +kernel
theorem dX4_distanceBySalt_45 : decode cX4_distanceBySalt 45 = .ok (.getfield 41, 3) := by decide +kernel
theorem dX4_distanceBySalt_48 : decode cX4_distanceBySalt 48 = .ok (.invokevirtual 88, 3) := by decide +kernel
theorem dX4_distanceBySalt_51 : decode cX4_distanceBySalt 51 = .ok (.aload_n 1, 1) := by decide +kernel
theorem dX4_distanceBySalt_52 : decode cX4_distanceBySalt 52 = .ok (.getfield 144, 3) := by decide +kernel
theorem dX4_distanceBySalt_55 : decode cX4_distanceBySalt 55 = .ok (.isub, 1) := by decide +kernel
theorem dX4_distanceBySalt_56 : decode cX4_distanceBySalt 56 = .ok (.invokestatic 232, 3) := by decide +kernel
theorem dX4_distanceBySalt_59 : decode cX4_distanceBySalt 59 = .ok (.ireturn, 1) := by decide +kernel
theorem dX4_bitsOfShare_0 : decode cX4_bitsOfShare 0 = .ok (.iload_n 0, 1) := by decide +kernel
theorem dX4_bitsOfShare_1 : decode cX4_bitsOfShare 1 = .ok (.ifCond .gt 5, 3) := by decide +kernel
theorem dX4_bitsOfShare_4 : decode cX4_bitsOfShare 4 = .ok (.iconst 0, 1) := by decide +kernel
theorem dX4_bitsOfShare_5 : decode cX4_bitsOfShare 5 = .ok (.ireturn, 1) := by decide +kernel
theorem dX4_bitsOfShare_6 : decode cX4_bitsOfShare 6 = .ok (.iconst 0, 1) := by decide +kernel
theorem dX4_bitsOfShare_7 : decode cX4_bitsOfShare 7 = .ok (.istore_n 2, 1) := by decide +kernel
theorem dX4_bitsOfShare_8 : decode cX4_bitsOfShare 8 = .ok (.iconst 1, 1) := by decide +kernel
theorem dX4_bitsOfShare_9 : decode cX4_bitsOfShare 9 = .ok (.istore_n 3, 1) := by decide +kernel
theorem dX4_bitsOfShare_10 : decode cX4_bitsOfShare 10 = .ok (.iload_n 3, 1) := by decide +kernel
theorem dX4_bitsOfShare_11 : decode cX4_bitsOfShare 11 = .ok (.bipush 6, 2) := by decide +kernel
theorem dX4_bitsOfShare_13 : decode cX4_bitsOfShare 13 = .ok (.if_icmp .gt 17, 3) := by decide +kernel
theorem dX4_bitsOfShare_16 : decode cX4_bitsOfShare 16 = .ok (.iload_n 0, 1) := by decide +kernel
theorem dX4_bitsOfShare_17 : decode cX4_bitsOfShare 17 = .ok (.iload_n 3, 1) := by decide +kernel
theorem dX4_bitsOfShare_18 : decode cX4_bitsOfShare 18 = .ok (.ishr, 1) := by decide +kernel
theorem dX4_bitsOfShare_19 : decode cX4_bitsOfShare 19 = .ok (.ifCond .eq 5, 3) := by decide +kernel
theorem dX4_bitsOfShare_22 : decode cX4_bitsOfShare 22 = .ok (.iload_n 3, 1) := by decide +kernel
theorem dX4_bitsOfShare_23 : decode cX4_bitsOfShare 23 = .ok (.istore_n 2, 1) := by decide +kernel
theorem dX4_bitsOfShare_24 : decode cX4_bitsOfShare 24 = .ok (.iinc 3 1, 3) := by decide +kernel
theorem dX4_bitsOfShare_27 : decode cX4_bitsOfShare 27 = .ok (.goto (-17), 3) := by decide +kernel
theorem dX4_bitsOfShare_30 : decode cX4_bitsOfShare 30 = .ok (.bipush 127, 2) := by decide +kernel
theorem dX4_bitsOfShare_32 : decode cX4_bitsOfShare 32 = .ok (.iload_n 2, 1) := by decide +kernel
theorem dX4_bitsOfShare_33 : decode cX4_bitsOfShare 33 = .ok (.iadd, 1) := by decide +kernel
theorem dX4_bitsOfShare_34 : decode cX4_bitsOfShare 34 = .ok (.iload_n 1, 1) := by decide +kernel
theorem dX4_bitsOfShare_35 : decode cX4_bitsOfShare 35 = .ok (.isub, 1) := by decide +kernel
theorem dX4_bitsOfShare_36 : decode cX4_bitsOfShare 36 = .ok (.istore_n 3, 1) := by decide +kernel
theorem dX4_bitsOfShare_37 : decode cX4_bitsOfShare 37 = .ok (.iload_n 0, 1) := by decide +kernel
theorem dX4_bitsOfShare_38 : decode cX4_bitsOfShare 38 = .ok (.bipush 23, 2) := by decide +kernel
theorem dX4_bitsOfShare_40 : decode cX4_bitsOfShare 40 = .ok (.iload_n 2, 1) := by decide +kernel
theorem dX4_bitsOfShare_41 : decode cX4_bitsOfShare 41 = .ok (.isub, 1) := by decide +kernel
theorem dX4_bitsOfShare_42 : decode cX4_bitsOfShare 42 = .ok (.ishl, 1) := by decide +kernel
theorem dX4_bitsOfShare_43 : decode cX4_bitsOfShare 43 = .ok (.ldc 237, 2) := by decide +kernel
theorem dX4_bitsOfShare_45 : decode cX4_bitsOfShare 45 = .ok (.iand, 1) := by decide +kernel
theorem dX4_bitsOfShare_46 : decode cX4_bitsOfShare 46 = .ok (.istore 4, 2) := by decide +kernel
theorem dX4_bitsOfShare_48 : decode cX4_bitsOfShare 48 = .ok (.iload_n 3, 1) := by decide +kernel
theorem dX4_bitsOfShare_49 : decode cX4_bitsOfShare 49 = .ok (.bipush 23, 2) := by decide +kernel
theorem dX4_bitsOfShare_51 : decode cX4_bitsOfShare 51 = .ok (.ishl, 1) := by decide +kernel
theorem dX4_bitsOfShare_52 : decode cX4_bitsOfShare 52 = .ok (.iload 4, 2) := by decide +kernel
theorem dX4_bitsOfShare_54 : decode cX4_bitsOfShare 54 = .ok (.ior, 1) := by decide +kernel
theorem dX4_bitsOfShare_55 : decode cX4_bitsOfShare 55 = .ok (.ireturn, 1) := by decide +kernel
theorem dX4_charactersIn_0 : decode cX4_charactersIn 0 = .ok (.iconst 0, 1) := by decide +kernel
theorem dX4_charactersIn_1 : decode cX4_charactersIn 1 = .ok (.istore_n 2, 1) := by decide +kernel
theorem dX4_charactersIn_2 : decode cX4_charactersIn 2 = .ok (.iconst 0, 1) := by decide +kernel
theorem dX4_charactersIn_3 : decode cX4_charactersIn 3 = .ok (.istore_n 3, 1) := by decide +kernel
theorem dX4_charactersIn_4 : decode cX4_charactersIn 4 = .ok (.iload_n 3, 1) := by decide +kernel
theorem dX4_charactersIn_5 : decode cX4_charactersIn 5 = .ok (.bipush 64, 2) := by decide +kernel
theorem dX4_charactersIn_7 : decode cX4_charactersIn 7 = .ok (.if_icmp .ge 51, 3) := by decide +kernel
theorem dX4_charactersIn_10 : decode cX4_charactersIn 10 = .ok (.lload_n 0, 1) := by decide +kernel
theorem dX4_charactersIn_11 : decode cX4_charactersIn 11 = .ok (.iload_n 3, 1) := by decide +kernel
theorem dX4_charactersIn_12 : decode cX4_charactersIn 12 = .ok (.lushr, 1) := by decide +kernel
theorem dX4_charactersIn_13 : decode cX4_charactersIn 13 = .ok (.lstore 4, 2) := by decide +kernel
theorem dX4_charactersIn_15 : decode cX4_charactersIn 15 = .ok (.lload 4, 2) := by decide +kernel
theorem dX4_charactersIn_17 : decode cX4_charactersIn 17 = .ok (.lconst 0, 1) := by decide +kernel
theorem dX4_charactersIn_18 : decode cX4_charactersIn 18 = .ok (.lcmp, 1) := by decide +kernel
theorem dX4_charactersIn_19 : decode cX4_charactersIn 19 = .ok (.ifCond .ne 5, 3) := by decide +kernel
theorem dX4_charactersIn_22 : decode cX4_charactersIn 22 = .ok (.iload_n 2, 1) := by decide +kernel
theorem dX4_charactersIn_23 : decode cX4_charactersIn 23 = .ok (.ireturn, 1) := by decide +kernel
theorem dX4_charactersIn_24 : decode cX4_charactersIn 24 = .ok (.lload 4, 2) := by decide +kernel
theorem dX4_charactersIn_26 : decode cX4_charactersIn 26 = .ok (.ldc2_w 193, 3) := by decide +kernel
theorem dX4_charactersIn_29 : decode cX4_charactersIn 29 = .ok (.land, 1) := by decide +kernel
theorem dX4_charactersIn_30 : decode cX4_charactersIn 30 = .ok (.l2i, 1) := by decide +kernel
theorem dX4_charactersIn_31 : decode cX4_charactersIn 31 = .ok (.istore 6, 2) := by decide +kernel
theorem dX4_charactersIn_33 : decode cX4_charactersIn 33 = .ok (.iload 6, 2) := by decide +kernel
theorem dX4_charactersIn_35 : decode cX4_charactersIn 35 = .ok (.bipush 33, 2) := by decide +kernel
theorem dX4_charactersIn_37 : decode cX4_charactersIn 37 = .ok (.if_icmp .lt 10, 3) := by decide +kernel
theorem dX4_charactersIn_40 : decode cX4_charactersIn 40 = .ok (.iload 6, 2) := by decide +kernel
theorem dX4_charactersIn_42 : decode cX4_charactersIn 42 = .ok (.bipush 126, 2) := by decide +kernel
theorem dX4_charactersIn_44 : decode cX4_charactersIn 44 = .ok (.if_icmp .le 5, 3) := by decide +kernel
theorem dX4_charactersIn_47 : decode cX4_charactersIn 47 = .ok (.iconst 0, 1) := by decide +kernel
theorem dX4_charactersIn_48 : decode cX4_charactersIn 48 = .ok (.ireturn, 1) := by decide +kernel
theorem dX4_charactersIn_49 : decode cX4_charactersIn 49 = .ok (.iinc 2 1, 3) := by decide +kernel
theorem dX4_charactersIn_52 : decode cX4_charactersIn 52 = .ok (.iinc 3 8, 3) := by decide +kernel
theorem dX4_charactersIn_55 : decode cX4_charactersIn 55 = .ok (.goto (-51), 3) := by decide +kernel
theorem dX4_charactersIn_58 : decode cX4_charactersIn 58 = .ok (.iload_n 2, 1) := by decide +kernel
theorem dX4_charactersIn_59 : decode cX4_charactersIn 59 = .ok (.ireturn, 1) := by decide +kernel
set_option maxRecDepth 20000 in
theorem ggX4_carryOrderOut_X3_sketchAt : GoodIn wsX4_carryOrderOut wsX3_sketchAt := goodIn_r _ [7, 8, 154, 155] (by decide +kernel) (by decide +kernel)
set_option maxRecDepth 20000 in
theorem gX4_carryOrderOut_X3_sketchAt : GoodIn wsX4_carryOrderOut (wsV RX4 58 RX3 yX3_sketchAt wsX3_sketchAt) := goodIn_app (goodIn_of _ (by decide +kernel)) ggX4_carryOrderOut_X3_sketchAt
set_option maxRecDepth 20000 in
theorem ggX4_carryOrderOut_X4_carryThingsOut : GoodIn wsX4_carryOrderOut wsX4_carryThingsOut := goodIn_r _ [13, 2, 14, 15, 16, 17, 18, 19, 20, 21, 22, 23, 12, 24, 1, 25, 26, 27, 28, 29, 30, 31, 32, 33, 34, 35, 36, 37, 38, 39, 40, 41, 42, 43, 44, 45, 46, 47, 48, 49, 50, 51, 52, 53, 54, 55, 56, 57, 58, 59, 60, 61, 62, 63, 64, 65, 66, 67, 68, 69, 70, 71, 72, 73, 74, 75, 76, 77, 78, 136, 137, 138, 139, 140, 141, 142, 143, 144, 145, 146, 147, 148, 154, 155, 149, 150, 151, 152, 153] (by decide +kernel) (by decide +kernel)
set_option maxRecDepth 20000 in
theorem gX4_carryOrderOut_X4_carryThingsOut : GoodIn wsX4_carryOrderOut (wsV RX4 244 RX4 yX4_carryThingsOut wsX4_carryThingsOut) := goodIn_app (goodIn_of _ (by decide +kernel)) ggX4_carryOrderOut_X4_carryThingsOut
set_option maxRecDepth 20000 in
theorem ggX4_carryOrderOut_X4_carryJoinOut : GoodIn wsX4_carryOrderOut wsX4_carryJoinOut := goodIn_r _ [82, 1, 2, 14, 15, 16, 17, 18, 19, 20, 3, 4, 5, 6, 7, 8, 83, 84, 12, 85, 86, 87, 88, 33, 89, 68, 69, 39, 40, 41, 42, 43, 90, 91, 92, 93, 59, 60, 61, 62, 63, 55, 56, 57, 58, 75, 76, 77, 78, 94, 95, 96, 97, 70, 98, 99, 100, 101, 102, 65, 66, 67, 71, 72, 73, 74, 136, 137, 138, 139, 140, 141, 142, 143, 144, 145, 146, 147, 148, 154, 155, 149, 150, 151, 152, 153] (by decide +kernel) (by decide +kernel)
set_option maxRecDepth 20000 in
theorem gX4_carryOrderOut_X4_carryJoinOut : GoodIn wsX4_carryOrderOut (wsV RX4 247 RX4 yX4_carryJoinOut wsX4_carryJoinOut) := goodIn_app (goodIn_of _ (by decide +kernel)) ggX4_carryOrderOut_X4_carryJoinOut
set_option maxRecDepth 20000 in
theorem ggX4_carryOrderOut_X4_carryRangeOut : GoodIn wsX4_carryOrderOut wsX4_carryRangeOut := goodIn_r _ [106, 2, 14, 15, 16, 17, 18, 19, 20, 107, 108, 12, 109, 110, 111, 112, 113, 21, 22, 23, 24, 1, 25, 26, 27, 28, 29, 30, 31, 32, 33, 34, 35, 36, 37, 38, 39, 40, 41, 42, 43, 44, 45, 46, 47, 48, 49, 50, 51, 52, 53, 54, 55, 56, 57, 58, 59, 60, 61, 62, 63, 64, 65, 66, 67, 68, 69, 70, 71, 72, 73, 74, 75, 76, 77, 78, 136, 137, 138, 139, 140, 141, 142, 143, 144, 145, 146, 147, 148, 154, 155, 149, 150, 151, 152, 153] (by decide +kernel) (by decide +kernel)
set_option maxRecDepth 20000 in
theorem gX4_carryOrderOut_X4_carryRangeOut : GoodIn wsX4_carryOrderOut (wsV RX4 250 RX4 yX4_carryRangeOut wsX4_carryRangeOut) := goodIn_app (goodIn_of _ (by decide +kernel)) ggX4_carryOrderOut_X4_carryRangeOut
set_option maxRecDepth 20000 in
theorem ggX4_carryOrderOut_X4_carryFoldOut : GoodIn wsX4_carryOrderOut wsX4_carryFoldOut := goodIn_r _ [116, 117, 118, 12, 119, 120, 121, 122, 33, 123, 59, 124, 125, 126, 127, 43, 39, 40, 41, 42, 90, 91, 92, 93, 60, 61, 62, 63, 149, 150, 151, 152, 153] (by decide +kernel) (by decide +kernel)
set_option maxRecDepth 20000 in
theorem gX4_carryOrderOut_X4_carryFoldOut : GoodIn wsX4_carryOrderOut (va_wsS RX4 253 yX4_carryFoldOut wsX4_carryFoldOut) := goodIn_app (goodIn_of _ (by decide +kernel)) ggX4_carryOrderOut_X4_carryFoldOut
set_option maxRecDepth 20000 in
theorem ggX4_carryOrderOut_X2_startAgain : GoodIn wsX4_carryOrderOut wsX2_startAgain := goodIn_r _ [131, 43, 59, 69, 68, 132, 133, 134, 135, 149, 150, 151, 152, 153] (by decide +kernel) (by decide +kernel)
set_option maxRecDepth 20000 in
theorem gX4_carryOrderOut_X2_startAgain : GoodIn wsX4_carryOrderOut (wsV RX4 65 RX2 yX2_startAgain wsX2_startAgain) := goodIn_app (goodIn_of _ (by decide +kernel)) ggX4_carryOrderOut_X2_startAgain
end
section
theorem dX4_carryOrderOut_0 : decode cX4_carryOrderOut 0 = .ok (.aload_n 0, 1) := by decide +kernel
theorem dX4_carryOrderOut_1 : decode cX4_carryOrderOut 1 = .ok (.getfield 10, 3) := by decide +kernel
theorem dX4_carryOrderOut_4 : decode cX4_carryOrderOut 4 = .ok (.aload_n 0, 1) := by decide +kernel
theorem dX4_carryOrderOut_5 : decode cX4_carryOrderOut 5 = .ok (.getfield 34, 3) := by decide +kernel
theorem dX4_carryOrderOut_8 : decode cX4_carryOrderOut 8 = .ok (.getfield 238, 3) := by decide +kernel
theorem dX4_carryOrderOut_11 : decode cX4_carryOrderOut 11 = .ok (.invokevirtual 58, 3) := by decide +kernel
theorem dX4_carryOrderOut_14 : decode cX4_carryOrderOut 14 = .ok (.astore_n 1, 1) := by decide +kernel
theorem dX4_carryOrderOut_15 : decode cX4_carryOrderOut 15 = .ok (.aload_n 1, 1) := by decide +kernel
theorem dX4_carryOrderOut_16 : decode cX4_carryOrderOut 16 = .ok (.ifnonnull 5, 3) := by decide +kernel
theorem dX4_carryOrderOut_19 : decode cX4_carryOrderOut 19 = .ok (.iconst 0, 1) := by decide +kernel
theorem dX4_carryOrderOut_20 : decode cX4_carryOrderOut 20 = .ok (.ireturn, 1) := by decide +kernel
theorem dX4_carryOrderOut_21 : decode cX4_carryOrderOut 21 = .ok (.aload_n 0, 1) := by decide +kernel
theorem dX4_carryOrderOut_22 : decode cX4_carryOrderOut 22 = .ok (.getfield 34, 3) := by decide +kernel
theorem dX4_carryOrderOut_25 : decode cX4_carryOrderOut 25 = .ok (.getfield 241, 3) := by decide +kernel
theorem dX4_carryOrderOut_28 : decode cX4_carryOrderOut 28 = .ok (.lookupswitch 67 #[(38, 50), (42, 56), (47, 62), (58, 44)], 44) := by decide +kernel
theorem dX4_carryOrderOut_72 : decode cX4_carryOrderOut 72 = .ok (.aload_n 0, 1) := by decide +kernel
theorem dX4_carryOrderOut_73 : decode cX4_carryOrderOut 73 = .ok (.aload_n 1, 1) := by decide +kernel
theorem dX4_carryOrderOut_74 : decode cX4_carryOrderOut 74 = .ok (.invokevirtual 244, 3) := by decide +kernel
theorem dX4_carryOrderOut_77 : decode cX4_carryOrderOut 77 = .ok (.ireturn, 1) := by decide +kernel
theorem dX4_carryOrderOut_78 : decode cX4_carryOrderOut 78 = .ok (.aload_n 0, 1) := by decide +kernel
theorem dX4_carryOrderOut_79 : decode cX4_carryOrderOut 79 = .ok (.aload_n 1, 1) := by decide +kernel
theorem dX4_carryOrderOut_80 : decode cX4_carryOrderOut 80 = .ok (.invokevirtual 247, 3) := by decide +kernel
theorem dX4_carryOrderOut_83 : decode cX4_carryOrderOut 83 = .ok (.ireturn, 1) := by decide +kernel
theorem dX4_carryOrderOut_84 : decode cX4_carryOrderOut 84 = .ok (.aload_n 0, 1) := by decide +kernel
theorem dX4_carryOrderOut_85 : decode cX4_carryOrderOut 85 = .ok (.aload_n 1, 1) := by decide +kernel
theorem dX4_carryOrderOut_86 : decode cX4_carryOrderOut 86 = .ok (.invokevirtual 250, 3) := by decide +kernel
theorem dX4_carryOrderOut_89 : decode cX4_carryOrderOut 89 = .ok (.ireturn, 1) := by decide +kernel
theorem dX4_carryOrderOut_90 : decode cX4_carryOrderOut 90 = .ok (.aload_n 1, 1) := by decide +kernel
theorem dX4_carryOrderOut_91 : decode cX4_carryOrderOut 91 = .ok (.invokestatic 253, 3) := by decide +kernel
theorem dX4_carryOrderOut_94 : decode cX4_carryOrderOut 94 = .ok (.ireturn, 1) := by decide +kernel
theorem dX4_carryOrderOut_95 : decode cX4_carryOrderOut 95 = .ok (.aload_n 1, 1) := by decide +kernel
theorem dX4_carryOrderOut_96 : decode cX4_carryOrderOut 96 = .ok (.aload_n 1, 1) := by decide +kernel
theorem dX4_carryOrderOut_97 : decode cX4_carryOrderOut 97 = .ok (.getfield 62, 3) := by decide +kernel
theorem dX4_carryOrderOut_100 : decode cX4_carryOrderOut 100 = .ok (.invokevirtual 65, 3) := by decide +kernel
theorem dX4_carryOrderOut_103 : decode cX4_carryOrderOut 103 = .ok (.iconst 1, 1) := by decide +kernel
theorem dX4_carryOrderOut_104 : decode cX4_carryOrderOut 104 = .ok (.ireturn, 1) := by decide +kernel
set_option maxRecDepth 20000 in
theorem ggX4_carryThingsOut_X1_numberAt : GoodIn wsX4_carryThingsOut wsX1_numberAt := goodIn_r _ [6, 7, 8, 75, 76, 77, 78, 79, 80, 81] (by decide +kernel) (by decide +kernel)
set_option maxRecDepth 20000 in
theorem gX4_carryThingsOut_X1_numberAt : GoodIn wsX4_carryThingsOut (wsV RX4 259 RX1 yX1_numberAt wsX1_numberAt) := goodIn_app (goodIn_of _ (by decide +kernel)) ggX4_carryThingsOut_X1_numberAt
set_option maxRecDepth 20000 in
theorem ggX4_carryThingsOut_X4_takeThings : GoodIn wsX4_carryThingsOut wsX4_takeThings := goodIn_r _ [13, 14, 15, 16, 12, 17, 18, 19, 20, 21, 22, 23, 24, 25, 26, 27, 28, 29, 30, 31, 32, 33, 34, 35, 36, 37, 38, 39, 40, 41, 42, 43, 44, 45, 46, 47, 48, 49, 50, 51, 52, 53, 54, 55, 56, 57, 58, 59, 60, 61, 62, 63, 64, 65, 66, 67, 68, 69, 70, 71, 72, 73, 74, 82, 83, 84, 85, 86, 87, 88] (by decide +kernel) (by decide +kernel)
set_option maxRecDepth 20000 in
theorem gX4_carryThingsOut_X4_takeThings : GoodIn wsX4_carryThingsOut (wsV RX4 72 RX4 yX4_takeThings wsX4_takeThings) := goodIn_app (goodIn_of _ (by decide +kernel)) ggX4_carryThingsOut_X4_takeThings
theorem dX4_carryThingsOut_0 : decode cX4_carryThingsOut 0 = .ok (.iconst 0, 1) := by decide +kernel
theorem dX4_carryThingsOut_1 : decode cX4_carryThingsOut 1 = .ok (.istore_n 2, 1) := by decide +kernel
theorem dX4_carryThingsOut_2 : decode cX4_carryThingsOut 2 = .ok (.iload_n 2, 1) := by decide +kernel
theorem dX4_carryThingsOut_3 : decode cX4_carryThingsOut 3 = .ok (.aload_n 0, 1) := by decide +kernel
theorem dX4_carryThingsOut_4 : decode cX4_carryThingsOut 4 = .ok (.getfield 34, 3) := by decide +kernel
theorem dX4_carryThingsOut_7 : decode cX4_carryThingsOut 7 = .ok (.getfield 256, 3) := by decide +kernel
theorem dX4_carryThingsOut_10 : decode cX4_carryThingsOut 10 = .ok (.if_icmp .ge 24, 3) := by decide +kernel
theorem dX4_carryThingsOut_13 : decode cX4_carryThingsOut 13 = .ok (.aload_n 0, 1) := by decide +kernel
theorem dX4_carryThingsOut_14 : decode cX4_carryThingsOut 14 = .ok (.aload_n 1, 1) := by decide +kernel
theorem dX4_carryThingsOut_15 : decode cX4_carryThingsOut 15 = .ok (.aload_n 0, 1) := by decide +kernel
theorem dX4_carryThingsOut_16 : decode cX4_carryThingsOut 16 = .ok (.getfield 34, 3) := by decide +kernel
theorem dX4_carryThingsOut_19 : decode cX4_carryThingsOut 19 = .ok (.iload_n 2, 1) := by decide +kernel
theorem dX4_carryThingsOut_20 : decode cX4_carryThingsOut 20 = .ok (.invokevirtual 259, 3) := by decide +kernel
theorem dX4_carryThingsOut_23 : decode cX4_carryThingsOut 23 = .ok (.iconst 1, 1) := by decide +kernel
theorem dX4_carryThingsOut_24 : decode cX4_carryThingsOut 24 = .ok (.invokevirtual 72, 3) := by decide +kernel
theorem dX4_carryThingsOut_27 : decode cX4_carryThingsOut 27 = .ok (.pop, 1) := by decide +kernel
theorem dX4_carryThingsOut_28 : decode cX4_carryThingsOut 28 = .ok (.iinc 2 1, 3) := by decide +kernel
theorem dX4_carryThingsOut_31 : decode cX4_carryThingsOut 31 = .ok (.goto (-29), 3) := by decide +kernel
theorem dX4_carryThingsOut_34 : decode cX4_carryThingsOut 34 = .ok (.iconst 1, 1) := by decide +kernel
theorem dX4_carryThingsOut_35 : decode cX4_carryThingsOut 35 = .ok (.ireturn, 1) := by decide +kernel
set_option maxRecDepth 20000 in
theorem ggX4_carryJoinOut_X1_numberAt : GoodIn wsX4_carryJoinOut wsX1_numberAt := goodIn_r _ [7, 8, 9, 72, 73, 74, 75, 76, 77, 78] (by decide +kernel) (by decide +kernel)
set_option maxRecDepth 20000 in
theorem gX4_carryJoinOut_X1_numberAt : GoodIn wsX4_carryJoinOut (wsV RX4 259 RX1 yX1_numberAt wsX1_numberAt) := goodIn_app (goodIn_of _ (by decide +kernel)) ggX4_carryJoinOut_X1_numberAt
set_option maxRecDepth 20000 in
theorem ggX4_carryJoinOut_X3_sketchAt : GoodIn wsX4_carryJoinOut wsX3_sketchAt := goodIn_r _ [14, 15, 79, 80] (by decide +kernel) (by decide +kernel)
set_option maxRecDepth 20000 in
theorem gX4_carryJoinOut_X3_sketchAt : GoodIn wsX4_carryJoinOut (wsV RX4 58 RX3 yX3_sketchAt wsX3_sketchAt) := goodIn_app (goodIn_of _ (by decide +kernel)) ggX4_carryJoinOut_X3_sketchAt
set_option maxRecDepth 20000 in
theorem ggX4_carryJoinOut_X4_areToJoin : GoodIn wsX4_carryJoinOut wsX4_areToJoin := goodIn_r _ [19, 81, 82, 83, 84, 85] (by decide +kernel) (by decide +kernel)
set_option maxRecDepth 20000 in
theorem gX4_carryJoinOut_X4_areToJoin : GoodIn wsX4_carryJoinOut (va_wsS RX4 80 yX4_areToJoin wsX4_areToJoin) := goodIn_app (goodIn_of _ (by decide +kernel)) ggX4_carryJoinOut_X4_areToJoin
set_option maxRecDepth 20000 in
theorem ggX4_carryJoinOut_X2_takeAll : GoodIn wsX4_carryJoinOut wsX2_takeAll := goodIn_r _ [24, 25, 26, 27, 28, 29, 23, 30, 31, 32, 33, 34, 35, 36, 37, 38, 39, 40, 41, 42, 43, 44, 45, 46, 47, 48, 49, 50, 51, 52, 53, 54, 55, 56, 57, 58, 59, 60, 61, 62, 63, 64, 65, 81, 82, 83, 84, 85] (by decide +kernel) (by decide +kernel)
set_option maxRecDepth 20000 in
theorem gX4_carryJoinOut_X2_takeAll : GoodIn wsX4_carryJoinOut (wsV RX4 84 RX2 yX2_takeAll wsX2_takeAll) := goodIn_app (goodIn_of _ (by decide +kernel)) ggX4_carryJoinOut_X2_takeAll
theorem dX4_carryJoinOut_0 : decode cX4_carryJoinOut 0 = .ok (.aload_n 0, 1) := by decide +kernel
theorem dX4_carryJoinOut_1 : decode cX4_carryJoinOut 1 = .ok (.getfield 10, 3) := by decide +kernel
theorem dX4_carryJoinOut_4 : decode cX4_carryJoinOut 4 = .ok (.aload_n 0, 1) := by decide +kernel
theorem dX4_carryJoinOut_5 : decode cX4_carryJoinOut 5 = .ok (.getfield 34, 3) := by decide +kernel
theorem dX4_carryJoinOut_8 : decode cX4_carryJoinOut 8 = .ok (.iconst 0, 1) := by decide +kernel
theorem dX4_carryJoinOut_9 : decode cX4_carryJoinOut 9 = .ok (.invokevirtual 259, 3) := by decide +kernel
theorem dX4_carryJoinOut_12 : decode cX4_carryJoinOut 12 = .ok (.invokevirtual 58, 3) := by decide +kernel
theorem dX4_carryJoinOut_15 : decode cX4_carryJoinOut 15 = .ok (.astore_n 2, 1) := by decide +kernel
theorem dX4_carryJoinOut_16 : decode cX4_carryJoinOut 16 = .ok (.aload_n 2, 1) := by decide +kernel
theorem dX4_carryJoinOut_17 : decode cX4_carryJoinOut 17 = .ok (.ifnull 11, 3) := by decide +kernel
theorem dX4_carryJoinOut_20 : decode cX4_carryJoinOut 20 = .ok (.aload_n 1, 1) := by decide +kernel
theorem dX4_carryJoinOut_21 : decode cX4_carryJoinOut 21 = .ok (.aload_n 2, 1) := by decide +kernel
theorem dX4_carryJoinOut_22 : decode cX4_carryJoinOut 22 = .ok (.invokestatic 80, 3) := by decide +kernel
theorem dX4_carryJoinOut_25 : decode cX4_carryJoinOut 25 = .ok (.ifCond .ne 5, 3) := by decide +kernel
theorem dX4_carryJoinOut_28 : decode cX4_carryJoinOut 28 = .ok (.iconst 0, 1) := by decide +kernel
theorem dX4_carryJoinOut_29 : decode cX4_carryJoinOut 29 = .ok (.ireturn, 1) := by decide +kernel
theorem dX4_carryJoinOut_30 : decode cX4_carryJoinOut 30 = .ok (.aload_n 1, 1) := by decide +kernel
theorem dX4_carryJoinOut_31 : decode cX4_carryJoinOut 31 = .ok (.aload_n 2, 1) := by decide +kernel
theorem dX4_carryJoinOut_32 : decode cX4_carryJoinOut 32 = .ok (.invokevirtual 84, 3) := by decide +kernel
theorem dX4_carryJoinOut_35 : decode cX4_carryJoinOut 35 = .ok (.iconst 1, 1) := by decide +kernel
theorem dX4_carryJoinOut_36 : decode cX4_carryJoinOut 36 = .ok (.ireturn, 1) := by decide +kernel
set_option maxRecDepth 20000 in
theorem ggX4_carryRangeOut_X1_numberAt : GoodIn wsX4_carryRangeOut wsX1_numberAt := goodIn_r _ [6, 7, 8, 82, 83, 84, 85, 86, 87, 88] (by decide +kernel) (by decide +kernel)
set_option maxRecDepth 20000 in
theorem gX4_carryRangeOut_X1_numberAt : GoodIn wsX4_carryRangeOut (wsV RX4 259 RX1 yX1_numberAt wsX1_numberAt) := goodIn_app (goodIn_of _ (by decide +kernel)) ggX4_carryRangeOut_X1_numberAt
set_option maxRecDepth 20000 in
theorem ggX4_carryRangeOut_X4_isRange : GoodIn wsX4_carryRangeOut wsX4_isRange := goodIn_r _ [12, 13, 14, 15, 11, 16] (by decide +kernel) (by decide +kernel)
set_option maxRecDepth 20000 in
theorem gX4_carryRangeOut_X4_isRange : GoodIn wsX4_carryRangeOut (va_wsS RX4 76 yX4_isRange wsX4_isRange) := goodIn_app (goodIn_of _ (by decide +kernel)) ggX4_carryRangeOut_X4_isRange
set_option maxRecDepth 20000 in
theorem ggX4_carryRangeOut_X4_takeThings : GoodIn wsX4_carryRangeOut wsX4_takeThings := goodIn_r _ [20, 21, 22, 23, 11, 24, 25, 26, 27, 28, 29, 30, 31, 32, 33, 34, 35, 36, 37, 38, 39, 40, 41, 42, 43, 44, 45, 46, 47, 48, 49, 50, 51, 52, 53, 54, 55, 56, 57, 58, 59, 60, 61, 62, 63, 64, 65, 66, 67, 68, 69, 70, 71, 72, 73, 74, 75, 76, 77, 78, 79, 80, 81, 89, 90, 91, 92, 93, 94, 95] (by decide +kernel) (by decide +kernel)
set_option maxRecDepth 20000 in
theorem gX4_carryRangeOut_X4_takeThings : GoodIn wsX4_carryRangeOut (wsV RX4 72 RX4 yX4_takeThings wsX4_takeThings) := goodIn_app (goodIn_of _ (by decide +kernel)) ggX4_carryRangeOut_X4_takeThings
theorem dX4_carryRangeOut_0 : decode cX4_carryRangeOut 0 = .ok (.aload_n 0, 1) := by decide +kernel
theorem dX4_carryRangeOut_1 : decode cX4_carryRangeOut 1 = .ok (.getfield 34, 3) := by decide +kernel
theorem dX4_carryRangeOut_4 : decode cX4_carryRangeOut 4 = .ok (.iconst 0, 1) := by decide +kernel
theorem dX4_carryRangeOut_5 : decode cX4_carryRangeOut 5 = .ok (.invokevirtual 259, 3) := by decide +kernel
theorem dX4_carryRangeOut_8 : decode cX4_carryRangeOut 8 = .ok (.istore_n 2, 1) := by decide +kernel
theorem dX4_carryRangeOut_9 : decode cX4_carryRangeOut 9 = .ok (.aload_n 0, 1) := by decide +kernel
theorem dX4_carryRangeOut_10 : decode cX4_carryRangeOut 10 = .ok (.getfield 34, 3) := by decide +kernel
theorem dX4_carryRangeOut_13 : decode cX4_carryRangeOut 13 = .ok (.iconst 1, 1) := by decide +kernel
theorem dX4_carryRangeOut_14 : decode cX4_carryRangeOut 14 = .ok (.invokevirtual 259, 3) := by decide +kernel
theorem dX4_carryRangeOut_17 : decode cX4_carryRangeOut 17 = .ok (.istore_n 3, 1) := by decide +kernel
theorem dX4_carryRangeOut_18 : decode cX4_carryRangeOut 18 = .ok (.iload_n 2, 1) := by decide +kernel
theorem dX4_carryRangeOut_19 : decode cX4_carryRangeOut 19 = .ok (.iload_n 3, 1) := by decide +kernel
theorem dX4_carryRangeOut_20 : decode cX4_carryRangeOut 20 = .ok (.invokestatic 76, 3) := by decide +kernel
theorem dX4_carryRangeOut_23 : decode cX4_carryRangeOut 23 = .ok (.ifCond .ne 5, 3) := by decide +kernel
theorem dX4_carryRangeOut_26 : decode cX4_carryRangeOut 26 = .ok (.iconst 0, 1) := by decide +kernel
theorem dX4_carryRangeOut_27 : decode cX4_carryRangeOut 27 = .ok (.ireturn, 1) := by decide +kernel
theorem dX4_carryRangeOut_28 : decode cX4_carryRangeOut 28 = .ok (.aload_n 0, 1) := by decide +kernel
theorem dX4_carryRangeOut_29 : decode cX4_carryRangeOut 29 = .ok (.aload_n 1, 1) := by decide +kernel
theorem dX4_carryRangeOut_30 : decode cX4_carryRangeOut 30 = .ok (.iload_n 2, 1) := by decide +kernel
theorem dX4_carryRangeOut_31 : decode cX4_carryRangeOut 31 = .ok (.iload_n 3, 1) := by decide +kernel
theorem dX4_carryRangeOut_32 : decode cX4_carryRangeOut 32 = .ok (.invokevirtual 72, 3) := by decide +kernel
theorem dX4_carryRangeOut_35 : decode cX4_carryRangeOut 35 = .ok (.pop, 1) := by decide +kernel
theorem dX4_carryRangeOut_36 : decode cX4_carryRangeOut 36 = .ok (.iconst 1, 1) := by decide +kernel
theorem dX4_carryRangeOut_37 : decode cX4_carryRangeOut 37 = .ok (.ireturn, 1) := by decide +kernel
set_option maxRecDepth 20000 in
theorem ggX4_carryFoldOut_X4_isToFold : GoodIn wsX4_carryFoldOut wsX4_isToFold := goodIn_r _ [4, 28, 29, 30, 31, 32] (by decide +kernel) (by decide +kernel)
set_option maxRecDepth 20000 in
theorem gX4_carryFoldOut_X4_isToFold : GoodIn wsX4_carryFoldOut (va_wsS RX4 92 yX4_isToFold wsX4_isToFold) := goodIn_app (goodIn_of _ (by decide +kernel)) ggX4_carryFoldOut_X4_isToFold
set_option maxRecDepth 20000 in
theorem ggX4_carryFoldOut_X2_halve : GoodIn wsX4_carryFoldOut wsX2_halve := goodIn_r _ [9, 10, 11, 12, 13, 14, 15, 16, 17, 18, 8, 19, 20, 21, 22, 23, 24, 25, 26, 27, 28, 29, 30, 31, 32] (by decide +kernel) (by decide +kernel)
set_option maxRecDepth 20000 in
theorem gX4_carryFoldOut_X2_halve : GoodIn wsX4_carryFoldOut (wsV RX4 96 RX2 yX2_halve wsX2_halve) := goodIn_app (goodIn_of _ (by decide +kernel)) ggX4_carryFoldOut_X2_halve
theorem dX4_carryFoldOut_0 : decode cX4_carryFoldOut 0 = .ok (.aload_n 0, 1) := by decide +kernel
theorem dX4_carryFoldOut_1 : decode cX4_carryFoldOut 1 = .ok (.invokestatic 92, 3) := by decide +kernel
theorem dX4_carryFoldOut_4 : decode cX4_carryFoldOut 4 = .ok (.ifCond .ne 5, 3) := by decide +kernel
theorem dX4_carryFoldOut_7 : decode cX4_carryFoldOut 7 = .ok (.iconst 0, 1) := by decide +kernel
theorem dX4_carryFoldOut_8 : decode cX4_carryFoldOut 8 = .ok (.ireturn, 1) := by decide +kernel
theorem dX4_carryFoldOut_9 : decode cX4_carryFoldOut 9 = .ok (.aload_n 0, 1) := by decide +kernel
theorem dX4_carryFoldOut_10 : decode cX4_carryFoldOut 10 = .ok (.invokevirtual 96, 3) := by decide +kernel
theorem dX4_carryFoldOut_13 : decode cX4_carryFoldOut 13 = .ok (.iconst 1, 1) := by decide +kernel
theorem dX4_carryFoldOut_14 : decode cX4_carryFoldOut 14 = .ok (.ireturn, 1) := by decide +kernel
set_option maxRecDepth 20000 in
theorem ggX5_init_X5_setPart : GoodIn wsX5_init wsX5_setPart := goodIn_r _ [16, 5, 17, 18, 19, 20, 21, 22, 23, 24, 25, 26, 27, 28, 29] (by decide +kernel) (by decide +kernel)
set_option maxRecDepth 20000 in
theorem gX5_init_X5_setPart : GoodIn wsX5_init (wsV RX5 31 RX5 yX5_setPart wsX5_setPart) := goodIn_app (goodIn_of _ (by decide +kernel)) ggX5_init_X5_setPart
theorem dX5_init_0 : decode cX5_init 0 = .ok (.aload_n 0, 1) := by decide +kernel
theorem dX5_init_1 : decode cX5_init 1 = .ok (.invokespecial 1, 3) := by decide +kernel
theorem dX5_init_4 : decode cX5_init 4 = .ok (.aload_n 0, 1) := by decide +kernel
theorem dX5_init_5 : decode cX5_init 5 = .ok (.sipush 637, 3) := by decide +kernel
theorem dX5_init_8 : decode cX5_init 8 = .ok (.newarray .int, 2) := by decide +kernel
theorem dX5_init_10 : decode cX5_init 10 = .ok (.putfield 7, 3) := by decide +kernel
theorem dX5_init_13 : decode cX5_init 13 = .ok (.aload_n 0, 1) := by decide +kernel
theorem dX5_init_14 : decode cX5_init 14 = .ok (.sipush 3822, 3) := by decide +kernel
theorem dX5_init_17 : decode cX5_init 17 = .ok (.newarray .int, 2) := by decide +kernel
theorem dX5_init_19 : decode cX5_init 19 = .ok (.putfield 13, 3) := by decide +kernel
theorem dX5_init_22 : decode cX5_init 22 = .ok (.aload_n 0, 1) := by decide +kernel
theorem dX5_init_23 : decode cX5_init 23 = .ok (.sipush 1274, 3) := by decide +kernel
theorem dX5_init_26 : decode cX5_init 26 = .ok (.newarray .int, 2) := by decide +kernel
theorem dX5_init_28 : decode cX5_init 28 = .ok (.putfield 16, 3) := by decide +kernel
theorem dX5_init_31 : decode cX5_init 31 = .ok (.aload_n 0, 1) := by decide +kernel
theorem dX5_init_32 : decode cX5_init 32 = .ok (.iconst 2, 1) := by decide +kernel
theorem dX5_init_33 : decode cX5_init 33 = .ok (.newarray .int, 2) := by decide +kernel
theorem dX5_init_35 : decode cX5_init 35 = .ok (.putfield 19, 3) := by decide +kernel
theorem dX5_init_38 : decode cX5_init 38 = .ok (.aload_n 0, 1) := by decide +kernel
theorem dX5_init_39 : decode cX5_init 39 = .ok (.bipush 80, 2) := by decide +kernel
theorem dX5_init_41 : decode cX5_init 41 = .ok (.newarray .int, 2) := by decide +kernel
theorem dX5_init_43 : decode cX5_init 43 = .ok (.putfield 22, 3) := by decide +kernel
theorem dX5_init_46 : decode cX5_init 46 = .ok (.aload_n 0, 1) := by decide +kernel
theorem dX5_init_47 : decode cX5_init 47 = .ok (.bipush 64, 2) := by decide +kernel
theorem dX5_init_49 : decode cX5_init 49 = .ok (.newarray .int, 2) := by decide +kernel
theorem dX5_init_51 : decode cX5_init 51 = .ok (.putfield 25, 3) := by decide +kernel
theorem dX5_init_54 : decode cX5_init 54 = .ok (.aload_n 0, 1) := by decide +kernel
theorem dX5_init_55 : decode cX5_init 55 = .ok (.bipush 80, 2) := by decide +kernel
theorem dX5_init_57 : decode cX5_init 57 = .ok (.newarray .int, 2) := by decide +kernel
theorem dX5_init_59 : decode cX5_init 59 = .ok (.putfield 28, 3) := by decide +kernel
theorem dX5_init_62 : decode cX5_init 62 = .ok (.aload_n 0, 1) := by decide +kernel
theorem dX5_init_63 : decode cX5_init 63 = .ok (.getfield 7, 3) := by decide +kernel
theorem dX5_init_66 : decode cX5_init 66 = .ok (.iconst 0, 1) := by decide +kernel
theorem dX5_init_67 : decode cX5_init 67 = .ok (.sipush 12345, 3) := by decide +kernel
theorem dX5_init_70 : decode cX5_init 70 = .ok (.iastore, 1) := by decide +kernel
theorem dX5_init_71 : decode cX5_init 71 = .ok (.iconst 0, 1) := by decide +kernel
theorem dX5_init_72 : decode cX5_init 72 = .ok (.istore_n 1, 1) := by decide +kernel
theorem dX5_init_73 : decode cX5_init 73 = .ok (.iload_n 1, 1) := by decide +kernel
theorem dX5_init_74 : decode cX5_init 74 = .ok (.bipush 6, 2) := by decide +kernel
theorem dX5_init_76 : decode cX5_init 76 = .ok (.if_icmp .ge 16, 3) := by decide +kernel
theorem dX5_init_79 : decode cX5_init 79 = .ok (.aload_n 0, 1) := by decide +kernel
theorem dX5_init_80 : decode cX5_init 80 = .ok (.iload_n 1, 1) := by decide +kernel
theorem dX5_init_81 : decode cX5_init 81 = .ok (.iconst 0, 1) := by decide +kernel
theorem dX5_init_82 : decode cX5_init 82 = .ok (.iconst 4, 1) := by decide +kernel
theorem dX5_init_83 : decode cX5_init 83 = .ok (.invokevirtual 31, 3) := by decide +kernel
theorem dX5_init_86 : decode cX5_init 86 = .ok (.iinc 1 1, 3) := by decide +kernel
theorem dX5_init_89 : decode cX5_init 89 = .ok (.goto (-16), 3) := by decide +kernel
theorem dX5_init_92 : decode cX5_init 92 = .ok (.return_, 1) := by decide +kernel
theorem dX5_moves_0 : decode cX5_moves 0 = .ok (.iconst 0, 1) := by decide +kernel
theorem dX5_moves_1 : decode cX5_moves 1 = .ok (.istore 4, 2) := by decide +kernel
theorem dX5_moves_3 : decode cX5_moves 3 = .ok (.iload 4, 2) := by decide +kernel
theorem dX5_moves_5 : decode cX5_moves 5 = .ok (.sipush 637, 3) := by decide +kernel
theorem dX5_moves_8 : decode cX5_moves 8 = .ok (.if_icmp .ge 21, 3) := by decide +kernel
theorem dX5_moves_11 : decode cX5_moves 11 = .ok (.aload_n 2, 1) := by decide +kernel
theorem dX5_moves_12 : decode cX5_moves 12 = .ok (.iload_n 3, 1) := by decide +kernel
theorem dX5_moves_13 : decode cX5_moves 13 = .ok (.iload 4, 2) := by decide +kernel
theorem dX5_moves_15 : decode cX5_moves 15 = .ok (.iadd, 1) := by decide +kernel
theorem dX5_moves_16 : decode cX5_moves 16 = .ok (.aload_n 0, 1) := by decide +kernel
theorem dX5_moves_17 : decode cX5_moves 17 = .ok (.iload_n 1, 1) := by decide +kernel
theorem dX5_moves_18 : decode cX5_moves 18 = .ok (.iload 4, 2) := by decide +kernel
theorem dX5_moves_20 : decode cX5_moves 20 = .ok (.iadd, 1) := by decide +kernel
theorem dX5_moves_21 : decode cX5_moves 21 = .ok (.iaload, 1) := by decide +kernel
theorem dX5_moves_22 : decode cX5_moves 22 = .ok (.iastore, 1) := by decide +kernel
theorem dX5_moves_23 : decode cX5_moves 23 = .ok (.iinc 4 1, 3) := by decide +kernel
theorem dX5_moves_26 : decode cX5_moves 26 = .ok (.goto (-23), 3) := by decide +kernel
theorem dX5_moves_29 : decode cX5_moves 29 = .ok (.return_, 1) := by decide +kernel
theorem dX5_within_0 : decode cX5_within 0 = .ok (.iload_n 0, 1) := by decide +kernel
theorem dX5_within_1 : decode cX5_within 1 = .ok (.iload_n 1, 1) := by decide +kernel
theorem dX5_within_2 : decode cX5_within 2 = .ok (.if_icmp .lt 12, 3) := by decide +kernel
theorem dX5_within_5 : decode cX5_within 5 = .ok (.iload_n 0, 1) := by decide +kernel
theorem dX5_within_6 : decode cX5_within 6 = .ok (.iload_n 2, 1) := by decide +kernel
theorem dX5_within_7 : decode cX5_within 7 = .ok (.if_icmp .gt 7, 3) := by decide +kernel
theorem dX5_within_10 : decode cX5_within 10 = .ok (.iconst 1, 1) := by decide +kernel
theorem dX5_within_11 : decode cX5_within 11 = .ok (.goto 4, 3) := by decide +kernel
theorem dX5_within_14 : decode cX5_within 14 = .ok (.iconst 0, 1) := by decide +kernel
theorem dX5_within_15 : decode cX5_within 15 = .ok (.ireturn, 1) := by decide +kernel
set_option maxRecDepth 20000 in
theorem ggX5_record_X5_moves : GoodIn wsX5_record wsX5_moves := goodIn_r _ [7] (by decide +kernel) (by decide +kernel)
set_option maxRecDepth 20000 in
theorem gX5_record_X5_moves : GoodIn wsX5_record (va_wsS RX5 39 yX5_moves wsX5_moves) := goodIn_app (goodIn_of _ (by decide +kernel)) ggX5_record_X5_moves
theorem dX5_record_0 : decode cX5_record 0 = .ok (.aload_n 0, 1) := by decide +kernel
theorem dX5_record_1 : decode cX5_record 1 = .ok (.getfield 35, 3) := by decide +kernel
theorem dX5_record_4 : decode cX5_record 4 = .ok (.bipush 6, 2) := by decide +kernel
theorem dX5_record_6 : decode cX5_record 6 = .ok (.if_icmp .ne 44, 3) := by decide +kernel
theorem dX5_record_9 : decode cX5_record 9 = .ok (.iconst 0, 1) := by decide +kernel
theorem dX5_record_10 : decode cX5_record 10 = .ok (.istore_n 1, 1) := by decide +kernel
theorem dX5_record_11 : decode cX5_record 11 = .ok (.iload_n 1, 1) := by decide +kernel
theorem dX5_record_12 : decode cX5_record 12 = .ok (.sipush 3185, 3) := by decide +kernel
theorem dX5_record_15 : decode cX5_record 15 = .ok (.if_icmp .ge 25, 3) := by decide +kernel
theorem dX5_record_18 : decode cX5_record 18 = .ok (.aload_n 0, 1) := by decide +kernel
theorem dX5_record_19 : decode cX5_record 19 = .ok (.getfield 13, 3) := by decide +kernel
theorem dX5_record_22 : decode cX5_record 22 = .ok (.iload_n 1, 1) := by decide +kernel
theorem dX5_record_23 : decode cX5_record 23 = .ok (.aload_n 0, 1) := by decide +kernel
theorem dX5_record_24 : decode cX5_record 24 = .ok (.getfield 13, 3) := by decide +kernel
theorem dX5_record_27 : decode cX5_record 27 = .ok (.iload_n 1, 1) := by decide +kernel
theorem dX5_record_28 : decode cX5_record 28 = .ok (.sipush 637, 3) := by decide +kernel
theorem dX5_record_31 : decode cX5_record 31 = .ok (.iadd, 1) := by decide +kernel
theorem dX5_record_32 : decode cX5_record 32 = .ok (.iaload, 1) := by decide +kernel
theorem dX5_record_33 : decode cX5_record 33 = .ok (.iastore, 1) := by decide +kernel
theorem dX5_record_34 : decode cX5_record 34 = .ok (.iinc 1 1, 3) := by decide +kernel
theorem dX5_record_37 : decode cX5_record 37 = .ok (.goto (-26), 3) := by decide +kernel
theorem dX5_record_40 : decode cX5_record 40 = .ok (.aload_n 0, 1) := by decide +kernel
theorem dX5_record_41 : decode cX5_record 41 = .ok (.dup, 1) := by decide +kernel
theorem dX5_record_42 : decode cX5_record 42 = .ok (.getfield 35, 3) := by decide +kernel
theorem dX5_record_45 : decode cX5_record 45 = .ok (.iconst 1, 1) := by decide +kernel
theorem dX5_record_46 : decode cX5_record 46 = .ok (.isub, 1) := by decide +kernel
theorem dX5_record_47 : decode cX5_record 47 = .ok (.putfield 35, 3) := by decide +kernel
theorem dX5_record_50 : decode cX5_record 50 = .ok (.aload_n 0, 1) := by decide +kernel
theorem dX5_record_51 : decode cX5_record 51 = .ok (.getfield 7, 3) := by decide +kernel
theorem dX5_record_54 : decode cX5_record 54 = .ok (.iconst 0, 1) := by decide +kernel
theorem dX5_record_55 : decode cX5_record 55 = .ok (.aload_n 0, 1) := by decide +kernel
theorem dX5_record_56 : decode cX5_record 56 = .ok (.getfield 13, 3) := by decide +kernel
theorem dX5_record_59 : decode cX5_record 59 = .ok (.aload_n 0, 1) := by decide +kernel
theorem dX5_record_60 : decode cX5_record 60 = .ok (.getfield 35, 3) := by decide +kernel
theorem dX5_record_63 : decode cX5_record 63 = .ok (.sipush 637, 3) := by decide +kernel
theorem dX5_record_66 : decode cX5_record 66 = .ok (.imul, 1) := by decide +kernel
theorem dX5_record_67 : decode cX5_record 67 = .ok (.invokestatic 39, 3) := by decide +kernel
theorem dX5_record_70 : decode cX5_record 70 = .ok (.aload_n 0, 1) := by decide +kernel
theorem dX5_record_71 : decode cX5_record 71 = .ok (.dup, 1) := by decide +kernel
theorem dX5_record_72 : decode cX5_record 72 = .ok (.getfield 35, 3) := by decide +kernel
theorem dX5_record_75 : decode cX5_record 75 = .ok (.iconst 1, 1) := by decide +kernel
theorem dX5_record_76 : decode cX5_record 76 = .ok (.iadd, 1) := by decide +kernel
theorem dX5_record_77 : decode cX5_record 77 = .ok (.putfield 35, 3) := by decide +kernel
theorem dX5_record_80 : decode cX5_record 80 = .ok (.return_, 1) := by decide +kernel
set_option maxRecDepth 20000 in
theorem ggX5_isSketch_X5_within : GoodIn wsX5_isSketch wsX5_within := goodIn_r _ [4] (by decide +kernel) (by decide +kernel)
set_option maxRecDepth 20000 in
theorem gX5_isSketch_X5_within : GoodIn wsX5_isSketch (va_wsS RX5 43 yX5_within wsX5_within) := goodIn_app (goodIn_of _ (by decide +kernel)) ggX5_isSketch_X5_within
theorem dX5_isSketch_0 : decode cX5_isSketch 0 = .ok (.iload_n 0, 1) := by decide +kernel
theorem dX5_isSketch_1 : decode cX5_isSketch 1 = .ok (.iconst 0, 1) := by decide +kernel
theorem dX5_isSketch_2 : decode cX5_isSketch 2 = .ok (.iconst 5, 1) := by decide +kernel
theorem dX5_isSketch_3 : decode cX5_isSketch 3 = .ok (.invokestatic 43, 3) := by decide +kernel
theorem dX5_isSketch_6 : decode cX5_isSketch 6 = .ok (.ireturn, 1) := by decide +kernel
set_option maxRecDepth 20000 in
theorem ggX5_isThing_X5_within : GoodIn wsX5_isThing wsX5_within := goodIn_r _ [5] (by decide +kernel) (by decide +kernel)
set_option maxRecDepth 20000 in
theorem gX5_isThing_X5_within : GoodIn wsX5_isThing (va_wsS RX5 43 yX5_within wsX5_within) := goodIn_app (goodIn_of _ (by decide +kernel)) ggX5_isThing_X5_within
theorem dX5_isThing_0 : decode cX5_isThing 0 = .ok (.iload_n 0, 1) := by decide +kernel
theorem dX5_isThing_1 : decode cX5_isThing 1 = .ok (.iconst 0, 1) := by decide +kernel
theorem dX5_isThing_2 : decode cX5_isThing 2 = .ok (.ldc 47, 2) := by decide +kernel
theorem dX5_isThing_4 : decode cX5_isThing 4 = .ok (.invokestatic 43, 3) := by decide +kernel
theorem dX5_isThing_7 : decode cX5_isThing 7 = .ok (.ireturn, 1) := by decide +kernel
theorem dX5_part_0 : decode cX5_part 0 = .ok (.aload_n 0, 1) := by decide +kernel
theorem dX5_part_1 : decode cX5_part 1 = .ok (.getfield 7, 3) := by decide +kernel
theorem dX5_part_4 : decode cX5_part 4 = .ok (.iconst 1, 1) := by decide +kernel
theorem dX5_part_5 : decode cX5_part 5 = .ok (.bipush 106, 2) := by decide +kernel
theorem dX5_part_7 : decode cX5_part 7 = .ok (.iload_n 1, 1) := by decide +kernel
theorem dX5_part_8 : decode cX5_part 8 = .ok (.imul, 1) := by decide +kernel
theorem dX5_part_9 : decode cX5_part 9 = .ok (.iadd, 1) := by decide +kernel
theorem dX5_part_10 : decode cX5_part 10 = .ok (.iload_n 2, 1) := by decide +kernel
theorem dX5_part_11 : decode cX5_part 11 = .ok (.iadd, 1) := by decide +kernel
theorem dX5_part_12 : decode cX5_part 12 = .ok (.iaload, 1) := by decide +kernel
theorem dX5_part_13 : decode cX5_part 13 = .ok (.ireturn, 1) := by decide +kernel
theorem dX5_setPart_0 : decode cX5_setPart 0 = .ok (.aload_n 0, 1) := by decide +kernel
theorem dX5_setPart_1 : decode cX5_setPart 1 = .ok (.getfield 7, 3) := by decide +kernel
theorem dX5_setPart_4 : decode cX5_setPart 4 = .ok (.iconst 1, 1) := by decide +kernel
theorem dX5_setPart_5 : decode cX5_setPart 5 = .ok (.bipush 106, 2) := by decide +kernel
theorem dX5_setPart_7 : decode cX5_setPart 7 = .ok (.iload_n 1, 1) := by decide +kernel
theorem dX5_setPart_8 : decode cX5_setPart 8 = .ok (.imul, 1) := by decide +kernel
theorem dX5_setPart_9 : decode cX5_setPart 9 = .ok (.iadd, 1) := by decide +kernel
theorem dX5_setPart_10 : decode cX5_setPart 10 = .ok (.iload_n 2, 1) := by decide +kernel
theorem dX5_setPart_11 : decode cX5_setPart 11 = .ok (.iadd, 1) := by decide +kernel
theorem dX5_setPart_12 : decode cX5_setPart 12 = .ok (.iload_n 3, 1) := by decide +kernel
theorem dX5_setPart_13 : decode cX5_setPart 13 = .ok (.iastore, 1) := by decide +kernel
theorem dX5_setPart_14 : decode cX5_setPart 14 = .ok (.return_, 1) := by decide +kernel
set_option maxRecDepth 20000 in
theorem ggX5_bucketsOf_X5_part : GoodIn wsX5_bucketsOf wsX5_part := goodIn_r _ [5, 6, 7, 8, 9, 10, 11, 12, 13, 14, 15, 16, 17, 18, 19] (by decide +kernel) (by decide +kernel)
set_option maxRecDepth 20000 in
theorem gX5_bucketsOf_X5_part : GoodIn wsX5_bucketsOf (wsV RX5 48 RX5 yX5_part wsX5_part) := goodIn_app (goodIn_of _ (by decide +kernel)) ggX5_bucketsOf_X5_part
theorem dX5_bucketsOf_0 : decode cX5_bucketsOf 0 = .ok (.iconst 1, 1) := by decide +kernel
theorem dX5_bucketsOf_1 : decode cX5_bucketsOf 1 = .ok (.aload_n 0, 1) := by decide +kernel
theorem dX5_bucketsOf_2 : decode cX5_bucketsOf 2 = .ok (.iload_n 1, 1) := by decide +kernel
theorem dX5_bucketsOf_3 : decode cX5_bucketsOf 3 = .ok (.iconst 0, 1) := by decide +kernel
theorem dX5_bucketsOf_4 : decode cX5_bucketsOf 4 = .ok (.invokevirtual 48, 3) := by decide +kernel
theorem dX5_bucketsOf_7 : decode cX5_bucketsOf 7 = .ok (.ishl, 1) := by decide +kernel
theorem dX5_bucketsOf_8 : decode cX5_bucketsOf 8 = .ok (.ireturn, 1) := by decide +kernel
theorem dX5_hashOf_0 : decode cX5_hashOf 0 = .ok (.iload_n 0, 1) := by decide +kernel
theorem dX5_hashOf_1 : decode cX5_hashOf 1 = .ok (.i2l, 1) := by decide +kernel
theorem dX5_hashOf_2 : decode cX5_hashOf 2 = .ok (.ldc2_w 52, 3) := by decide +kernel
theorem dX5_hashOf_5 : decode cX5_hashOf 5 = .ok (.lmul, 1) := by decide +kernel
theorem dX5_hashOf_6 : decode cX5_hashOf 6 = .ok (.iload_n 1, 1) := by decide +kernel
theorem dX5_hashOf_7 : decode cX5_hashOf 7 = .ok (.i2l, 1) := by decide +kernel
theorem dX5_hashOf_8 : decode cX5_hashOf 8 = .ok (.ladd, 1) := by decide +kernel
theorem dX5_hashOf_9 : decode cX5_hashOf 9 = .ok (.ldc2_w 54, 3) := by decide +kernel
theorem dX5_hashOf_12 : decode cX5_hashOf 12 = .ok (.lrem, 1) := by decide +kernel
theorem dX5_hashOf_13 : decode cX5_hashOf 13 = .ok (.l2i, 1) := by decide +kernel
theorem dX5_hashOf_14 : decode cX5_hashOf 14 = .ok (.istore_n 2, 1) := by decide +kernel
theorem dX5_hashOf_15 : decode cX5_hashOf 15 = .ok (.iload_n 2, 1) := by decide +kernel
theorem dX5_hashOf_16 : decode cX5_hashOf 16 = .ok (.iload_n 2, 1) := by decide +kernel
theorem dX5_hashOf_17 : decode cX5_hashOf 17 = .ok (.sipush 256, 3) := by decide +kernel
theorem dX5_hashOf_20 : decode cX5_hashOf 20 = .ok (.idiv, 1) := by decide +kernel
theorem dX5_hashOf_21 : decode cX5_hashOf 21 = .ok (.ixor, 1) := by decide +kernel
theorem dX5_hashOf_22 : decode cX5_hashOf 22 = .ok (.ireturn, 1) := by decide +kernel
theorem dX5_rankOf_0 : decode cX5_rankOf 0 = .ok (.iload_n 0, 1) := by decide +kernel
theorem dX5_rankOf_1 : decode cX5_rankOf 1 = .ok (.iload_n 1, 1) := by decide +kernel
theorem dX5_rankOf_2 : decode cX5_rankOf 2 = .ok (.ishr, 1) := by decide +kernel
theorem dX5_rankOf_3 : decode cX5_rankOf 3 = .ok (.istore_n 2, 1) := by decide +kernel
theorem dX5_rankOf_4 : decode cX5_rankOf 4 = .ok (.iload_n 2, 1) := by decide +kernel
theorem dX5_rankOf_5 : decode cX5_rankOf 5 = .ok (.ifCond .ne 8, 3) := by decide +kernel
theorem dX5_rankOf_8 : decode cX5_rankOf 8 = .ok (.bipush 17, 2) := by decide +kernel
theorem dX5_rankOf_10 : decode cX5_rankOf 10 = .ok (.iload_n 1, 1) := by decide +kernel
theorem dX5_rankOf_11 : decode cX5_rankOf 11 = .ok (.isub, 1) := by decide +kernel
theorem dX5_rankOf_12 : decode cX5_rankOf 12 = .ok (.ireturn, 1) := by decide +kernel
theorem dX5_rankOf_13 : decode cX5_rankOf 13 = .ok (.iconst 1, 1) := by decide +kernel
theorem dX5_rankOf_14 : decode cX5_rankOf 14 = .ok (.istore_n 3, 1) := by decide +kernel
theorem dX5_rankOf_15 : decode cX5_rankOf 15 = .ok (.iload_n 2, 1) := by decide +kernel
theorem dX5_rankOf_16 : decode cX5_rankOf 16 = .ok (.iconst 1, 1) := by decide +kernel
theorem dX5_rankOf_17 : decode cX5_rankOf 17 = .ok (.iand, 1) := by decide +kernel
theorem dX5_rankOf_18 : decode cX5_rankOf 18 = .ok (.ifCond .ne 13, 3) := by decide +kernel
theorem dX5_rankOf_21 : decode cX5_rankOf 21 = .ok (.iload_n 2, 1) := by decide +kernel
theorem dX5_rankOf_22 : decode cX5_rankOf 22 = .ok (.iconst 1, 1) := by decide +kernel
theorem dX5_rankOf_23 : decode cX5_rankOf 23 = .ok (.ishr, 1) := by decide +kernel
theorem dX5_rankOf_24 : decode cX5_rankOf 24 = .ok (.istore_n 2, 1) := by decide +kernel
theorem dX5_rankOf_25 : decode cX5_rankOf 25 = .ok (.iinc 3 1, 3) := by decide +kernel
theorem dX5_rankOf_28 : decode cX5_rankOf 28 = .ok (.goto (-13), 3) := by decide +kernel
theorem dX5_rankOf_31 : decode cX5_rankOf 31 = .ok (.iload_n 3, 1) := by decide +kernel
theorem dX5_rankOf_32 : decode cX5_rankOf 32 = .ok (.ireturn, 1) := by decide +kernel
set_option maxRecDepth 20000 in
theorem ggX5_bucketOf_X5_hashOf : GoodIn wsX5_bucketOf wsX5_hashOf := goodIn_r _ [5, 6, 7] (by decide +kernel) (by decide +kernel)
set_option maxRecDepth 20000 in
theorem gX5_bucketOf_X5_hashOf : GoodIn wsX5_bucketOf (va_wsS RX5 56 yX5_hashOf wsX5_hashOf) := goodIn_app (goodIn_of _ (by decide +kernel)) ggX5_bucketOf_X5_hashOf
set_option maxRecDepth 20000 in
theorem ggX5_bucketOf_X5_bucketsOf : GoodIn wsX5_bucketOf wsX5_bucketsOf := goodIn_r _ [11, 12, 13, 14, 4, 15, 1, 16, 17, 18, 19, 20, 21, 22, 23, 24, 25, 26, 27, 28] (by decide +kernel) (by decide +kernel)
set_option maxRecDepth 20000 in
theorem gX5_bucketOf_X5_bucketsOf : GoodIn wsX5_bucketOf (wsV RX5 59 RX5 yX5_bucketsOf wsX5_bucketsOf) := goodIn_app (goodIn_of _ (by decide +kernel)) ggX5_bucketOf_X5_bucketsOf
theorem dX5_bucketOf_0 : decode cX5_bucketOf 0 = .ok (.iload_n 2, 1) := by decide +kernel
theorem dX5_bucketOf_1 : decode cX5_bucketOf 1 = .ok (.aload_n 0, 1) := by decide +kernel
theorem dX5_bucketOf_2 : decode cX5_bucketOf 2 = .ok (.getfield 7, 3) := by decide +kernel
theorem dX5_bucketOf_5 : decode cX5_bucketOf 5 = .ok (.iconst 0, 1) := by decide +kernel
theorem dX5_bucketOf_6 : decode cX5_bucketOf 6 = .ok (.iaload, 1) := by decide +kernel
theorem dX5_bucketOf_7 : decode cX5_bucketOf 7 = .ok (.invokestatic 56, 3) := by decide +kernel
theorem dX5_bucketOf_10 : decode cX5_bucketOf 10 = .ok (.aload_n 0, 1) := by decide +kernel
theorem dX5_bucketOf_11 : decode cX5_bucketOf 11 = .ok (.iload_n 1, 1) := by decide +kernel
theorem dX5_bucketOf_12 : decode cX5_bucketOf 12 = .ok (.invokevirtual 59, 3) := by decide +kernel
theorem dX5_bucketOf_15 : decode cX5_bucketOf 15 = .ok (.irem, 1) := by decide +kernel
theorem dX5_bucketOf_16 : decode cX5_bucketOf 16 = .ok (.ireturn, 1) := by decide +kernel
set_option maxRecDepth 20000 in
theorem ggX5_rankIn_X5_hashOf : GoodIn wsX5_rankIn wsX5_hashOf := goodIn_r _ [5, 6, 7] (by decide +kernel) (by decide +kernel)
set_option maxRecDepth 20000 in
theorem gX5_rankIn_X5_hashOf : GoodIn wsX5_rankIn (va_wsS RX5 56 yX5_hashOf wsX5_hashOf) := goodIn_app (goodIn_of _ (by decide +kernel)) ggX5_rankIn_X5_hashOf
set_option maxRecDepth 20000 in
theorem ggX5_rankIn_X5_part : GoodIn wsX5_rankIn wsX5_part := goodIn_r _ [11, 1, 15, 16, 17, 18, 19, 20, 21, 22, 23, 24, 25, 26, 27] (by decide +kernel) (by decide +kernel)
set_option maxRecDepth 20000 in
theorem gX5_rankIn_X5_part : GoodIn wsX5_rankIn (wsV RX5 48 RX5 yX5_part wsX5_part) := goodIn_app (goodIn_of _ (by decide +kernel)) ggX5_rankIn_X5_part
set_option maxRecDepth 20000 in
theorem ggX5_rankIn_X5_rankOf : GoodIn wsX5_rankIn wsX5_rankOf := goodIn_r _ [14] (by decide +kernel) (by decide +kernel)
set_option maxRecDepth 20000 in
theorem gX5_rankIn_X5_rankOf : GoodIn wsX5_rankIn (va_wsS RX5 63 yX5_rankOf wsX5_rankOf) := goodIn_app (goodIn_of _ (by decide +kernel)) ggX5_rankIn_X5_rankOf
theorem dX5_rankIn_0 : decode cX5_rankIn 0 = .ok (.iload_n 2, 1) := by decide +kernel
theorem dX5_rankIn_1 : decode cX5_rankIn 1 = .ok (.aload_n 0, 1) := by decide +kernel
theorem dX5_rankIn_2 : decode cX5_rankIn 2 = .ok (.getfield 7, 3) := by decide +kernel
theorem dX5_rankIn_5 : decode cX5_rankIn 5 = .ok (.iconst 0, 1) := by decide +kernel
theorem dX5_rankIn_6 : decode cX5_rankIn 6 = .ok (.iaload, 1) := by decide +kernel
theorem dX5_rankIn_7 : decode cX5_rankIn 7 = .ok (.invokestatic 56, 3) := by decide +kernel
theorem dX5_rankIn_10 : decode cX5_rankIn 10 = .ok (.aload_n 0, 1) := by decide +kernel
theorem dX5_rankIn_11 : decode cX5_rankIn 11 = .ok (.iload_n 1, 1) := by decide +kernel
theorem dX5_rankIn_12 : decode cX5_rankIn 12 = .ok (.iconst 0, 1) := by decide +kernel
theorem dX5_rankIn_13 : decode cX5_rankIn 13 = .ok (.invokevirtual 48, 3) := by decide +kernel
theorem dX5_rankIn_16 : decode cX5_rankIn 16 = .ok (.invokestatic 63, 3) := by decide +kernel
theorem dX5_rankIn_19 : decode cX5_rankIn 19 = .ok (.ireturn, 1) := by decide +kernel
set_option maxRecDepth 20000 in
theorem ggX5_wouldChange_X5_rankIn : GoodIn wsX5_wouldChange wsX5_rankIn := goodIn_r _ [5, 6, 7, 8, 4, 9, 10, 11, 12, 13, 14, 15, 16, 17, 18, 27, 28, 29, 30, 31, 32, 33, 34, 35, 36, 37, 38, 39] (by decide +kernel) (by decide +kernel)
set_option maxRecDepth 20000 in
theorem gX5_wouldChange_X5_rankIn : GoodIn wsX5_wouldChange (wsV RX5 66 RX5 yX5_rankIn wsX5_rankIn) := goodIn_app (goodIn_of _ (by decide +kernel)) ggX5_wouldChange_X5_rankIn
set_option maxRecDepth 20000 in
theorem ggX5_wouldChange_X5_bucketOf : GoodIn wsX5_wouldChange wsX5_bucketOf := goodIn_r _ [22, 6, 7, 8, 4, 9, 10, 11, 23, 24, 25, 26, 12, 13, 14, 15, 27, 28, 29, 30, 31, 32, 33, 34, 35, 36, 37, 38, 39] (by decide +kernel) (by decide +kernel)
set_option maxRecDepth 20000 in
theorem gX5_wouldChange_X5_bucketOf : GoodIn wsX5_wouldChange (wsV RX5 69 RX5 yX5_bucketOf wsX5_bucketOf) := goodIn_app (goodIn_of _ (by decide +kernel)) ggX5_wouldChange_X5_bucketOf
set_option maxRecDepth 20000 in
theorem ggX5_wouldChange_X5_part : GoodIn wsX5_wouldChange wsX5_part := goodIn_r _ [15, 6, 27, 28, 29, 30, 31, 32, 33, 34, 35, 36, 37, 38, 39] (by decide +kernel) (by decide +kernel)
set_option maxRecDepth 20000 in
theorem gX5_wouldChange_X5_part : GoodIn wsX5_wouldChange (wsV RX5 48 RX5 yX5_part wsX5_part) := goodIn_app (goodIn_of _ (by decide +kernel)) ggX5_wouldChange_X5_part
theorem dX5_wouldChange_0 : decode cX5_wouldChange 0 = .ok (.aload_n 0, 1) := by decide +kernel
theorem dX5_wouldChange_1 : decode cX5_wouldChange 1 = .ok (.iload_n 1, 1) := by decide +kernel
theorem dX5_wouldChange_2 : decode cX5_wouldChange 2 = .ok (.iload_n 2, 1) := by decide +kernel
theorem dX5_wouldChange_3 : decode cX5_wouldChange 3 = .ok (.invokevirtual 66, 3) := by decide +kernel
theorem dX5_wouldChange_6 : decode cX5_wouldChange 6 = .ok (.aload_n 0, 1) := by decide +kernel
theorem dX5_wouldChange_7 : decode cX5_wouldChange 7 = .ok (.iload_n 1, 1) := by decide +kernel
theorem dX5_wouldChange_8 : decode cX5_wouldChange 8 = .ok (.iconst 2, 1) := by decide +kernel
theorem dX5_wouldChange_9 : decode cX5_wouldChange 9 = .ok (.aload_n 0, 1) := by decide +kernel
theorem dX5_wouldChange_10 : decode cX5_wouldChange 10 = .ok (.iload_n 1, 1) := by decide +kernel
theorem dX5_wouldChange_11 : decode cX5_wouldChange 11 = .ok (.iload_n 2, 1) := by decide +kernel
theorem dX5_wouldChange_12 : decode cX5_wouldChange 12 = .ok (.invokevirtual 69, 3) := by decide +kernel
theorem dX5_wouldChange_15 : decode cX5_wouldChange 15 = .ok (.iadd, 1) := by decide +kernel
theorem dX5_wouldChange_16 : decode cX5_wouldChange 16 = .ok (.invokevirtual 48, 3) := by decide +kernel
theorem dX5_wouldChange_19 : decode cX5_wouldChange 19 = .ok (.if_icmp .le 7, 3) := by decide +kernel
theorem dX5_wouldChange_22 : decode cX5_wouldChange 22 = .ok (.iconst 1, 1) := by decide +kernel
theorem dX5_wouldChange_23 : decode cX5_wouldChange 23 = .ok (.goto 4, 3) := by decide +kernel
theorem dX5_wouldChange_26 : decode cX5_wouldChange 26 = .ok (.iconst 0, 1) := by decide +kernel
theorem dX5_wouldChange_27 : decode cX5_wouldChange 27 = .ok (.ireturn, 1) := by decide +kernel
set_option maxRecDepth 20000 in
theorem ggX5_filled_X5_bucketsOf : GoodIn wsX5_filled wsX5_bucketsOf := goodIn_r _ [5, 6, 7, 8, 4, 9, 10, 11, 12, 13, 14, 15, 16, 17, 18, 19, 20, 21, 22, 23] (by decide +kernel) (by decide +kernel)
set_option maxRecDepth 20000 in
theorem gX5_filled_X5_bucketsOf : GoodIn wsX5_filled (wsV RX5 59 RX5 yX5_bucketsOf wsX5_bucketsOf) := goodIn_app (goodIn_of _ (by decide +kernel)) ggX5_filled_X5_bucketsOf
set_option maxRecDepth 20000 in
theorem ggX5_filled_X5_part : GoodIn wsX5_filled wsX5_part := goodIn_r _ [9, 10, 11, 12, 13, 14, 15, 16, 17, 18, 19, 20, 21, 22, 23] (by decide +kernel) (by decide +kernel)
set_option maxRecDepth 20000 in
theorem gX5_filled_X5_part : GoodIn wsX5_filled (wsV RX5 48 RX5 yX5_part wsX5_part) := goodIn_app (goodIn_of _ (by decide +kernel)) ggX5_filled_X5_part
theorem dX5_filled_0 : decode cX5_filled 0 = .ok (.iconst 0, 1) := by decide +kernel
theorem dX5_filled_1 : decode cX5_filled 1 = .ok (.istore_n 2, 1) := by decide +kernel
theorem dX5_filled_2 : decode cX5_filled 2 = .ok (.iconst 0, 1) := by decide +kernel
theorem dX5_filled_3 : decode cX5_filled 3 = .ok (.istore_n 3, 1) := by decide +kernel
theorem dX5_filled_4 : decode cX5_filled 4 = .ok (.iload_n 3, 1) := by decide +kernel
theorem dX5_filled_5 : decode cX5_filled 5 = .ok (.aload_n 0, 1) := by decide +kernel
theorem dX5_filled_6 : decode cX5_filled 6 = .ok (.iload_n 1, 1) := by decide +kernel
theorem dX5_filled_7 : decode cX5_filled 7 = .ok (.invokevirtual 59, 3) := by decide +kernel
theorem dX5_filled_10 : decode cX5_filled 10 = .ok (.if_icmp .ge 28, 3) := by decide +kernel
theorem dX5_filled_13 : decode cX5_filled 13 = .ok (.iload_n 2, 1) := by decide +kernel
theorem dX5_filled_14 : decode cX5_filled 14 = .ok (.aload_n 0, 1) := by decide +kernel
theorem dX5_filled_15 : decode cX5_filled 15 = .ok (.iload_n 1, 1) := by decide +kernel
theorem dX5_filled_16 : decode cX5_filled 16 = .ok (.iconst 2, 1) := by decide +kernel
theorem dX5_filled_17 : decode cX5_filled 17 = .ok (.iload_n 3, 1) := by decide +kernel
theorem dX5_filled_18 : decode cX5_filled 18 = .ok (.iadd, 1) := by decide +kernel
theorem dX5_filled_19 : decode cX5_filled 19 = .ok (.invokevirtual 48, 3) := by decide +kernel
theorem dX5_filled_22 : decode cX5_filled 22 = .ok (.ifCond .le 7, 3) := by decide +kernel
theorem dX5_filled_25 : decode cX5_filled 25 = .ok (.iconst 1, 1) := by decide +kernel
theorem dX5_filled_26 : decode cX5_filled 26 = .ok (.goto 4, 3) := by decide +kernel
theorem dX5_filled_29 : decode cX5_filled 29 = .ok (.iconst 0, 1) := by decide +kernel
theorem dX5_filled_30 : decode cX5_filled 30 = .ok (.iadd, 1) := by decide +kernel
theorem dX5_filled_31 : decode cX5_filled 31 = .ok (.istore_n 2, 1) := by decide +kernel
theorem dX5_filled_32 : decode cX5_filled 32 = .ok (.iinc 3 1, 3) := by decide +kernel
theorem dX5_filled_35 : decode cX5_filled 35 = .ok (.goto (-31), 3) := by decide +kernel
theorem dX5_filled_38 : decode cX5_filled 38 = .ok (.iload_n 2, 1) := by decide +kernel
theorem dX5_filled_39 : decode cX5_filled 39 = .ok (.ireturn, 1) := by decide +kernel
set_option maxRecDepth 20000 in
theorem ggX5_allFilled_X5_filled : GoodIn wsX5_allFilled wsX5_filled := goodIn_r _ [5, 6, 7, 8, 4, 9, 10, 11, 12, 13, 14, 15, 16, 17, 18, 19, 20, 21, 22, 23, 24, 25, 26, 27] (by decide +kernel) (by decide +kernel)
set_option maxRecDepth 20000 in
theorem gX5_allFilled_X5_filled : GoodIn wsX5_allFilled (wsV RX5 72 RX5 yX5_filled wsX5_filled) := goodIn_app (goodIn_of _ (by decide +kernel)) ggX5_allFilled_X5_filled
theorem dX5_allFilled_0 : decode cX5_allFilled 0 = .ok (.iconst 0, 1) := by decide +kernel
theorem dX5_allFilled_1 : decode cX5_allFilled 1 = .ok (.istore_n 1, 1) := by decide +kernel
theorem dX5_allFilled_2 : decode cX5_allFilled 2 = .ok (.iconst 0, 1) := by decide +kernel
theorem dX5_allFilled_3 : decode cX5_allFilled 3 = .ok (.istore_n 2, 1) := by decide +kernel
theorem dX5_allFilled_4 : decode cX5_allFilled 4 = .ok (.iload_n 2, 1) := by decide +kernel
theorem dX5_allFilled_5 : decode cX5_allFilled 5 = .ok (.bipush 6, 2) := by decide +kernel
theorem dX5_allFilled_7 : decode cX5_allFilled 7 = .ok (.if_icmp .ge 17, 3) := by decide +kernel
theorem dX5_allFilled_10 : decode cX5_allFilled 10 = .ok (.iload_n 1, 1) := by decide +kernel
theorem dX5_allFilled_11 : decode cX5_allFilled 11 = .ok (.aload_n 0, 1) := by decide +kernel
theorem dX5_allFilled_12 : decode cX5_allFilled 12 = .ok (.iload_n 2, 1) := by decide +kernel
theorem dX5_allFilled_13 : decode cX5_allFilled 13 = .ok (.invokevirtual 72, 3) := by decide +kernel
theorem dX5_allFilled_16 : decode cX5_allFilled 16 = .ok (.iadd, 1) := by decide +kernel
theorem dX5_allFilled_17 : decode cX5_allFilled 17 = .ok (.istore_n 1, 1) := by decide +kernel
theorem dX5_allFilled_18 : decode cX5_allFilled 18 = .ok (.iinc 2 1, 3) := by decide +kernel
theorem dX5_allFilled_21 : decode cX5_allFilled 21 = .ok (.goto (-17), 3) := by decide +kernel
theorem dX5_allFilled_24 : decode cX5_allFilled 24 = .ok (.iload_n 1, 1) := by decide +kernel
theorem dX5_allFilled_25 : decode cX5_allFilled 25 = .ok (.ireturn, 1) := by decide +kernel
set_option maxRecDepth 20000 in
theorem ggX5_takeRanks_X5_part : GoodIn wsX5_takeRanks wsX5_part := goodIn_r _ [6, 7, 8, 9, 10, 11, 12, 13, 14, 15, 16, 17, 18, 19, 20] (by decide +kernel) (by decide +kernel)
set_option maxRecDepth 20000 in
theorem gX5_takeRanks_X5_part : GoodIn wsX5_takeRanks (wsV RX5 48 RX5 yX5_part wsX5_part) := goodIn_app (goodIn_of _ (by decide +kernel)) ggX5_takeRanks_X5_part
theorem dX5_takeRanks_0 : decode cX5_takeRanks 0 = .ok (.iconst 0, 1) := by decide +kernel
theorem dX5_takeRanks_1 : decode cX5_takeRanks 1 = .ok (.istore_n 2, 1) := by decide +kernel
theorem dX5_takeRanks_2 : decode cX5_takeRanks 2 = .ok (.iload_n 2, 1) := by decide +kernel
theorem dX5_takeRanks_3 : decode cX5_takeRanks 3 = .ok (.bipush 64, 2) := by decide +kernel
theorem dX5_takeRanks_5 : decode cX5_takeRanks 5 = .ok (.if_icmp .ge 23, 3) := by decide +kernel
theorem dX5_takeRanks_8 : decode cX5_takeRanks 8 = .ok (.aload_n 0, 1) := by decide +kernel
theorem dX5_takeRanks_9 : decode cX5_takeRanks 9 = .ok (.getfield 25, 3) := by decide +kernel
theorem dX5_takeRanks_12 : decode cX5_takeRanks 12 = .ok (.iload_n 2, 1) := by decide +kernel
theorem dX5_takeRanks_13 : decode cX5_takeRanks 13 = .ok (.aload_n 0, 1) := by decide +kernel
theorem dX5_takeRanks_14 : decode cX5_takeRanks 14 = .ok (.iload_n 1, 1) := by decide +kernel
theorem dX5_takeRanks_15 : decode cX5_takeRanks 15 = .ok (.iconst 2, 1) := by decide +kernel
theorem dX5_takeRanks_16 : decode cX5_takeRanks 16 = .ok (.iload_n 2, 1) := by decide +kernel
theorem dX5_takeRanks_17 : decode cX5_takeRanks 17 = .ok (.iadd, 1) := by decide +kernel
theorem dX5_takeRanks_18 : decode cX5_takeRanks 18 = .ok (.invokevirtual 48, 3) := by decide +kernel
theorem dX5_takeRanks_21 : decode cX5_takeRanks 21 = .ok (.iastore, 1) := by decide +kernel
theorem dX5_takeRanks_22 : decode cX5_takeRanks 22 = .ok (.iinc 2 1, 3) := by decide +kernel
theorem dX5_takeRanks_25 : decode cX5_takeRanks 25 = .ok (.goto (-23), 3) := by decide +kernel
theorem dX5_takeRanks_28 : decode cX5_takeRanks 28 = .ok (.return_, 1) := by decide +kernel
theorem dX5_sumBy_0 : decode cX5_sumBy 0 = .ok (.iconst 0, 1) := by decide +kernel
theorem dX5_sumBy_1 : decode cX5_sumBy 1 = .ok (.istore_n 2, 1) := by decide +kernel
theorem dX5_sumBy_2 : decode cX5_sumBy 2 = .ok (.iconst 0, 1) := by decide +kernel
theorem dX5_sumBy_3 : decode cX5_sumBy 3 = .ok (.istore_n 3, 1) := by decide +kernel
theorem dX5_sumBy_4 : decode cX5_sumBy 4 = .ok (.iload_n 3, 1) := by decide +kernel
theorem dX5_sumBy_5 : decode cX5_sumBy 5 = .ok (.iload_n 1, 1) := by decide +kernel
theorem dX5_sumBy_6 : decode cX5_sumBy 6 = .ok (.if_icmp .ge 21, 3) := by decide +kernel
theorem dX5_sumBy_9 : decode cX5_sumBy 9 = .ok (.iload_n 2, 1) := by decide +kernel
theorem dX5_sumBy_10 : decode cX5_sumBy 10 = .ok (.ldc 75, 2) := by decide +kernel
theorem dX5_sumBy_12 : decode cX5_sumBy 12 = .ok (.aload_n 0, 1) := by decide +kernel
theorem dX5_sumBy_13 : decode cX5_sumBy 13 = .ok (.getfield 25, 3) := by decide +kernel
theorem dX5_sumBy_16 : decode cX5_sumBy 16 = .ok (.iload_n 3, 1) := by decide +kernel
theorem dX5_sumBy_17 : decode cX5_sumBy 17 = .ok (.iaload, 1) := by decide +kernel
theorem dX5_sumBy_18 : decode cX5_sumBy 18 = .ok (.ishr, 1) := by decide +kernel
theorem dX5_sumBy_19 : decode cX5_sumBy 19 = .ok (.iadd, 1) := by decide +kernel
theorem dX5_sumBy_20 : decode cX5_sumBy 20 = .ok (.istore_n 2, 1) := by decide +kernel
theorem dX5_sumBy_21 : decode cX5_sumBy 21 = .ok (.iinc 3 1, 3) := by decide +kernel
theorem dX5_sumBy_24 : decode cX5_sumBy 24 = .ok (.goto (-20), 3) := by decide +kernel
theorem dX5_sumBy_27 : decode cX5_sumBy 27 = .ok (.iload_n 2, 1) := by decide +kernel
theorem dX5_sumBy_28 : decode cX5_sumBy 28 = .ok (.ireturn, 1) := by decide +kernel
theorem dX5_emptyBy_0 : decode cX5_emptyBy 0 = .ok (.iconst 0, 1) := by decide +kernel
theorem dX5_emptyBy_1 : decode cX5_emptyBy 1 = .ok (.istore_n 2, 1) := by decide +kernel
theorem dX5_emptyBy_2 : decode cX5_emptyBy 2 = .ok (.iconst 0, 1) := by decide +kernel
theorem dX5_emptyBy_3 : decode cX5_emptyBy 3 = .ok (.istore_n 3, 1) := by decide +kernel
theorem dX5_emptyBy_4 : decode cX5_emptyBy 4 = .ok (.iload_n 3, 1) := by decide +kernel
theorem dX5_emptyBy_5 : decode cX5_emptyBy 5 = .ok (.iload_n 1, 1) := by decide +kernel
theorem dX5_emptyBy_6 : decode cX5_emptyBy 6 = .ok (.if_icmp .ge 26, 3) := by decide +kernel
theorem dX5_emptyBy_9 : decode cX5_emptyBy 9 = .ok (.iload_n 2, 1) := by decide +kernel
theorem dX5_emptyBy_10 : decode cX5_emptyBy 10 = .ok (.aload_n 0, 1) := by decide +kernel
theorem dX5_emptyBy_11 : decode cX5_emptyBy 11 = .ok (.getfield 25, 3) := by decide +kernel
theorem dX5_emptyBy_14 : decode cX5_emptyBy 14 = .ok (.iload_n 3, 1) := by decide +kernel
theorem dX5_emptyBy_15 : decode cX5_emptyBy 15 = .ok (.iaload, 1) := by decide +kernel
theorem dX5_emptyBy_16 : decode cX5_emptyBy 16 = .ok (.ifCond .ne 7, 3) := by decide +kernel
theorem dX5_emptyBy_19 : decode cX5_emptyBy 19 = .ok (.iconst 1, 1) := by decide +kernel
theorem dX5_emptyBy_20 : decode cX5_emptyBy 20 = .ok (.goto 4, 3) := by decide +kernel
theorem dX5_emptyBy_23 : decode cX5_emptyBy 23 = .ok (.iconst 0, 1) := by decide +kernel
theorem dX5_emptyBy_24 : decode cX5_emptyBy 24 = .ok (.iadd, 1) := by decide +kernel
theorem dX5_emptyBy_25 : decode cX5_emptyBy 25 = .ok (.istore_n 2, 1) := by decide +kernel
theorem dX5_emptyBy_26 : decode cX5_emptyBy 26 = .ok (.iinc 3 1, 3) := by decide +kernel
theorem dX5_emptyBy_29 : decode cX5_emptyBy 29 = .ok (.goto (-25), 3) := by decide +kernel
theorem dX5_emptyBy_32 : decode cX5_emptyBy 32 = .ok (.iload_n 2, 1) := by decide +kernel
theorem dX5_emptyBy_33 : decode cX5_emptyBy 33 = .ok (.ireturn, 1) := by decide +kernel
set_option maxRecDepth 20000 in
theorem ggX5_rawBy_X5_sumBy : GoodIn wsX5_rawBy wsX5_sumBy := goodIn_r _ [8, 9, 10, 11, 12, 13, 14, 15, 16, 17, 18, 19, 20, 21, 22, 23] (by decide +kernel) (by decide +kernel)
set_option maxRecDepth 20000 in
theorem gX5_rawBy_X5_sumBy : GoodIn wsX5_rawBy (wsV RX5 80 RX5 yX5_sumBy wsX5_sumBy) := goodIn_app (goodIn_of _ (by decide +kernel)) ggX5_rawBy_X5_sumBy
theorem dX5_rawBy_0 : decode cX5_rawBy 0 = .ok (.iload_n 1, 1) := by decide +kernel
theorem dX5_rawBy_1 : decode cX5_rawBy 1 = .ok (.i2l, 1) := by decide +kernel
theorem dX5_rawBy_2 : decode cX5_rawBy 2 = .ok (.iload_n 1, 1) := by decide +kernel
theorem dX5_rawBy_3 : decode cX5_rawBy 3 = .ok (.i2l, 1) := by decide +kernel
theorem dX5_rawBy_4 : decode cX5_rawBy 4 = .ok (.lmul, 1) := by decide +kernel
theorem dX5_rawBy_5 : decode cX5_rawBy 5 = .ok (.ldc2_w 54, 3) := by decide +kernel
theorem dX5_rawBy_8 : decode cX5_rawBy 8 = .ok (.lmul, 1) := by decide +kernel
theorem dX5_rawBy_9 : decode cX5_rawBy 9 = .ok (.ldc2_w 76, 3) := by decide +kernel
theorem dX5_rawBy_12 : decode cX5_rawBy 12 = .ok (.lmul, 1) := by decide +kernel
theorem dX5_rawBy_13 : decode cX5_rawBy 13 = .ok (.ldc2_w 78, 3) := by decide +kernel
theorem dX5_rawBy_16 : decode cX5_rawBy 16 = .ok (.aload_n 0, 1) := by decide +kernel
theorem dX5_rawBy_17 : decode cX5_rawBy 17 = .ok (.iload_n 1, 1) := by decide +kernel
theorem dX5_rawBy_18 : decode cX5_rawBy 18 = .ok (.invokevirtual 80, 3) := by decide +kernel
theorem dX5_rawBy_21 : decode cX5_rawBy 21 = .ok (.i2l, 1) := by decide +kernel
theorem dX5_rawBy_22 : decode cX5_rawBy 22 = .ok (.lmul, 1) := by decide +kernel
theorem dX5_rawBy_23 : decode cX5_rawBy 23 = .ok (.ldiv, 1) := by decide +kernel
theorem dX5_rawBy_24 : decode cX5_rawBy 24 = .ok (.l2i, 1) := by decide +kernel
theorem dX5_rawBy_25 : decode cX5_rawBy 25 = .ok (.ireturn, 1) := by decide +kernel
set_option maxRecDepth 20000 in
theorem ggX5_estimateBy_X5_rawBy : GoodIn wsX5_estimateBy wsX5_rawBy := goodIn_r _ [5, 6, 7, 8, 9, 10, 11, 4, 12, 13, 14, 19, 20, 21, 22, 23, 24, 25, 26, 27, 28, 29, 30, 31] (by decide +kernel) (by decide +kernel)
set_option maxRecDepth 20000 in
theorem gX5_estimateBy_X5_rawBy : GoodIn wsX5_estimateBy (wsV RX5 83 RX5 yX5_rawBy wsX5_rawBy) := goodIn_app (goodIn_of _ (by decide +kernel)) ggX5_estimateBy_X5_rawBy
set_option maxRecDepth 20000 in
theorem ggX5_estimateBy_X5_emptyBy : GoodIn wsX5_estimateBy wsX5_emptyBy := goodIn_r _ [18, 14, 19, 20, 21, 22, 23, 24, 25, 26, 27, 28, 29, 30, 31] (by decide +kernel) (by decide +kernel)
set_option maxRecDepth 20000 in
theorem gX5_estimateBy_X5_emptyBy : GoodIn wsX5_estimateBy (wsV RX5 86 RX5 yX5_emptyBy wsX5_emptyBy) := goodIn_app (goodIn_of _ (by decide +kernel)) ggX5_estimateBy_X5_emptyBy
theorem dX5_estimateBy_0 : decode cX5_estimateBy 0 = .ok (.aload_n 0, 1) := by decide +kernel
theorem dX5_estimateBy_1 : decode cX5_estimateBy 1 = .ok (.iload_n 1, 1) := by decide +kernel
theorem dX5_estimateBy_2 : decode cX5_estimateBy 2 = .ok (.invokevirtual 83, 3) := by decide +kernel
theorem dX5_estimateBy_5 : decode cX5_estimateBy 5 = .ok (.istore_n 2, 1) := by decide +kernel
theorem dX5_estimateBy_6 : decode cX5_estimateBy 6 = .ok (.aload_n 0, 1) := by decide +kernel
theorem dX5_estimateBy_7 : decode cX5_estimateBy 7 = .ok (.iload_n 1, 1) := by decide +kernel
theorem dX5_estimateBy_8 : decode cX5_estimateBy 8 = .ok (.invokevirtual 86, 3) := by decide +kernel
theorem dX5_estimateBy_11 : decode cX5_estimateBy 11 = .ok (.istore_n 3, 1) := by decide +kernel
theorem dX5_estimateBy_12 : decode cX5_estimateBy 12 = .ok (.iload_n 2, 1) := by decide +kernel
theorem dX5_estimateBy_13 : decode cX5_estimateBy 13 = .ok (.iconst 5, 1) := by decide +kernel
theorem dX5_estimateBy_14 : decode cX5_estimateBy 14 = .ok (.iload_n 1, 1) := by decide +kernel
theorem dX5_estimateBy_15 : decode cX5_estimateBy 15 = .ok (.imul, 1) := by decide +kernel
theorem dX5_estimateBy_16 : decode cX5_estimateBy 16 = .ok (.iconst 2, 1) := by decide +kernel
theorem dX5_estimateBy_17 : decode cX5_estimateBy 17 = .ok (.idiv, 1) := by decide +kernel
theorem dX5_estimateBy_18 : decode cX5_estimateBy 18 = .ok (.if_icmp .gt 7, 3) := by decide +kernel
theorem dX5_estimateBy_21 : decode cX5_estimateBy 21 = .ok (.iload_n 3, 1) := by decide +kernel
theorem dX5_estimateBy_22 : decode cX5_estimateBy 22 = .ok (.ifCond .ne 5, 3) := by decide +kernel
theorem dX5_estimateBy_25 : decode cX5_estimateBy 25 = .ok (.iload_n 2, 1) := by decide +kernel
theorem dX5_estimateBy_26 : decode cX5_estimateBy 26 = .ok (.ireturn, 1) := by decide +kernel
theorem dX5_estimateBy_27 : decode cX5_estimateBy 27 = .ok (.iconst 0, 1) := by decide +kernel
theorem dX5_estimateBy_28 : decode cX5_estimateBy 28 = .ok (.istore 4, 2) := by decide +kernel
theorem dX5_estimateBy_30 : decode cX5_estimateBy 30 = .ok (.iload_n 3, 1) := by decide +kernel
theorem dX5_estimateBy_31 : decode cX5_estimateBy 31 = .ok (.iconst 1, 1) := by decide +kernel
theorem dX5_estimateBy_32 : decode cX5_estimateBy 32 = .ok (.iadd, 1) := by decide +kernel
theorem dX5_estimateBy_33 : decode cX5_estimateBy 33 = .ok (.istore 5, 2) := by decide +kernel
theorem dX5_estimateBy_35 : decode cX5_estimateBy 35 = .ok (.iload 5, 2) := by decide +kernel
theorem dX5_estimateBy_37 : decode cX5_estimateBy 37 = .ok (.iload_n 1, 1) := by decide +kernel
theorem dX5_estimateBy_38 : decode cX5_estimateBy 38 = .ok (.if_icmp .gt 18, 3) := by decide +kernel
theorem dX5_estimateBy_41 : decode cX5_estimateBy 41 = .ok (.iload 4, 2) := by decide +kernel
theorem dX5_estimateBy_43 : decode cX5_estimateBy 43 = .ok (.iload_n 1, 1) := by decide +kernel
theorem dX5_estimateBy_44 : decode cX5_estimateBy 44 = .ok (.iload 5, 2) := by decide +kernel
theorem dX5_estimateBy_46 : decode cX5_estimateBy 46 = .ok (.idiv, 1) := by decide +kernel
theorem dX5_estimateBy_47 : decode cX5_estimateBy 47 = .ok (.iadd, 1) := by decide +kernel
theorem dX5_estimateBy_48 : decode cX5_estimateBy 48 = .ok (.istore 4, 2) := by decide +kernel
theorem dX5_estimateBy_50 : decode cX5_estimateBy 50 = .ok (.iinc 5 1, 3) := by decide +kernel
theorem dX5_estimateBy_53 : decode cX5_estimateBy 53 = .ok (.goto (-18), 3) := by decide +kernel
theorem dX5_estimateBy_56 : decode cX5_estimateBy 56 = .ok (.iload 4, 2) := by decide +kernel
theorem dX5_estimateBy_58 : decode cX5_estimateBy 58 = .ok (.ireturn, 1) := by decide +kernel
set_option maxRecDepth 20000 in
theorem ggX5_estimateOf_X5_takeRanks : GoodIn wsX5_estimateOf wsX5_takeRanks := goodIn_r _ [5, 6, 7, 8, 9, 4, 10, 11, 36, 37, 38, 39, 40, 41, 42, 43, 44, 45, 46, 47, 48] (by decide +kernel) (by decide +kernel)
set_option maxRecDepth 20000 in
theorem gX5_estimateOf_X5_takeRanks : GoodIn wsX5_estimateOf (wsV RX5 89 RX5 yX5_takeRanks wsX5_takeRanks) := goodIn_app (goodIn_of _ (by decide +kernel)) ggX5_estimateOf_X5_takeRanks
set_option maxRecDepth 20000 in
theorem ggX5_estimateOf_X5_bucketsOf : GoodIn wsX5_estimateOf wsX5_bucketsOf := goodIn_r _ [15, 7, 8, 9, 4, 10, 11, 36, 37, 38, 39, 40, 41, 42, 43, 44, 45, 46, 47, 48] (by decide +kernel) (by decide +kernel)
set_option maxRecDepth 20000 in
theorem gX5_estimateOf_X5_bucketsOf : GoodIn wsX5_estimateOf (wsV RX5 59 RX5 yX5_bucketsOf wsX5_bucketsOf) := goodIn_app (goodIn_of _ (by decide +kernel)) ggX5_estimateOf_X5_bucketsOf
set_option maxRecDepth 20000 in
theorem ggX5_estimateOf_X5_estimateBy : GoodIn wsX5_estimateOf wsX5_estimateBy := goodIn_r _ [19, 20, 21, 22, 4, 23, 24, 25, 26, 27, 28, 29, 30, 31, 6, 32, 33, 34, 35, 36, 37, 38, 39, 40, 41, 42, 43, 44, 45, 46, 47, 48] (by decide +kernel) (by decide +kernel)
set_option maxRecDepth 20000 in
theorem gX5_estimateOf_X5_estimateBy : GoodIn wsX5_estimateOf (wsV RX5 93 RX5 yX5_estimateBy wsX5_estimateBy) := goodIn_app (goodIn_of _ (by decide +kernel)) ggX5_estimateOf_X5_estimateBy
theorem dX5_estimateOf_0 : decode cX5_estimateOf 0 = .ok (.aload_n 0, 1) := by decide +kernel
theorem dX5_estimateOf_1 : decode cX5_estimateOf 1 = .ok (.iload_n 1, 1) := by decide +kernel
theorem dX5_estimateOf_2 : decode cX5_estimateOf 2 = .ok (.invokevirtual 89, 3) := by decide +kernel
theorem dX5_estimateOf_5 : decode cX5_estimateOf 5 = .ok (.aload_n 0, 1) := by decide +kernel
theorem dX5_estimateOf_6 : decode cX5_estimateOf 6 = .ok (.aload_n 0, 1) := by decide +kernel
theorem dX5_estimateOf_7 : decode cX5_estimateOf 7 = .ok (.iload_n 1, 1) := by decide +kernel
theorem dX5_estimateOf_8 : decode cX5_estimateOf 8 = .ok (.invokevirtual 59, 3) := by decide +kernel
theorem dX5_estimateOf_11 : decode cX5_estimateOf 11 = .ok (.invokevirtual 93, 3) := by decide +kernel
theorem dX5_estimateOf_14 : decode cX5_estimateOf 14 = .ok (.ireturn, 1) := by decide +kernel
set_option maxRecDepth 20000 in
theorem ggX5_errorOf_X5_bucketsOf : GoodIn wsX5_errorOf wsX5_bucketsOf := goodIn_r _ [5, 6, 7, 8, 4, 9, 10, 40, 41, 42, 43, 44, 45, 46, 47, 48, 49, 50, 51, 52] (by decide +kernel) (by decide +kernel)
set_option maxRecDepth 20000 in
theorem gX5_errorOf_X5_bucketsOf : GoodIn wsX5_errorOf (wsV RX5 59 RX5 yX5_bucketsOf wsX5_bucketsOf) := goodIn_app (goodIn_of _ (by decide +kernel)) ggX5_errorOf_X5_bucketsOf
set_option maxRecDepth 20000 in
theorem ggX5_errorOf_X5_estimateOf : GoodIn wsX5_errorOf wsX5_estimateOf := goodIn_r _ [14, 15, 16, 17, 4, 18, 19, 6, 7, 8, 9, 10, 1, 2, 3, 5, 20, 21, 22, 23, 24, 25, 26, 27, 28, 29, 30, 31, 32, 33, 34, 35, 36, 37, 38, 39, 40, 41, 42, 43, 44, 45, 46, 47, 48, 49, 50, 51, 52] (by decide +kernel) (by decide +kernel)
set_option maxRecDepth 20000 in
theorem gX5_errorOf_X5_estimateOf : GoodIn wsX5_errorOf (wsV RX5 96 RX5 yX5_estimateOf wsX5_estimateOf) := goodIn_app (goodIn_of _ (by decide +kernel)) ggX5_errorOf_X5_estimateOf
theorem dX5_errorOf_0 : decode cX5_errorOf 0 = .ok (.iconst 1, 1) := by decide +kernel
theorem dX5_errorOf_1 : decode cX5_errorOf 1 = .ok (.istore_n 2, 1) := by decide +kernel
theorem dX5_errorOf_2 : decode cX5_errorOf 2 = .ok (.iload_n 2, 1) := by decide +kernel
theorem dX5_errorOf_3 : decode cX5_errorOf 3 = .ok (.iconst 1, 1) := by decide +kernel
theorem dX5_errorOf_4 : decode cX5_errorOf 4 = .ok (.iadd, 1) := by decide +kernel
theorem dX5_errorOf_5 : decode cX5_errorOf 5 = .ok (.iload_n 2, 1) := by decide +kernel
theorem dX5_errorOf_6 : decode cX5_errorOf 6 = .ok (.iconst 1, 1) := by decide +kernel
theorem dX5_errorOf_7 : decode cX5_errorOf 7 = .ok (.iadd, 1) := by decide +kernel
theorem dX5_errorOf_8 : decode cX5_errorOf 8 = .ok (.imul, 1) := by decide +kernel
theorem dX5_errorOf_9 : decode cX5_errorOf 9 = .ok (.aload_n 0, 1) := by decide +kernel
theorem dX5_errorOf_10 : decode cX5_errorOf 10 = .ok (.iload_n 1, 1) := by decide +kernel
theorem dX5_errorOf_11 : decode cX5_errorOf 11 = .ok (.invokevirtual 59, 3) := by decide +kernel
theorem dX5_errorOf_14 : decode cX5_errorOf 14 = .ok (.if_icmp .gt 9, 3) := by decide +kernel
theorem dX5_errorOf_17 : decode cX5_errorOf 17 = .ok (.iinc 2 1, 3) := by decide +kernel
theorem dX5_errorOf_20 : decode cX5_errorOf 20 = .ok (.goto (-18), 3) := by decide +kernel
theorem dX5_errorOf_23 : decode cX5_errorOf 23 = .ok (.aload_n 0, 1) := by decide +kernel
theorem dX5_errorOf_24 : decode cX5_errorOf 24 = .ok (.iload_n 1, 1) := by decide +kernel
theorem dX5_errorOf_25 : decode cX5_errorOf 25 = .ok (.invokevirtual 96, 3) := by decide +kernel
theorem dX5_errorOf_28 : decode cX5_errorOf 28 = .ok (.bipush 104, 2) := by decide +kernel
theorem dX5_errorOf_30 : decode cX5_errorOf 30 = .ok (.imul, 1) := by decide +kernel
theorem dX5_errorOf_31 : decode cX5_errorOf 31 = .ok (.bipush 100, 2) := by decide +kernel
theorem dX5_errorOf_33 : decode cX5_errorOf 33 = .ok (.iload_n 2, 1) := by decide +kernel
theorem dX5_errorOf_34 : decode cX5_errorOf 34 = .ok (.imul, 1) := by decide +kernel
theorem dX5_errorOf_35 : decode cX5_errorOf 35 = .ok (.idiv, 1) := by decide +kernel
theorem dX5_errorOf_36 : decode cX5_errorOf 36 = .ok (.ireturn, 1) := by decide +kernel
set_option maxRecDepth 20000 in
theorem ggX5_isFull_X5_part : GoodIn wsX5_isFull wsX5_part := goodIn_r _ [5, 6, 7, 8, 9, 10, 11, 12, 13, 14, 15, 16, 17, 18, 19] (by decide +kernel) (by decide +kernel)
set_option maxRecDepth 20000 in
theorem gX5_isFull_X5_part : GoodIn wsX5_isFull (wsV RX5 48 RX5 yX5_part wsX5_part) := goodIn_app (goodIn_of _ (by decide +kernel)) ggX5_isFull_X5_part
theorem dX5_isFull_0 : decode cX5_isFull 0 = .ok (.aload_n 0, 1) := by decide +kernel
theorem dX5_isFull_1 : decode cX5_isFull 1 = .ok (.iload_n 1, 1) := by decide +kernel
theorem dX5_isFull_2 : decode cX5_isFull 2 = .ok (.iconst 1, 1) := by decide +kernel
theorem dX5_isFull_3 : decode cX5_isFull 3 = .ok (.invokevirtual 48, 3) := by decide +kernel
theorem dX5_isFull_6 : decode cX5_isFull 6 = .ok (.bipush (-6), 2) := by decide +kernel
theorem dX5_isFull_8 : decode cX5_isFull 8 = .ok (.if_icmp .ne 7, 3) := by decide +kernel
theorem dX5_isFull_11 : decode cX5_isFull 11 = .ok (.iconst 1, 1) := by decide +kernel
theorem dX5_isFull_12 : decode cX5_isFull 12 = .ok (.goto 4, 3) := by decide +kernel
theorem dX5_isFull_15 : decode cX5_isFull 15 = .ok (.iconst 0, 1) := by decide +kernel
theorem dX5_isFull_16 : decode cX5_isFull 16 = .ok (.ireturn, 1) := by decide +kernel
set_option maxRecDepth 20000 in
theorem ggX5_isListed_X5_part : GoodIn wsX5_isListed wsX5_part := goodIn_r _ [5, 6, 7, 8, 9, 10, 11, 12, 13, 14, 15, 16, 17, 18, 19] (by decide +kernel) (by decide +kernel)
set_option maxRecDepth 20000 in
theorem gX5_isListed_X5_part : GoodIn wsX5_isListed (wsV RX5 48 RX5 yX5_part wsX5_part) := goodIn_app (goodIn_of _ (by decide +kernel)) ggX5_isListed_X5_part
theorem dX5_isListed_0 : decode cX5_isListed 0 = .ok (.iconst 0, 1) := by decide +kernel
theorem dX5_isListed_1 : decode cX5_isListed 1 = .ok (.istore_n 3, 1) := by decide +kernel
theorem dX5_isListed_2 : decode cX5_isListed 2 = .ok (.iconst 0, 1) := by decide +kernel
theorem dX5_isListed_3 : decode cX5_isListed 3 = .ok (.istore 4, 2) := by decide +kernel
theorem dX5_isListed_5 : decode cX5_isListed 5 = .ok (.iload 4, 2) := by decide +kernel
theorem dX5_isListed_7 : decode cX5_isListed 7 = .ok (.aload_n 0, 1) := by decide +kernel
theorem dX5_isListed_8 : decode cX5_isListed 8 = .ok (.iload_n 1, 1) := by decide +kernel
theorem dX5_isListed_9 : decode cX5_isListed 9 = .ok (.iconst 1, 1) := by decide +kernel
theorem dX5_isListed_10 : decode cX5_isListed 10 = .ok (.invokevirtual 48, 3) := by decide +kernel
theorem dX5_isListed_13 : decode cX5_isListed 13 = .ok (.if_icmp .ge 33, 3) := by decide +kernel
theorem dX5_isListed_16 : decode cX5_isListed 16 = .ok (.iload_n 3, 1) := by decide +kernel
theorem dX5_isListed_17 : decode cX5_isListed 17 = .ok (.ifCond .ne 17, 3) := by decide +kernel
theorem dX5_isListed_20 : decode cX5_isListed 20 = .ok (.aload_n 0, 1) := by decide +kernel
theorem dX5_isListed_21 : decode cX5_isListed 21 = .ok (.iload_n 1, 1) := by decide +kernel
theorem dX5_isListed_22 : decode cX5_isListed 22 = .ok (.bipush 66, 2) := by decide +kernel
theorem dX5_isListed_24 : decode cX5_isListed 24 = .ok (.iload 4, 2) := by decide +kernel
theorem dX5_isListed_26 : decode cX5_isListed 26 = .ok (.iadd, 1) := by decide +kernel
theorem dX5_isListed_27 : decode cX5_isListed 27 = .ok (.invokevirtual 48, 3) := by decide +kernel
theorem dX5_isListed_30 : decode cX5_isListed 30 = .ok (.iload_n 2, 1) := by decide +kernel
theorem dX5_isListed_31 : decode cX5_isListed 31 = .ok (.if_icmp .ne 7, 3) := by decide +kernel
theorem dX5_isListed_34 : decode cX5_isListed 34 = .ok (.iconst 1, 1) := by decide +kernel
theorem dX5_isListed_35 : decode cX5_isListed 35 = .ok (.goto 4, 3) := by decide +kernel
theorem dX5_isListed_38 : decode cX5_isListed 38 = .ok (.iconst 0, 1) := by decide +kernel
theorem dX5_isListed_39 : decode cX5_isListed 39 = .ok (.istore_n 3, 1) := by decide +kernel
theorem dX5_isListed_40 : decode cX5_isListed 40 = .ok (.iinc 4 1, 3) := by decide +kernel
theorem dX5_isListed_43 : decode cX5_isListed 43 = .ok (.goto (-38), 3) := by decide +kernel
theorem dX5_isListed_46 : decode cX5_isListed 46 = .ok (.iload_n 3, 1) := by decide +kernel
theorem dX5_isListed_47 : decode cX5_isListed 47 = .ok (.ireturn, 1) := by decide +kernel
set_option maxRecDepth 20000 in
theorem ggX5_becomesFull_X5_setPart : GoodIn wsX5_becomesFull wsX5_setPart := goodIn_r _ [5, 6, 7, 8, 9, 10, 11, 12, 13, 14, 15, 16, 17, 18, 19] (by decide +kernel) (by decide +kernel)
set_option maxRecDepth 20000 in
theorem gX5_becomesFull_X5_setPart : GoodIn wsX5_becomesFull (wsV RX5 31 RX5 yX5_setPart wsX5_setPart) := goodIn_app (goodIn_of _ (by decide +kernel)) ggX5_becomesFull_X5_setPart
theorem dX5_becomesFull_0 : decode cX5_becomesFull 0 = .ok (.aload_n 0, 1) := by decide +kernel
theorem dX5_becomesFull_1 : decode cX5_becomesFull 1 = .ok (.iload_n 1, 1) := by decide +kernel
theorem dX5_becomesFull_2 : decode cX5_becomesFull 2 = .ok (.iconst 1, 1) := by decide +kernel
theorem dX5_becomesFull_3 : decode cX5_becomesFull 3 = .ok (.bipush (-6), 2) := by decide +kernel
theorem dX5_becomesFull_5 : decode cX5_becomesFull 5 = .ok (.invokevirtual 31, 3) := by decide +kernel
theorem dX5_becomesFull_8 : decode cX5_becomesFull 8 = .ok (.iconst 0, 1) := by decide +kernel
theorem dX5_becomesFull_9 : decode cX5_becomesFull 9 = .ok (.istore_n 2, 1) := by decide +kernel
theorem dX5_becomesFull_10 : decode cX5_becomesFull 10 = .ok (.iload_n 2, 1) := by decide +kernel
theorem dX5_becomesFull_11 : decode cX5_becomesFull 11 = .ok (.bipush 40, 2) := by decide +kernel
theorem dX5_becomesFull_13 : decode cX5_becomesFull 13 = .ok (.if_icmp .ge 19, 3) := by decide +kernel
theorem dX5_becomesFull_16 : decode cX5_becomesFull 16 = .ok (.aload_n 0, 1) := by decide +kernel
theorem dX5_becomesFull_17 : decode cX5_becomesFull 17 = .ok (.iload_n 1, 1) := by decide +kernel
theorem dX5_becomesFull_18 : decode cX5_becomesFull 18 = .ok (.bipush 66, 2) := by decide +kernel
theorem dX5_becomesFull_20 : decode cX5_becomesFull 20 = .ok (.iload_n 2, 1) := by decide +kernel
theorem dX5_becomesFull_21 : decode cX5_becomesFull 21 = .ok (.iadd, 1) := by decide +kernel
theorem dX5_becomesFull_22 : decode cX5_becomesFull 22 = .ok (.iconst 0, 1) := by decide +kernel
theorem dX5_becomesFull_23 : decode cX5_becomesFull 23 = .ok (.invokevirtual 31, 3) := by decide +kernel
theorem dX5_becomesFull_26 : decode cX5_becomesFull 26 = .ok (.iinc 2 1, 3) := by decide +kernel
theorem dX5_becomesFull_29 : decode cX5_becomesFull 29 = .ok (.goto (-19), 3) := by decide +kernel
theorem dX5_becomesFull_32 : decode cX5_becomesFull 32 = .ok (.return_, 1) := by decide +kernel
set_option maxRecDepth 20000 in
theorem ggX5_lists_X5_isFull : GoodIn wsX5_lists wsX5_isFull := goodIn_r _ [5, 6, 7, 8, 4, 9, 10, 23, 24, 25, 26, 27, 28, 29, 30, 31, 32, 33, 34, 35] (by decide +kernel) (by decide +kernel)
set_option maxRecDepth 20000 in
theorem gX5_lists_X5_isFull : GoodIn wsX5_lists (wsV RX5 99 RX5 yX5_isFull wsX5_isFull) := goodIn_app (goodIn_of _ (by decide +kernel)) ggX5_lists_X5_isFull
set_option maxRecDepth 20000 in
theorem ggX5_lists_X5_isListed : GoodIn wsX5_lists wsX5_isListed := goodIn_r _ [14, 6, 7, 8, 4, 9, 10, 23, 24, 25, 26, 27, 28, 29, 30, 31, 32, 33, 34, 35] (by decide +kernel) (by decide +kernel)
set_option maxRecDepth 20000 in
theorem gX5_lists_X5_isListed : GoodIn wsX5_lists (wsV RX5 103 RX5 yX5_isListed wsX5_isListed) := goodIn_app (goodIn_of _ (by decide +kernel)) ggX5_lists_X5_isListed
set_option maxRecDepth 20000 in
theorem ggX5_lists_X5_part : GoodIn wsX5_lists wsX5_part := goodIn_r _ [9, 10, 23, 24, 25, 26, 27, 28, 29, 30, 31, 32, 33, 34, 35] (by decide +kernel) (by decide +kernel)
set_option maxRecDepth 20000 in
theorem gX5_lists_X5_part : GoodIn wsX5_lists (wsV RX5 48 RX5 yX5_part wsX5_part) := goodIn_app (goodIn_of _ (by decide +kernel)) ggX5_lists_X5_part
set_option maxRecDepth 20000 in
theorem ggX5_lists_X5_becomesFull : GoodIn wsX5_lists wsX5_becomesFull := goodIn_r _ [18, 19, 20, 21, 4, 22, 10, 23, 24, 25, 26, 27, 28, 29, 30, 31, 32, 33, 34, 35] (by decide +kernel) (by decide +kernel)
set_option maxRecDepth 20000 in
theorem gX5_lists_X5_becomesFull : GoodIn wsX5_lists (wsV RX5 107 RX5 yX5_becomesFull wsX5_becomesFull) := goodIn_app (goodIn_of _ (by decide +kernel)) ggX5_lists_X5_becomesFull
set_option maxRecDepth 20000 in
theorem ggX5_lists_X5_setPart : GoodIn wsX5_lists wsX5_setPart := goodIn_r _ [22, 10, 23, 24, 25, 26, 27, 28, 29, 30, 31, 32, 33, 34, 35] (by decide +kernel) (by decide +kernel)
set_option maxRecDepth 20000 in
theorem gX5_lists_X5_setPart : GoodIn wsX5_lists (wsV RX5 31 RX5 yX5_setPart wsX5_setPart) := goodIn_app (goodIn_of _ (by decide +kernel)) ggX5_lists_X5_setPart
theorem dX5_lists_0 : decode cX5_lists 0 = .ok (.aload_n 0, 1) := by decide +kernel
theorem dX5_lists_1 : decode cX5_lists 1 = .ok (.iload_n 1, 1) := by decide +kernel
theorem dX5_lists_2 : decode cX5_lists 2 = .ok (.invokevirtual 99, 3) := by decide +kernel
theorem dX5_lists_5 : decode cX5_lists 5 = .ok (.ifCond .ne 12, 3) := by decide +kernel
theorem dX5_lists_8 : decode cX5_lists 8 = .ok (.aload_n 0, 1) := by decide +kernel
theorem dX5_lists_9 : decode cX5_lists 9 = .ok (.iload_n 1, 1) := by decide +kernel
theorem dX5_lists_10 : decode cX5_lists 10 = .ok (.iload_n 2, 1) := by decide +kernel
theorem dX5_lists_11 : decode cX5_lists 11 = .ok (.invokevirtual 103, 3) := by decide +kernel
theorem dX5_lists_14 : decode cX5_lists 14 = .ok (.ifCond .eq 4, 3) := by decide +kernel
theorem dX5_lists_17 : decode cX5_lists 17 = .ok (.return_, 1) := by decide +kernel
theorem dX5_lists_18 : decode cX5_lists 18 = .ok (.aload_n 0, 1) := by decide +kernel
theorem dX5_lists_19 : decode cX5_lists 19 = .ok (.iload_n 1, 1) := by decide +kernel
theorem dX5_lists_20 : decode cX5_lists 20 = .ok (.iconst 1, 1) := by decide +kernel
theorem dX5_lists_21 : decode cX5_lists 21 = .ok (.invokevirtual 48, 3) := by decide +kernel
theorem dX5_lists_24 : decode cX5_lists 24 = .ok (.istore_n 3, 1) := by decide +kernel
theorem dX5_lists_25 : decode cX5_lists 25 = .ok (.iload_n 3, 1) := by decide +kernel
theorem dX5_lists_26 : decode cX5_lists 26 = .ok (.bipush 40, 2) := by decide +kernel
theorem dX5_lists_28 : decode cX5_lists 28 = .ok (.if_icmp .ne 11, 3) := by decide +kernel
theorem dX5_lists_31 : decode cX5_lists 31 = .ok (.aload_n 0, 1) := by decide +kernel
theorem dX5_lists_32 : decode cX5_lists 32 = .ok (.iload_n 1, 1) := by decide +kernel
theorem dX5_lists_33 : decode cX5_lists 33 = .ok (.invokevirtual 107, 3) := by decide +kernel
theorem dX5_lists_36 : decode cX5_lists 36 = .ok (.goto 22, 3) := by decide +kernel
theorem dX5_lists_39 : decode cX5_lists 39 = .ok (.aload_n 0, 1) := by decide +kernel
theorem dX5_lists_40 : decode cX5_lists 40 = .ok (.iload_n 1, 1) := by decide +kernel
theorem dX5_lists_41 : decode cX5_lists 41 = .ok (.bipush 66, 2) := by decide +kernel
theorem dX5_lists_43 : decode cX5_lists 43 = .ok (.iload_n 3, 1) := by decide +kernel
theorem dX5_lists_44 : decode cX5_lists 44 = .ok (.iadd, 1) := by decide +kernel
theorem dX5_lists_45 : decode cX5_lists 45 = .ok (.iload_n 2, 1) := by decide +kernel
theorem dX5_lists_46 : decode cX5_lists 46 = .ok (.invokevirtual 31, 3) := by decide +kernel
theorem dX5_lists_49 : decode cX5_lists 49 = .ok (.aload_n 0, 1) := by decide +kernel
theorem dX5_lists_50 : decode cX5_lists 50 = .ok (.iload_n 1, 1) := by decide +kernel
theorem dX5_lists_51 : decode cX5_lists 51 = .ok (.iconst 1, 1) := by decide +kernel
theorem dX5_lists_52 : decode cX5_lists 52 = .ok (.iload_n 3, 1) := by decide +kernel
theorem dX5_lists_53 : decode cX5_lists 53 = .ok (.iconst 1, 1) := by decide +kernel
theorem dX5_lists_54 : decode cX5_lists 54 = .ok (.iadd, 1) := by decide +kernel
theorem dX5_lists_55 : decode cX5_lists 55 = .ok (.invokevirtual 31, 3) := by decide +kernel
theorem dX5_lists_58 : decode cX5_lists 58 = .ok (.return_, 1) := by decide +kernel
set_option maxRecDepth 20000 in
theorem ggX5_empties_X5_filled : GoodIn wsX5_empties wsX5_filled := goodIn_r _ [5, 6, 7, 8, 4, 9, 10, 11, 12, 13, 14, 19, 20, 21, 22, 23, 24, 25, 26, 27, 28, 29, 30, 31] (by decide +kernel) (by decide +kernel)
set_option maxRecDepth 20000 in
theorem gX5_empties_X5_filled : GoodIn wsX5_empties (wsV RX5 72 RX5 yX5_filled wsX5_filled) := goodIn_app (goodIn_of _ (by decide +kernel)) ggX5_empties_X5_filled
set_option maxRecDepth 20000 in
theorem ggX5_empties_X5_setPart : GoodIn wsX5_empties wsX5_setPart := goodIn_r _ [18, 14, 19, 20, 21, 22, 23, 24, 25, 26, 27, 28, 29, 30, 31] (by decide +kernel) (by decide +kernel)
set_option maxRecDepth 20000 in
theorem gX5_empties_X5_setPart : GoodIn wsX5_empties (wsV RX5 31 RX5 yX5_setPart wsX5_setPart) := goodIn_app (goodIn_of _ (by decide +kernel)) ggX5_empties_X5_setPart
theorem dX5_empties_0 : decode cX5_empties 0 = .ok (.aload_n 0, 1) := by decide +kernel
theorem dX5_empties_1 : decode cX5_empties 1 = .ok (.iload_n 1, 1) := by decide +kernel
theorem dX5_empties_2 : decode cX5_empties 2 = .ok (.invokevirtual 72, 3) := by decide +kernel
theorem dX5_empties_5 : decode cX5_empties 5 = .ok (.istore_n 2, 1) := by decide +kernel
theorem dX5_empties_6 : decode cX5_empties 6 = .ok (.iconst 1, 1) := by decide +kernel
theorem dX5_empties_7 : decode cX5_empties 7 = .ok (.istore_n 3, 1) := by decide +kernel
theorem dX5_empties_8 : decode cX5_empties 8 = .ok (.iload_n 3, 1) := by decide +kernel
theorem dX5_empties_9 : decode cX5_empties 9 = .ok (.bipush 106, 2) := by decide +kernel
theorem dX5_empties_11 : decode cX5_empties 11 = .ok (.if_icmp .ge 16, 3) := by decide +kernel
theorem dX5_empties_14 : decode cX5_empties 14 = .ok (.aload_n 0, 1) := by decide +kernel
theorem dX5_empties_15 : decode cX5_empties 15 = .ok (.iload_n 1, 1) := by decide +kernel
theorem dX5_empties_16 : decode cX5_empties 16 = .ok (.iload_n 3, 1) := by decide +kernel
theorem dX5_empties_17 : decode cX5_empties 17 = .ok (.iconst 0, 1) := by decide +kernel
theorem dX5_empties_18 : decode cX5_empties 18 = .ok (.invokevirtual 31, 3) := by decide +kernel
theorem dX5_empties_21 : decode cX5_empties 21 = .ok (.iinc 3 1, 3) := by decide +kernel
theorem dX5_empties_24 : decode cX5_empties 24 = .ok (.goto (-16), 3) := by decide +kernel
theorem dX5_empties_27 : decode cX5_empties 27 = .ok (.iload_n 2, 1) := by decide +kernel
theorem dX5_empties_28 : decode cX5_empties 28 = .ok (.ireturn, 1) := by decide +kernel
set_option maxRecDepth 20000 in
theorem ggX5_adds_X5_wouldChange : GoodIn wsX5_adds wsX5_wouldChange := goodIn_r _ [5, 6, 7, 8, 4, 9, 10, 11, 12, 13, 14, 15, 16, 17, 18, 19, 20, 21, 22, 23, 24, 25, 26, 27, 28, 29, 30, 51, 52, 53, 54, 55, 56, 57, 58, 59, 60, 61, 62, 63] (by decide +kernel) (by decide +kernel)
set_option maxRecDepth 20000 in
theorem gX5_adds_X5_wouldChange : GoodIn wsX5_adds (wsV RX5 110 RX5 yX5_wouldChange wsX5_wouldChange) := goodIn_app (goodIn_of _ (by decide +kernel)) ggX5_adds_X5_wouldChange
set_option maxRecDepth 20000 in
theorem ggX5_adds_X5_bucketOf : GoodIn wsX5_adds wsX5_bucketOf := goodIn_r _ [26, 10, 11, 12, 4, 13, 14, 15, 27, 28, 29, 30, 16, 17, 18, 19, 51, 52, 53, 54, 55, 56, 57, 58, 59, 60, 61, 62, 63] (by decide +kernel) (by decide +kernel)
set_option maxRecDepth 20000 in
theorem gX5_adds_X5_bucketOf : GoodIn wsX5_adds (wsV RX5 69 RX5 yX5_bucketOf wsX5_bucketOf) := goodIn_app (goodIn_of _ (by decide +kernel)) ggX5_adds_X5_bucketOf
set_option maxRecDepth 20000 in
theorem ggX5_adds_X5_rankIn : GoodIn wsX5_adds wsX5_rankIn := goodIn_r _ [9, 10, 11, 12, 4, 13, 14, 15, 16, 17, 18, 19, 20, 21, 22, 51, 52, 53, 54, 55, 56, 57, 58, 59, 60, 61, 62, 63] (by decide +kernel) (by decide +kernel)
set_option maxRecDepth 20000 in
theorem gX5_adds_X5_rankIn : GoodIn wsX5_adds (wsV RX5 66 RX5 yX5_rankIn wsX5_rankIn) := goodIn_app (goodIn_of _ (by decide +kernel)) ggX5_adds_X5_rankIn
set_option maxRecDepth 20000 in
theorem ggX5_adds_X5_setPart : GoodIn wsX5_adds wsX5_setPart := goodIn_r _ [34, 10, 51, 52, 53, 54, 55, 56, 57, 58, 59, 60, 61, 62, 63] (by decide +kernel) (by decide +kernel)
set_option maxRecDepth 20000 in
theorem gX5_adds_X5_setPart : GoodIn wsX5_adds (wsV RX5 31 RX5 yX5_setPart wsX5_setPart) := goodIn_app (goodIn_of _ (by decide +kernel)) ggX5_adds_X5_setPart
set_option maxRecDepth 20000 in
theorem ggX5_adds_X5_lists : GoodIn wsX5_adds wsX5_lists := goodIn_r _ [38, 39, 40, 41, 4, 42, 16, 17, 18, 19, 10, 43, 44, 45, 46, 47, 48, 49, 50, 31, 32, 33, 34, 51, 52, 53, 54, 55, 56, 57, 58, 59, 60, 61, 62, 63] (by decide +kernel) (by decide +kernel)
set_option maxRecDepth 20000 in
theorem gX5_adds_X5_lists : GoodIn wsX5_adds (wsV RX5 113 RX5 yX5_lists wsX5_lists) := goodIn_app (goodIn_of _ (by decide +kernel)) ggX5_adds_X5_lists
theorem dX5_adds_0 : decode cX5_adds 0 = .ok (.aload_n 0, 1) := by decide +kernel
theorem dX5_adds_1 : decode cX5_adds 1 = .ok (.iload_n 1, 1) := by decide +kernel
theorem dX5_adds_2 : decode cX5_adds 2 = .ok (.iload_n 2, 1) := by decide +kernel
theorem dX5_adds_3 : decode cX5_adds 3 = .ok (.invokevirtual 110, 3) := by decide +kernel
theorem dX5_adds_6 : decode cX5_adds 6 = .ok (.istore_n 3, 1) := by decide +kernel
theorem dX5_adds_7 : decode cX5_adds 7 = .ok (.iload_n 3, 1) := by decide +kernel
theorem dX5_adds_8 : decode cX5_adds 8 = .ok (.ifCond .eq 22, 3) := by decide +kernel
theorem dX5_adds_11 : decode cX5_adds 11 = .ok (.aload_n 0, 1) := by decide +kernel
theorem dX5_adds_12 : decode cX5_adds 12 = .ok (.iload_n 1, 1) := by decide +kernel
theorem dX5_adds_13 : decode cX5_adds 13 = .ok (.iconst 2, 1) := by decide +kernel
theorem dX5_adds_14 : decode cX5_adds 14 = .ok (.aload_n 0, 1) := by decide +kernel
theorem dX5_adds_15 : decode cX5_adds 15 = .ok (.iload_n 1, 1) := by decide +kernel
theorem dX5_adds_16 : decode cX5_adds 16 = .ok (.iload_n 2, 1) := by decide +kernel
theorem dX5_adds_17 : decode cX5_adds 17 = .ok (.invokevirtual 69, 3) := by decide +kernel
theorem dX5_adds_20 : decode cX5_adds 20 = .ok (.iadd, 1) := by decide +kernel
theorem dX5_adds_21 : decode cX5_adds 21 = .ok (.aload_n 0, 1) := by decide +kernel
theorem dX5_adds_22 : decode cX5_adds 22 = .ok (.iload_n 1, 1) := by decide +kernel
theorem dX5_adds_23 : decode cX5_adds 23 = .ok (.iload_n 2, 1) := by decide +kernel
theorem dX5_adds_24 : decode cX5_adds 24 = .ok (.invokevirtual 66, 3) := by decide +kernel
theorem dX5_adds_27 : decode cX5_adds 27 = .ok (.invokevirtual 31, 3) := by decide +kernel
theorem dX5_adds_30 : decode cX5_adds 30 = .ok (.aload_n 0, 1) := by decide +kernel
theorem dX5_adds_31 : decode cX5_adds 31 = .ok (.iload_n 1, 1) := by decide +kernel
theorem dX5_adds_32 : decode cX5_adds 32 = .ok (.iload_n 2, 1) := by decide +kernel
theorem dX5_adds_33 : decode cX5_adds 33 = .ok (.invokevirtual 113, 3) := by decide +kernel
theorem dX5_adds_36 : decode cX5_adds 36 = .ok (.iload_n 3, 1) := by decide +kernel
theorem dX5_adds_37 : decode cX5_adds 37 = .ok (.ifCond .eq 7, 3) := by decide +kernel
theorem dX5_adds_40 : decode cX5_adds 40 = .ok (.iconst 1, 1) := by decide +kernel
theorem dX5_adds_41 : decode cX5_adds 41 = .ok (.goto 4, 3) := by decide +kernel
theorem dX5_adds_44 : decode cX5_adds 44 = .ok (.iconst 0, 1) := by decide +kernel
theorem dX5_adds_45 : decode cX5_adds 45 = .ok (.ireturn, 1) := by decide +kernel
set_option maxRecDepth 20000 in
theorem ggX5_salt_X5_within : GoodIn wsX5_salt wsX5_within := goodIn_r _ [6] (by decide +kernel) (by decide +kernel)
set_option maxRecDepth 20000 in
theorem gX5_salt_X5_within : GoodIn wsX5_salt (va_wsS RX5 43 yX5_within wsX5_within) := goodIn_app (goodIn_of _ (by decide +kernel)) ggX5_salt_X5_within
set_option maxRecDepth 20000 in
theorem ggX5_salt_X5_record : GoodIn wsX5_salt wsX5_record := goodIn_r _ [10, 11, 12, 2, 13, 14, 5, 15, 36, 37, 38, 39, 40, 41, 42, 43, 44, 45, 46, 47, 48] (by decide +kernel) (by decide +kernel)
set_option maxRecDepth 20000 in
theorem gX5_salt_X5_record : GoodIn wsX5_salt (wsV RX5 118 RX5 yX5_record wsX5_record) := goodIn_app (goodIn_of _ (by decide +kernel)) ggX5_salt_X5_record
set_option maxRecDepth 20000 in
theorem ggX5_salt_X5_empties : GoodIn wsX5_salt wsX5_empties := goodIn_r _ [19, 20, 21, 22, 5, 23, 24, 25, 26, 27, 28, 29, 30, 31, 2, 32, 33, 34, 35, 36, 37, 38, 39, 40, 41, 42, 43, 44, 45, 46, 47, 48] (by decide +kernel) (by decide +kernel)
set_option maxRecDepth 20000 in
theorem gX5_salt_X5_empties : GoodIn wsX5_salt (wsV RX5 121 RX5 yX5_empties wsX5_empties) := goodIn_app (goodIn_of _ (by decide +kernel)) ggX5_salt_X5_empties
theorem dX5_salt_0 : decode cX5_salt 0 = .ok (.iload_n 1, 1) := by decide +kernel
theorem dX5_salt_1 : decode cX5_salt 1 = .ok (.iconst 0, 1) := by decide +kernel
theorem dX5_salt_2 : decode cX5_salt 2 = .ok (.ldc 117, 2) := by decide +kernel
theorem dX5_salt_4 : decode cX5_salt 4 = .ok (.invokestatic 43, 3) := by decide +kernel
theorem dX5_salt_7 : decode cX5_salt 7 = .ok (.ifCond .ne 6, 3) := by decide +kernel
theorem dX5_salt_10 : decode cX5_salt 10 = .ok (.bipush (-2), 2) := by decide +kernel
theorem dX5_salt_12 : decode cX5_salt 12 = .ok (.ireturn, 1) := by decide +kernel
theorem dX5_salt_13 : decode cX5_salt 13 = .ok (.aload_n 0, 1) := by decide +kernel
theorem dX5_salt_14 : decode cX5_salt 14 = .ok (.invokevirtual 118, 3) := by decide +kernel
theorem dX5_salt_17 : decode cX5_salt 17 = .ok (.aload_n 0, 1) := by decide +kernel
theorem dX5_salt_18 : decode cX5_salt 18 = .ok (.getfield 7, 3) := by decide +kernel
theorem dX5_salt_21 : decode cX5_salt 21 = .ok (.iconst 0, 1) := by decide +kernel
theorem dX5_salt_22 : decode cX5_salt 22 = .ok (.iaload, 1) := by decide +kernel
theorem dX5_salt_23 : decode cX5_salt 23 = .ok (.istore_n 2, 1) := by decide +kernel
theorem dX5_salt_24 : decode cX5_salt 24 = .ok (.aload_n 0, 1) := by decide +kernel
theorem dX5_salt_25 : decode cX5_salt 25 = .ok (.getfield 7, 3) := by decide +kernel
theorem dX5_salt_28 : decode cX5_salt 28 = .ok (.iconst 0, 1) := by decide +kernel
theorem dX5_salt_29 : decode cX5_salt 29 = .ok (.iload_n 1, 1) := by decide +kernel
theorem dX5_salt_30 : decode cX5_salt 30 = .ok (.iastore, 1) := by decide +kernel
theorem dX5_salt_31 : decode cX5_salt 31 = .ok (.iconst 0, 1) := by decide +kernel
theorem dX5_salt_32 : decode cX5_salt 32 = .ok (.istore_n 3, 1) := by decide +kernel
theorem dX5_salt_33 : decode cX5_salt 33 = .ok (.iload_n 3, 1) := by decide +kernel
theorem dX5_salt_34 : decode cX5_salt 34 = .ok (.bipush 6, 2) := by decide +kernel
theorem dX5_salt_36 : decode cX5_salt 36 = .ok (.if_icmp .ge 15, 3) := by decide +kernel
theorem dX5_salt_39 : decode cX5_salt 39 = .ok (.aload_n 0, 1) := by decide +kernel
theorem dX5_salt_40 : decode cX5_salt 40 = .ok (.iload_n 3, 1) := by decide +kernel
theorem dX5_salt_41 : decode cX5_salt 41 = .ok (.invokevirtual 121, 3) := by decide +kernel
theorem dX5_salt_44 : decode cX5_salt 44 = .ok (.pop, 1) := by decide +kernel
theorem dX5_salt_45 : decode cX5_salt 45 = .ok (.iinc 3 1, 3) := by decide +kernel
theorem dX5_salt_48 : decode cX5_salt 48 = .ok (.goto (-15), 3) := by decide +kernel
theorem dX5_salt_51 : decode cX5_salt 51 = .ok (.iload_n 2, 1) := by decide +kernel
theorem dX5_salt_52 : decode cX5_salt 52 = .ok (.ireturn, 1) := by decide +kernel
set_option maxRecDepth 20000 in
theorem ggX5_bits_X5_isSketch : GoodIn wsX5_bits wsX5_isSketch := goodIn_r _ [4, 5, 6, 3, 7] (by decide +kernel) (by decide +kernel)
set_option maxRecDepth 20000 in
theorem gX5_bits_X5_isSketch : GoodIn wsX5_bits (va_wsS RX5 124 yX5_isSketch wsX5_isSketch) := goodIn_app (goodIn_of _ (by decide +kernel)) ggX5_bits_X5_isSketch
set_option maxRecDepth 20000 in
theorem ggX5_bits_X5_within : GoodIn wsX5_bits wsX5_within := goodIn_r _ [7] (by decide +kernel) (by decide +kernel)
set_option maxRecDepth 20000 in
theorem gX5_bits_X5_within : GoodIn wsX5_bits (va_wsS RX5 43 yX5_within wsX5_within) := goodIn_app (goodIn_of _ (by decide +kernel)) ggX5_bits_X5_within
set_option maxRecDepth 20000 in
theorem ggX5_bits_X5_record : GoodIn wsX5_bits wsX5_record := goodIn_r _ [11, 12, 13, 14, 15, 16, 3, 17, 38, 39, 40, 41, 42, 43, 44, 45, 46, 47, 48, 49, 50] (by decide +kernel) (by decide +kernel)
set_option maxRecDepth 20000 in
theorem gX5_bits_X5_record : GoodIn wsX5_bits (wsV RX5 118 RX5 yX5_record wsX5_record) := goodIn_app (goodIn_of _ (by decide +kernel)) ggX5_bits_X5_record
set_option maxRecDepth 20000 in
theorem ggX5_bits_X5_part : GoodIn wsX5_bits wsX5_part := goodIn_r _ [21, 14, 38, 39, 40, 41, 42, 43, 44, 45, 46, 47, 48, 49, 50] (by decide +kernel) (by decide +kernel)
set_option maxRecDepth 20000 in
theorem gX5_bits_X5_part : GoodIn wsX5_bits (wsV RX5 48 RX5 yX5_part wsX5_part) := goodIn_app (goodIn_of _ (by decide +kernel)) ggX5_bits_X5_part
set_option maxRecDepth 20000 in
theorem ggX5_bits_X5_empties : GoodIn wsX5_bits wsX5_empties := goodIn_r _ [25, 26, 27, 28, 3, 29, 30, 31, 32, 33, 18, 19, 20, 21, 14, 34, 35, 36, 37, 38, 39, 40, 41, 42, 43, 44, 45, 46, 47, 48, 49, 50] (by decide +kernel) (by decide +kernel)
set_option maxRecDepth 20000 in
theorem gX5_bits_X5_empties : GoodIn wsX5_bits (wsV RX5 121 RX5 yX5_empties wsX5_empties) := goodIn_app (goodIn_of _ (by decide +kernel)) ggX5_bits_X5_empties
set_option maxRecDepth 20000 in
theorem ggX5_bits_X5_setPart : GoodIn wsX5_bits wsX5_setPart := goodIn_r _ [37, 14, 38, 39, 40, 41, 42, 43, 44, 45, 46, 47, 48, 49, 50] (by decide +kernel) (by decide +kernel)
set_option maxRecDepth 20000 in
theorem gX5_bits_X5_setPart : GoodIn wsX5_bits (wsV RX5 31 RX5 yX5_setPart wsX5_setPart) := goodIn_app (goodIn_of _ (by decide +kernel)) ggX5_bits_X5_setPart
theorem dX5_bits_0 : decode cX5_bits 0 = .ok (.iload_n 1, 1) := by decide +kernel
theorem dX5_bits_1 : decode cX5_bits 1 = .ok (.invokestatic 124, 3) := by decide +kernel
theorem dX5_bits_4 : decode cX5_bits 4 = .ok (.ifCond .ne 5, 3) := by decide +kernel
theorem dX5_bits_7 : decode cX5_bits 7 = .ok (.iconst (-1), 1) := by decide +kernel
theorem dX5_bits_8 : decode cX5_bits 8 = .ok (.ireturn, 1) := by decide +kernel
theorem dX5_bits_9 : decode cX5_bits 9 = .ok (.iload_n 2, 1) := by decide +kernel
theorem dX5_bits_10 : decode cX5_bits 10 = .ok (.iconst 2, 1) := by decide +kernel
theorem dX5_bits_11 : decode cX5_bits 11 = .ok (.bipush 6, 2) := by decide +kernel
theorem dX5_bits_13 : decode cX5_bits 13 = .ok (.invokestatic 43, 3) := by decide +kernel
theorem dX5_bits_16 : decode cX5_bits 16 = .ok (.ifCond .ne 6, 3) := by decide +kernel
theorem dX5_bits_19 : decode cX5_bits 19 = .ok (.bipush (-2), 2) := by decide +kernel
theorem dX5_bits_21 : decode cX5_bits 21 = .ok (.ireturn, 1) := by decide +kernel
theorem dX5_bits_22 : decode cX5_bits 22 = .ok (.aload_n 0, 1) := by decide +kernel
theorem dX5_bits_23 : decode cX5_bits 23 = .ok (.invokevirtual 118, 3) := by decide +kernel
theorem dX5_bits_26 : decode cX5_bits 26 = .ok (.aload_n 0, 1) := by decide +kernel
theorem dX5_bits_27 : decode cX5_bits 27 = .ok (.iload_n 1, 1) := by decide +kernel
theorem dX5_bits_28 : decode cX5_bits 28 = .ok (.iconst 0, 1) := by decide +kernel
theorem dX5_bits_29 : decode cX5_bits 29 = .ok (.invokevirtual 48, 3) := by decide +kernel
theorem dX5_bits_32 : decode cX5_bits 32 = .ok (.istore_n 3, 1) := by decide +kernel
theorem dX5_bits_33 : decode cX5_bits 33 = .ok (.aload_n 0, 1) := by decide +kernel
theorem dX5_bits_34 : decode cX5_bits 34 = .ok (.iload_n 1, 1) := by decide +kernel
theorem dX5_bits_35 : decode cX5_bits 35 = .ok (.invokevirtual 121, 3) := by decide +kernel
theorem dX5_bits_38 : decode cX5_bits 38 = .ok (.pop, 1) := by decide +kernel
theorem dX5_bits_39 : decode cX5_bits 39 = .ok (.aload_n 0, 1) := by decide +kernel
theorem dX5_bits_40 : decode cX5_bits 40 = .ok (.iload_n 1, 1) := by decide +kernel
theorem dX5_bits_41 : decode cX5_bits 41 = .ok (.iconst 0, 1) := by decide +kernel
theorem dX5_bits_42 : decode cX5_bits 42 = .ok (.iload_n 2, 1) := by decide +kernel
theorem dX5_bits_43 : decode cX5_bits 43 = .ok (.invokevirtual 31, 3) := by decide +kernel
theorem dX5_bits_46 : decode cX5_bits 46 = .ok (.iload_n 3, 1) := by decide +kernel
theorem dX5_bits_47 : decode cX5_bits 47 = .ok (.ireturn, 1) := by decide +kernel
set_option maxRecDepth 20000 in
theorem ggX5_add_X5_isSketch : GoodIn wsX5_add wsX5_isSketch := goodIn_r _ [4, 5, 6, 3, 7] (by decide +kernel) (by decide +kernel)
set_option maxRecDepth 20000 in
theorem gX5_add_X5_isSketch : GoodIn wsX5_add (va_wsS RX5 124 yX5_isSketch wsX5_isSketch) := goodIn_app (goodIn_of _ (by decide +kernel)) ggX5_add_X5_isSketch
set_option maxRecDepth 20000 in
theorem ggX5_add_X5_isThing : GoodIn wsX5_add wsX5_isThing := goodIn_r _ [10, 11, 5, 6, 3, 7] (by decide +kernel) (by decide +kernel)
set_option maxRecDepth 20000 in
theorem gX5_add_X5_isThing : GoodIn wsX5_add (va_wsS RX5 127 yX5_isThing wsX5_isThing) := goodIn_app (goodIn_of _ (by decide +kernel)) ggX5_add_X5_isThing
set_option maxRecDepth 20000 in
theorem ggX5_add_X5_record : GoodIn wsX5_add wsX5_record := goodIn_r _ [15, 16, 17, 18, 19, 20, 3, 21, 74, 75, 76, 77, 78, 79, 80, 81, 82, 83, 84, 85, 86] (by decide +kernel) (by decide +kernel)
set_option maxRecDepth 20000 in
theorem gX5_add_X5_record : GoodIn wsX5_add (wsV RX5 118 RX5 yX5_record wsX5_record) := goodIn_app (goodIn_of _ (by decide +kernel)) ggX5_add_X5_record
set_option maxRecDepth 20000 in
theorem ggX5_add_X5_adds : GoodIn wsX5_add wsX5_adds := goodIn_r _ [25, 26, 27, 28, 3, 29, 30, 31, 32, 33, 18, 34, 35, 36, 37, 38, 39, 40, 41, 42, 43, 44, 45, 46, 47, 48, 49, 50, 51, 52, 53, 54, 55, 56, 57, 58, 59, 60, 61, 62, 63, 64, 65, 66, 67, 68, 69, 70, 71, 72, 73, 74, 75, 76, 77, 78, 79, 80, 81, 82, 83, 84, 85, 86] (by decide +kernel) (by decide +kernel)
set_option maxRecDepth 20000 in
theorem gX5_add_X5_adds : GoodIn wsX5_add (wsV RX5 130 RX5 yX5_adds wsX5_adds) := goodIn_app (goodIn_of _ (by decide +kernel)) ggX5_add_X5_adds
theorem dX5_add_0 : decode cX5_add 0 = .ok (.iload_n 1, 1) := by decide +kernel
theorem dX5_add_1 : decode cX5_add 1 = .ok (.invokestatic 124, 3) := by decide +kernel
theorem dX5_add_4 : decode cX5_add 4 = .ok (.ifCond .ne 5, 3) := by decide +kernel
theorem dX5_add_7 : decode cX5_add 7 = .ok (.iconst (-1), 1) := by decide +kernel
theorem dX5_add_8 : decode cX5_add 8 = .ok (.ireturn, 1) := by decide +kernel
theorem dX5_add_9 : decode cX5_add 9 = .ok (.iload_n 2, 1) := by decide +kernel
theorem dX5_add_10 : decode cX5_add 10 = .ok (.invokestatic 127, 3) := by decide +kernel
theorem dX5_add_13 : decode cX5_add 13 = .ok (.ifCond .ne 6, 3) := by decide +kernel
theorem dX5_add_16 : decode cX5_add 16 = .ok (.bipush (-2), 2) := by decide +kernel
theorem dX5_add_18 : decode cX5_add 18 = .ok (.ireturn, 1) := by decide +kernel
theorem dX5_add_19 : decode cX5_add 19 = .ok (.aload_n 0, 1) := by decide +kernel
theorem dX5_add_20 : decode cX5_add 20 = .ok (.invokevirtual 118, 3) := by decide +kernel
theorem dX5_add_23 : decode cX5_add 23 = .ok (.aload_n 0, 1) := by decide +kernel
theorem dX5_add_24 : decode cX5_add 24 = .ok (.iload_n 1, 1) := by decide +kernel
theorem dX5_add_25 : decode cX5_add 25 = .ok (.iload_n 2, 1) := by decide +kernel
theorem dX5_add_26 : decode cX5_add 26 = .ok (.invokevirtual 130, 3) := by decide +kernel
theorem dX5_add_29 : decode cX5_add 29 = .ok (.ireturn, 1) := by decide +kernel
set_option maxRecDepth 20000 in
theorem ggX5_isRange_X5_isThing : GoodIn wsX5_isRange wsX5_isThing := goodIn_r _ [5, 6, 7, 8, 4, 9] (by decide +kernel) (by decide +kernel)
set_option maxRecDepth 20000 in
theorem gX5_isRange_X5_isThing : GoodIn wsX5_isRange (va_wsS RX5 127 yX5_isThing wsX5_isThing) := goodIn_app (goodIn_of _ (by decide +kernel)) ggX5_isRange_X5_isThing
set_option maxRecDepth 20000 in
theorem ggX5_isRange_X5_within : GoodIn wsX5_isRange wsX5_within := goodIn_r _ [9] (by decide +kernel) (by decide +kernel)
set_option maxRecDepth 20000 in
theorem gX5_isRange_X5_within : GoodIn wsX5_isRange (va_wsS RX5 43 yX5_within wsX5_within) := goodIn_app (goodIn_of _ (by decide +kernel)) ggX5_isRange_X5_within
theorem dX5_isRange_0 : decode cX5_isRange 0 = .ok (.iload_n 0, 1) := by decide +kernel
theorem dX5_isRange_1 : decode cX5_isRange 1 = .ok (.invokestatic 127, 3) := by decide +kernel
theorem dX5_isRange_4 : decode cX5_isRange 4 = .ok (.ifCond .eq 26, 3) := by decide +kernel
theorem dX5_isRange_7 : decode cX5_isRange 7 = .ok (.iload_n 1, 1) := by decide +kernel
theorem dX5_isRange_8 : decode cX5_isRange 8 = .ok (.iconst 1, 1) := by decide +kernel
theorem dX5_isRange_9 : decode cX5_isRange 9 = .ok (.sipush 999, 3) := by decide +kernel
theorem dX5_isRange_12 : decode cX5_isRange 12 = .ok (.invokestatic 43, 3) := by decide +kernel
theorem dX5_isRange_15 : decode cX5_isRange 15 = .ok (.ifCond .eq 15, 3) := by decide +kernel
theorem dX5_isRange_18 : decode cX5_isRange 18 = .ok (.iload_n 1, 1) := by decide +kernel
theorem dX5_isRange_19 : decode cX5_isRange 19 = .ok (.ldc 133, 2) := by decide +kernel
theorem dX5_isRange_21 : decode cX5_isRange 21 = .ok (.iload_n 0, 1) := by decide +kernel
theorem dX5_isRange_22 : decode cX5_isRange 22 = .ok (.isub, 1) := by decide +kernel
theorem dX5_isRange_23 : decode cX5_isRange 23 = .ok (.if_icmp .gt 7, 3) := by decide +kernel
theorem dX5_isRange_26 : decode cX5_isRange 26 = .ok (.iconst 1, 1) := by decide +kernel
theorem dX5_isRange_27 : decode cX5_isRange 27 = .ok (.goto 4, 3) := by decide +kernel
theorem dX5_isRange_30 : decode cX5_isRange 30 = .ok (.iconst 0, 1) := by decide +kernel
theorem dX5_isRange_31 : decode cX5_isRange 31 = .ok (.ireturn, 1) := by decide +kernel
set_option maxRecDepth 20000 in
theorem ggX5_addsRange_X5_adds : GoodIn wsX5_addsRange wsX5_adds := goodIn_r _ [5, 6, 7, 8, 4, 9, 10, 11, 12, 13, 14, 15, 16, 17, 18, 19, 20, 21, 22, 23, 24, 25, 26, 27, 28, 29, 30, 31, 32, 33, 34, 35, 36, 37, 38, 39, 40, 41, 42, 43, 44, 45, 46, 47, 48, 49, 50, 51, 52, 53, 54, 55, 56, 57, 58, 59, 60, 61, 62, 63, 64, 65, 66, 67] (by decide +kernel) (by decide +kernel)
set_option maxRecDepth 20000 in
theorem gX5_addsRange_X5_adds : GoodIn wsX5_addsRange (wsV RX5 130 RX5 yX5_adds wsX5_adds) := goodIn_app (goodIn_of _ (by decide +kernel)) ggX5_addsRange_X5_adds
theorem dX5_addsRange_0 : decode cX5_addsRange 0 = .ok (.iconst 0, 1) := by decide +kernel
theorem dX5_addsRange_1 : decode cX5_addsRange 1 = .ok (.istore 4, 2) := by decide +kernel
theorem dX5_addsRange_3 : decode cX5_addsRange 3 = .ok (.iconst 0, 1) := by decide +kernel
theorem dX5_addsRange_4 : decode cX5_addsRange 4 = .ok (.istore 5, 2) := by decide +kernel
theorem dX5_addsRange_6 : decode cX5_addsRange 6 = .ok (.iload 5, 2) := by decide +kernel
theorem dX5_addsRange_8 : decode cX5_addsRange 8 = .ok (.iload_n 3, 1) := by decide +kernel
theorem dX5_addsRange_9 : decode cX5_addsRange 9 = .ok (.if_icmp .ge 23, 3) := by decide +kernel
theorem dX5_addsRange_12 : decode cX5_addsRange 12 = .ok (.iload 4, 2) := by decide +kernel
theorem dX5_addsRange_14 : decode cX5_addsRange 14 = .ok (.aload_n 0, 1) := by decide +kernel
theorem dX5_addsRange_15 : decode cX5_addsRange 15 = .ok (.iload_n 1, 1) := by decide +kernel
theorem dX5_addsRange_16 : decode cX5_addsRange 16 = .ok (.iload_n 2, 1) := by decide +kernel
theorem dX5_addsRange_17 : decode cX5_addsRange 17 = .ok (.iload 5, 2) := by decide +kernel
theorem dX5_addsRange_19 : decode cX5_addsRange 19 = .ok (.iadd, 1) := by decide +kernel
theorem dX5_addsRange_20 : decode cX5_addsRange 20 = .ok (.invokevirtual 130, 3) := by decide +kernel
theorem dX5_addsRange_23 : decode cX5_addsRange 23 = .ok (.iadd, 1) := by decide +kernel
theorem dX5_addsRange_24 : decode cX5_addsRange 24 = .ok (.istore 4, 2) := by decide +kernel
theorem dX5_addsRange_26 : decode cX5_addsRange 26 = .ok (.iinc 5 1, 3) := by decide +kernel
theorem dX5_addsRange_29 : decode cX5_addsRange 29 = .ok (.goto (-23), 3) := by decide +kernel
theorem dX5_addsRange_32 : decode cX5_addsRange 32 = .ok (.iload 4, 2) := by decide +kernel
theorem dX5_addsRange_34 : decode cX5_addsRange 34 = .ok (.ireturn, 1) := by decide +kernel
set_option maxRecDepth 20000 in
theorem ggX5_addRange_X5_isSketch : GoodIn wsX5_addRange wsX5_isSketch := goodIn_r _ [4, 5, 6, 3, 7] (by decide +kernel) (by decide +kernel)
set_option maxRecDepth 20000 in
theorem gX5_addRange_X5_isSketch : GoodIn wsX5_addRange (va_wsS RX5 124 yX5_isSketch wsX5_isSketch) := goodIn_app (goodIn_of _ (by decide +kernel)) ggX5_addRange_X5_isSketch
set_option maxRecDepth 20000 in
theorem ggX5_addRange_X5_isRange : GoodIn wsX5_addRange wsX5_isRange := goodIn_r _ [10, 11, 12, 13, 3, 14, 15, 5, 6, 7] (by decide +kernel) (by decide +kernel)
set_option maxRecDepth 20000 in
theorem gX5_addRange_X5_isRange : GoodIn wsX5_addRange (va_wsS RX5 134 yX5_isRange wsX5_isRange) := goodIn_app (goodIn_of _ (by decide +kernel)) ggX5_addRange_X5_isRange
set_option maxRecDepth 20000 in
theorem ggX5_addRange_X5_record : GoodIn wsX5_addRange wsX5_record := goodIn_r _ [19, 20, 21, 22, 23, 24, 3, 25, 82, 83, 84, 85, 86, 87, 88, 89, 90, 91, 92, 93, 94] (by decide +kernel) (by decide +kernel)
set_option maxRecDepth 20000 in
theorem gX5_addRange_X5_record : GoodIn wsX5_addRange (wsV RX5 118 RX5 yX5_record wsX5_record) := goodIn_app (goodIn_of _ (by decide +kernel)) ggX5_addRange_X5_record
set_option maxRecDepth 20000 in
theorem ggX5_addRange_X5_addsRange : GoodIn wsX5_addRange wsX5_addsRange := goodIn_r _ [29, 30, 31, 32, 3, 33, 34, 35, 36, 37, 38, 39, 40, 41, 22, 42, 43, 44, 45, 46, 47, 48, 49, 50, 51, 52, 53, 54, 55, 56, 57, 58, 59, 60, 61, 62, 63, 64, 65, 66, 67, 68, 69, 70, 71, 72, 73, 74, 75, 76, 77, 78, 79, 80, 81, 82, 83, 84, 85, 86, 87, 88, 89, 90, 91, 92, 93, 94] (by decide +kernel) (by decide +kernel)
set_option maxRecDepth 20000 in
theorem gX5_addRange_X5_addsRange : GoodIn wsX5_addRange (wsV RX5 137 RX5 yX5_addsRange wsX5_addsRange) := goodIn_app (goodIn_of _ (by decide +kernel)) ggX5_addRange_X5_addsRange
theorem dX5_addRange_0 : decode cX5_addRange 0 = .ok (.iload_n 1, 1) := by decide +kernel
theorem dX5_addRange_1 : decode cX5_addRange 1 = .ok (.invokestatic 124, 3) := by decide +kernel
theorem dX5_addRange_4 : decode cX5_addRange 4 = .ok (.ifCond .ne 5, 3) := by decide +kernel
theorem dX5_addRange_7 : decode cX5_addRange 7 = .ok (.iconst (-1), 1) := by decide +kernel
theorem dX5_addRange_8 : decode cX5_addRange 8 = .ok (.ireturn, 1) := by decide +kernel
theorem dX5_addRange_9 : decode cX5_addRange 9 = .ok (.iload_n 2, 1) := by decide +kernel
theorem dX5_addRange_10 : decode cX5_addRange 10 = .ok (.iload_n 3, 1) := by decide +kernel
theorem dX5_addRange_11 : decode cX5_addRange 11 = .ok (.invokestatic 134, 3) := by decide +kernel
theorem dX5_addRange_14 : decode cX5_addRange 14 = .ok (.ifCond .ne 6, 3) := by decide +kernel
theorem dX5_addRange_17 : decode cX5_addRange 17 = .ok (.bipush (-2), 2) := by decide +kernel
theorem dX5_addRange_19 : decode cX5_addRange 19 = .ok (.ireturn, 1) := by decide +kernel
theorem dX5_addRange_20 : decode cX5_addRange 20 = .ok (.aload_n 0, 1) := by decide +kernel
theorem dX5_addRange_21 : decode cX5_addRange 21 = .ok (.invokevirtual 118, 3) := by decide +kernel
theorem dX5_addRange_24 : decode cX5_addRange 24 = .ok (.aload_n 0, 1) := by decide +kernel
theorem dX5_addRange_25 : decode cX5_addRange 25 = .ok (.iload_n 1, 1) := by decide +kernel
theorem dX5_addRange_26 : decode cX5_addRange 26 = .ok (.iload_n 2, 1) := by decide +kernel
theorem dX5_addRange_27 : decode cX5_addRange 27 = .ok (.iload_n 3, 1) := by decide +kernel
theorem dX5_addRange_28 : decode cX5_addRange 28 = .ok (.invokevirtual 137, 3) := by decide +kernel
theorem dX5_addRange_31 : decode cX5_addRange 31 = .ok (.ireturn, 1) := by decide +kernel
set_option maxRecDepth 20000 in
theorem ggX5_whyNotJoined_X5_isSketch : GoodIn wsX5_whyNotJoined wsX5_isSketch := goodIn_r _ [4, 5, 6, 3, 7] (by decide +kernel) (by decide +kernel)
set_option maxRecDepth 20000 in
theorem gX5_whyNotJoined_X5_isSketch : GoodIn wsX5_whyNotJoined (va_wsS RX5 124 yX5_isSketch wsX5_isSketch) := goodIn_app (goodIn_of _ (by decide +kernel)) ggX5_whyNotJoined_X5_isSketch
set_option maxRecDepth 20000 in
theorem ggX5_whyNotJoined_X5_part : GoodIn wsX5_whyNotJoined wsX5_part := goodIn_r _ [11, 12, 13, 14, 15, 16, 17, 18, 19, 20, 21, 22, 23, 24, 25] (by decide +kernel) (by decide +kernel)
set_option maxRecDepth 20000 in
theorem gX5_whyNotJoined_X5_part : GoodIn wsX5_whyNotJoined (wsV RX5 48 RX5 yX5_part wsX5_part) := goodIn_app (goodIn_of _ (by decide +kernel)) ggX5_whyNotJoined_X5_part
theorem dX5_whyNotJoined_0 : decode cX5_whyNotJoined 0 = .ok (.iload_n 1, 1) := by decide +kernel
theorem dX5_whyNotJoined_1 : decode cX5_whyNotJoined 1 = .ok (.invokestatic 124, 3) := by decide +kernel
theorem dX5_whyNotJoined_4 : decode cX5_whyNotJoined 4 = .ok (.ifCond .eq 10, 3) := by decide +kernel
theorem dX5_whyNotJoined_7 : decode cX5_whyNotJoined 7 = .ok (.iload_n 2, 1) := by decide +kernel
theorem dX5_whyNotJoined_8 : decode cX5_whyNotJoined 8 = .ok (.invokestatic 124, 3) := by decide +kernel
theorem dX5_whyNotJoined_11 : decode cX5_whyNotJoined 11 = .ok (.ifCond .ne 5, 3) := by decide +kernel
theorem dX5_whyNotJoined_14 : decode cX5_whyNotJoined 14 = .ok (.iconst (-1), 1) := by decide +kernel
theorem dX5_whyNotJoined_15 : decode cX5_whyNotJoined 15 = .ok (.ireturn, 1) := by decide +kernel
theorem dX5_whyNotJoined_16 : decode cX5_whyNotJoined 16 = .ok (.iload_n 1, 1) := by decide +kernel
theorem dX5_whyNotJoined_17 : decode cX5_whyNotJoined 17 = .ok (.iload_n 2, 1) := by decide +kernel
theorem dX5_whyNotJoined_18 : decode cX5_whyNotJoined 18 = .ok (.if_icmp .eq 18, 3) := by decide +kernel
theorem dX5_whyNotJoined_21 : decode cX5_whyNotJoined 21 = .ok (.aload_n 0, 1) := by decide +kernel
theorem dX5_whyNotJoined_22 : decode cX5_whyNotJoined 22 = .ok (.iload_n 1, 1) := by decide +kernel
theorem dX5_whyNotJoined_23 : decode cX5_whyNotJoined 23 = .ok (.iconst 0, 1) := by decide +kernel
theorem dX5_whyNotJoined_24 : decode cX5_whyNotJoined 24 = .ok (.invokevirtual 48, 3) := by decide +kernel
theorem dX5_whyNotJoined_27 : decode cX5_whyNotJoined 27 = .ok (.aload_n 0, 1) := by decide +kernel
theorem dX5_whyNotJoined_28 : decode cX5_whyNotJoined 28 = .ok (.iload_n 2, 1) := by decide +kernel
theorem dX5_whyNotJoined_29 : decode cX5_whyNotJoined 29 = .ok (.iconst 0, 1) := by decide +kernel
theorem dX5_whyNotJoined_30 : decode cX5_whyNotJoined 30 = .ok (.invokevirtual 48, 3) := by decide +kernel
theorem dX5_whyNotJoined_33 : decode cX5_whyNotJoined 33 = .ok (.if_icmp .eq 8, 3) := by decide +kernel
theorem dX5_whyNotJoined_36 : decode cX5_whyNotJoined 36 = .ok (.bipush (-5), 2) := by decide +kernel
theorem dX5_whyNotJoined_38 : decode cX5_whyNotJoined 38 = .ok (.goto 4, 3) := by decide +kernel
theorem dX5_whyNotJoined_41 : decode cX5_whyNotJoined 41 = .ok (.iconst 0, 1) := by decide +kernel
theorem dX5_whyNotJoined_42 : decode cX5_whyNotJoined 42 = .ok (.ireturn, 1) := by decide +kernel
set_option maxRecDepth 20000 in
theorem ggX5_joins_X5_bucketsOf : GoodIn wsX5_joins wsX5_bucketsOf := goodIn_r _ [5, 6, 7, 8, 4, 9, 10, 60, 61, 62, 63, 64, 65, 66, 67, 68, 69, 70, 71, 72] (by decide +kernel) (by decide +kernel)
set_option maxRecDepth 20000 in
theorem gX5_joins_X5_bucketsOf : GoodIn wsX5_joins (wsV RX5 59 RX5 yX5_bucketsOf wsX5_bucketsOf) := goodIn_app (goodIn_of _ (by decide +kernel)) ggX5_joins_X5_bucketsOf
set_option maxRecDepth 20000 in
theorem ggX5_joins_X5_part : GoodIn wsX5_joins wsX5_part := goodIn_r _ [9, 10, 60, 61, 62, 63, 64, 65, 66, 67, 68, 69, 70, 71, 72] (by decide +kernel) (by decide +kernel)
set_option maxRecDepth 20000 in
theorem gX5_joins_X5_part : GoodIn wsX5_joins (wsV RX5 48 RX5 yX5_part wsX5_part) := goodIn_app (goodIn_of _ (by decide +kernel)) ggX5_joins_X5_part
set_option maxRecDepth 20000 in
theorem ggX5_joins_X5_setPart : GoodIn wsX5_joins wsX5_setPart := goodIn_r _ [14, 10, 60, 61, 62, 63, 64, 65, 66, 67, 68, 69, 70, 71, 72] (by decide +kernel) (by decide +kernel)
set_option maxRecDepth 20000 in
theorem gX5_joins_X5_setPart : GoodIn wsX5_joins (wsV RX5 31 RX5 yX5_setPart wsX5_setPart) := goodIn_app (goodIn_of _ (by decide +kernel)) ggX5_joins_X5_setPart
set_option maxRecDepth 20000 in
theorem ggX5_joins_X5_isFull : GoodIn wsX5_joins wsX5_isFull := goodIn_r _ [18, 6, 7, 8, 4, 9, 10, 60, 61, 62, 63, 64, 65, 66, 67, 68, 69, 70, 71, 72] (by decide +kernel) (by decide +kernel)
set_option maxRecDepth 20000 in
theorem gX5_joins_X5_isFull : GoodIn wsX5_joins (wsV RX5 99 RX5 yX5_isFull wsX5_isFull) := goodIn_app (goodIn_of _ (by decide +kernel)) ggX5_joins_X5_isFull
set_option maxRecDepth 20000 in
theorem ggX5_joins_X5_becomesFull : GoodIn wsX5_joins wsX5_becomesFull := goodIn_r _ [22, 11, 12, 13, 4, 14, 10, 60, 61, 62, 63, 64, 65, 66, 67, 68, 69, 70, 71, 72] (by decide +kernel) (by decide +kernel)
set_option maxRecDepth 20000 in
theorem gX5_joins_X5_becomesFull : GoodIn wsX5_joins (wsV RX5 107 RX5 yX5_becomesFull wsX5_becomesFull) := goodIn_app (goodIn_of _ (by decide +kernel)) ggX5_joins_X5_becomesFull
set_option maxRecDepth 20000 in
theorem ggX5_joins_X5_lists : GoodIn wsX5_joins wsX5_lists := goodIn_r _ [26, 15, 16, 17, 4, 18, 6, 7, 8, 9, 10, 27, 28, 29, 30, 19, 20, 21, 22, 11, 12, 13, 14, 60, 61, 62, 63, 64, 65, 66, 67, 68, 69, 70, 71, 72] (by decide +kernel) (by decide +kernel)
set_option maxRecDepth 20000 in
theorem gX5_joins_X5_lists : GoodIn wsX5_joins (wsV RX5 113 RX5 yX5_lists wsX5_lists) := goodIn_app (goodIn_of _ (by decide +kernel)) ggX5_joins_X5_lists
set_option maxRecDepth 20000 in
theorem ggX5_joins_X5_estimateOf : GoodIn wsX5_joins wsX5_estimateOf := goodIn_r _ [34, 35, 36, 37, 4, 38, 39, 6, 7, 8, 9, 10, 1, 2, 3, 5, 40, 41, 42, 43, 44, 45, 46, 47, 48, 49, 50, 51, 52, 53, 54, 55, 56, 57, 58, 59, 60, 61, 62, 63, 64, 65, 66, 67, 68, 69, 70, 71, 72] (by decide +kernel) (by decide +kernel)
set_option maxRecDepth 20000 in
theorem gX5_joins_X5_estimateOf : GoodIn wsX5_joins (wsV RX5 96 RX5 yX5_estimateOf wsX5_estimateOf) := goodIn_app (goodIn_of _ (by decide +kernel)) ggX5_joins_X5_estimateOf
theorem dX5_joins_0 : decode cX5_joins 0 = .ok (.iconst 0, 1) := by decide +kernel
theorem dX5_joins_1 : decode cX5_joins 1 = .ok (.istore_n 3, 1) := by decide +kernel
theorem dX5_joins_2 : decode cX5_joins 2 = .ok (.iload_n 3, 1) := by decide +kernel
theorem dX5_joins_3 : decode cX5_joins 3 = .ok (.aload_n 0, 1) := by decide +kernel
theorem dX5_joins_4 : decode cX5_joins 4 = .ok (.iload_n 1, 1) := by decide +kernel
theorem dX5_joins_5 : decode cX5_joins 5 = .ok (.invokevirtual 59, 3) := by decide +kernel
theorem dX5_joins_8 : decode cX5_joins 8 = .ok (.if_icmp .ge 55, 3) := by decide +kernel
theorem dX5_joins_11 : decode cX5_joins 11 = .ok (.aload_n 0, 1) := by decide +kernel
theorem dX5_joins_12 : decode cX5_joins 12 = .ok (.iload_n 1, 1) := by decide +kernel
theorem dX5_joins_13 : decode cX5_joins 13 = .ok (.iconst 2, 1) := by decide +kernel
theorem dX5_joins_14 : decode cX5_joins 14 = .ok (.iload_n 3, 1) := by decide +kernel
theorem dX5_joins_15 : decode cX5_joins 15 = .ok (.iadd, 1) := by decide +kernel
theorem dX5_joins_16 : decode cX5_joins 16 = .ok (.aload_n 0, 1) := by decide +kernel
theorem dX5_joins_17 : decode cX5_joins 17 = .ok (.iload_n 2, 1) := by decide +kernel
theorem dX5_joins_18 : decode cX5_joins 18 = .ok (.iconst 2, 1) := by decide +kernel
theorem dX5_joins_19 : decode cX5_joins 19 = .ok (.iload_n 3, 1) := by decide +kernel
theorem dX5_joins_20 : decode cX5_joins 20 = .ok (.iadd, 1) := by decide +kernel
theorem dX5_joins_21 : decode cX5_joins 21 = .ok (.invokevirtual 48, 3) := by decide +kernel
theorem dX5_joins_24 : decode cX5_joins 24 = .ok (.aload_n 0, 1) := by decide +kernel
theorem dX5_joins_25 : decode cX5_joins 25 = .ok (.iload_n 1, 1) := by decide +kernel
theorem dX5_joins_26 : decode cX5_joins 26 = .ok (.iconst 2, 1) := by decide +kernel
theorem dX5_joins_27 : decode cX5_joins 27 = .ok (.iload_n 3, 1) := by decide +kernel
theorem dX5_joins_28 : decode cX5_joins 28 = .ok (.iadd, 1) := by decide +kernel
theorem dX5_joins_29 : decode cX5_joins 29 = .ok (.invokevirtual 48, 3) := by decide +kernel
theorem dX5_joins_32 : decode cX5_joins 32 = .ok (.if_icmp .le 14, 3) := by decide +kernel
theorem dX5_joins_35 : decode cX5_joins 35 = .ok (.aload_n 0, 1) := by decide +kernel
theorem dX5_joins_36 : decode cX5_joins 36 = .ok (.iload_n 2, 1) := by decide +kernel
theorem dX5_joins_37 : decode cX5_joins 37 = .ok (.iconst 2, 1) := by decide +kernel
theorem dX5_joins_38 : decode cX5_joins 38 = .ok (.iload_n 3, 1) := by decide +kernel
theorem dX5_joins_39 : decode cX5_joins 39 = .ok (.iadd, 1) := by decide +kernel
theorem dX5_joins_40 : decode cX5_joins 40 = .ok (.invokevirtual 48, 3) := by decide +kernel
theorem dX5_joins_43 : decode cX5_joins 43 = .ok (.goto 11, 3) := by decide +kernel
theorem dX5_joins_46 : decode cX5_joins 46 = .ok (.aload_n 0, 1) := by decide +kernel
theorem dX5_joins_47 : decode cX5_joins 47 = .ok (.iload_n 1, 1) := by decide +kernel
theorem dX5_joins_48 : decode cX5_joins 48 = .ok (.iconst 2, 1) := by decide +kernel
theorem dX5_joins_49 : decode cX5_joins 49 = .ok (.iload_n 3, 1) := by decide +kernel
theorem dX5_joins_50 : decode cX5_joins 50 = .ok (.iadd, 1) := by decide +kernel
theorem dX5_joins_51 : decode cX5_joins 51 = .ok (.invokevirtual 48, 3) := by decide +kernel
theorem dX5_joins_54 : decode cX5_joins 54 = .ok (.invokevirtual 31, 3) := by decide +kernel
theorem dX5_joins_57 : decode cX5_joins 57 = .ok (.iinc 3 1, 3) := by decide +kernel
theorem dX5_joins_60 : decode cX5_joins 60 = .ok (.goto (-58), 3) := by decide +kernel
theorem dX5_joins_63 : decode cX5_joins 63 = .ok (.aload_n 0, 1) := by decide +kernel
theorem dX5_joins_64 : decode cX5_joins 64 = .ok (.iload_n 2, 1) := by decide +kernel
theorem dX5_joins_65 : decode cX5_joins 65 = .ok (.invokevirtual 99, 3) := by decide +kernel
theorem dX5_joins_68 : decode cX5_joins 68 = .ok (.ifCond .eq 8, 3) := by decide +kernel
theorem dX5_joins_71 : decode cX5_joins 71 = .ok (.aload_n 0, 1) := by decide +kernel
theorem dX5_joins_72 : decode cX5_joins 72 = .ok (.iload_n 1, 1) := by decide +kernel
theorem dX5_joins_73 : decode cX5_joins 73 = .ok (.invokevirtual 107, 3) := by decide +kernel
theorem dX5_joins_76 : decode cX5_joins 76 = .ok (.iconst 0, 1) := by decide +kernel
theorem dX5_joins_77 : decode cX5_joins 77 = .ok (.istore_n 3, 1) := by decide +kernel
theorem dX5_joins_78 : decode cX5_joins 78 = .ok (.iload_n 3, 1) := by decide +kernel
theorem dX5_joins_79 : decode cX5_joins 79 = .ok (.aload_n 0, 1) := by decide +kernel
theorem dX5_joins_80 : decode cX5_joins 80 = .ok (.iload_n 2, 1) := by decide +kernel
theorem dX5_joins_81 : decode cX5_joins 81 = .ok (.iconst 1, 1) := by decide +kernel
theorem dX5_joins_82 : decode cX5_joins 82 = .ok (.invokevirtual 48, 3) := by decide +kernel
theorem dX5_joins_85 : decode cX5_joins 85 = .ok (.if_icmp .ge 23, 3) := by decide +kernel
theorem dX5_joins_88 : decode cX5_joins 88 = .ok (.aload_n 0, 1) := by decide +kernel
theorem dX5_joins_89 : decode cX5_joins 89 = .ok (.iload_n 1, 1) := by decide +kernel
theorem dX5_joins_90 : decode cX5_joins 90 = .ok (.aload_n 0, 1) := by decide +kernel
theorem dX5_joins_91 : decode cX5_joins 91 = .ok (.iload_n 2, 1) := by decide +kernel
theorem dX5_joins_92 : decode cX5_joins 92 = .ok (.bipush 66, 2) := by decide +kernel
theorem dX5_joins_94 : decode cX5_joins 94 = .ok (.iload_n 3, 1) := by decide +kernel
theorem dX5_joins_95 : decode cX5_joins 95 = .ok (.iadd, 1) := by decide +kernel
theorem dX5_joins_96 : decode cX5_joins 96 = .ok (.invokevirtual 48, 3) := by decide +kernel
theorem dX5_joins_99 : decode cX5_joins 99 = .ok (.invokevirtual 113, 3) := by decide +kernel
theorem dX5_joins_102 : decode cX5_joins 102 = .ok (.iinc 3 1, 3) := by decide +kernel
theorem dX5_joins_105 : decode cX5_joins 105 = .ok (.goto (-27), 3) := by decide +kernel
theorem dX5_joins_108 : decode cX5_joins 108 = .ok (.aload_n 0, 1) := by decide +kernel
theorem dX5_joins_109 : decode cX5_joins 109 = .ok (.iload_n 1, 1) := by decide +kernel
theorem dX5_joins_110 : decode cX5_joins 110 = .ok (.invokevirtual 96, 3) := by decide +kernel
theorem dX5_joins_113 : decode cX5_joins 113 = .ok (.ireturn, 1) := by decide +kernel
set_option maxRecDepth 20000 in
theorem ggX5_join_X5_whyNotJoined : GoodIn wsX5_join wsX5_whyNotJoined := goodIn_r _ [5, 6, 7, 4, 8, 9, 10, 11, 12, 13, 14, 15, 16, 83, 84, 85, 86, 87, 88, 89, 90, 91, 92, 93, 94, 95] (by decide +kernel) (by decide +kernel)
set_option maxRecDepth 20000 in
theorem gX5_join_X5_whyNotJoined : GoodIn wsX5_join (wsV RX5 141 RX5 yX5_whyNotJoined wsX5_whyNotJoined) := goodIn_app (goodIn_of _ (by decide +kernel)) ggX5_join_X5_whyNotJoined
set_option maxRecDepth 20000 in
theorem ggX5_join_X5_record : GoodIn wsX5_join wsX5_record := goodIn_r _ [20, 21, 22, 16, 23, 24, 4, 25, 83, 84, 85, 86, 87, 88, 89, 90, 91, 92, 93, 94, 95] (by decide +kernel) (by decide +kernel)
set_option maxRecDepth 20000 in
theorem gX5_join_X5_record : GoodIn wsX5_join (wsV RX5 118 RX5 yX5_record wsX5_record) := goodIn_app (goodIn_of _ (by decide +kernel)) ggX5_join_X5_record
set_option maxRecDepth 20000 in
theorem ggX5_join_X5_joins : GoodIn wsX5_join wsX5_joins := goodIn_r _ [29, 30, 31, 32, 4, 33, 12, 13, 14, 15, 16, 34, 35, 36, 37, 38, 39, 40, 41, 42, 43, 44, 45, 46, 47, 48, 49, 50, 51, 52, 53, 54, 55, 56, 57, 58, 59, 60, 61, 62, 63, 64, 65, 66, 67, 68, 69, 70, 71, 72, 73, 74, 75, 76, 77, 78, 79, 80, 81, 82, 83, 84, 85, 86, 87, 88, 89, 90, 91, 92, 93, 94, 95] (by decide +kernel) (by decide +kernel)
set_option maxRecDepth 20000 in
theorem gX5_join_X5_joins : GoodIn wsX5_join (wsV RX5 144 RX5 yX5_joins wsX5_joins) := goodIn_app (goodIn_of _ (by decide +kernel)) ggX5_join_X5_joins
theorem dX5_join_0 : decode cX5_join 0 = .ok (.aload_n 0, 1) := by decide +kernel
theorem dX5_join_1 : decode cX5_join 1 = .ok (.iload_n 1, 1) := by decide +kernel
theorem dX5_join_2 : decode cX5_join 2 = .ok (.iload_n 2, 1) := by decide +kernel
theorem dX5_join_3 : decode cX5_join 3 = .ok (.invokevirtual 141, 3) := by decide +kernel
theorem dX5_join_6 : decode cX5_join 6 = .ok (.istore_n 3, 1) := by decide +kernel
theorem dX5_join_7 : decode cX5_join 7 = .ok (.iload_n 3, 1) := by decide +kernel
theorem dX5_join_8 : decode cX5_join 8 = .ok (.ifCond .ge 5, 3) := by decide +kernel
theorem dX5_join_11 : decode cX5_join 11 = .ok (.iload_n 3, 1) := by decide +kernel
theorem dX5_join_12 : decode cX5_join 12 = .ok (.ireturn, 1) := by decide +kernel
theorem dX5_join_13 : decode cX5_join 13 = .ok (.aload_n 0, 1) := by decide +kernel
theorem dX5_join_14 : decode cX5_join 14 = .ok (.invokevirtual 118, 3) := by decide +kernel
theorem dX5_join_17 : decode cX5_join 17 = .ok (.aload_n 0, 1) := by decide +kernel
theorem dX5_join_18 : decode cX5_join 18 = .ok (.iload_n 1, 1) := by decide +kernel
theorem dX5_join_19 : decode cX5_join 19 = .ok (.iload_n 2, 1) := by decide +kernel
theorem dX5_join_20 : decode cX5_join 20 = .ok (.invokevirtual 144, 3) := by decide +kernel
theorem dX5_join_23 : decode cX5_join 23 = .ok (.ireturn, 1) := by decide +kernel
set_option maxRecDepth 20000 in
theorem ggX5_whyNotFolded_X5_isSketch : GoodIn wsX5_whyNotFolded wsX5_isSketch := goodIn_r _ [4, 5, 6, 3, 7] (by decide +kernel) (by decide +kernel)
set_option maxRecDepth 20000 in
theorem gX5_whyNotFolded_X5_isSketch : GoodIn wsX5_whyNotFolded (va_wsS RX5 124 yX5_isSketch wsX5_isSketch) := goodIn_app (goodIn_of _ (by decide +kernel)) ggX5_whyNotFolded_X5_isSketch
set_option maxRecDepth 20000 in
theorem ggX5_whyNotFolded_X5_part : GoodIn wsX5_whyNotFolded wsX5_part := goodIn_r _ [11, 12, 13, 14, 15, 16, 17, 18, 19, 20, 21, 22, 23, 24, 25] (by decide +kernel) (by decide +kernel)
set_option maxRecDepth 20000 in
theorem gX5_whyNotFolded_X5_part : GoodIn wsX5_whyNotFolded (wsV RX5 48 RX5 yX5_part wsX5_part) := goodIn_app (goodIn_of _ (by decide +kernel)) ggX5_whyNotFolded_X5_part
theorem dX5_whyNotFolded_0 : decode cX5_whyNotFolded 0 = .ok (.iload_n 1, 1) := by decide +kernel
theorem dX5_whyNotFolded_1 : decode cX5_whyNotFolded 1 = .ok (.invokestatic 124, 3) := by decide +kernel
theorem dX5_whyNotFolded_4 : decode cX5_whyNotFolded 4 = .ok (.ifCond .ne 7, 3) := by decide +kernel
theorem dX5_whyNotFolded_7 : decode cX5_whyNotFolded 7 = .ok (.iconst (-1), 1) := by decide +kernel
theorem dX5_whyNotFolded_8 : decode cX5_whyNotFolded 8 = .ok (.goto 19, 3) := by decide +kernel
theorem dX5_whyNotFolded_11 : decode cX5_whyNotFolded 11 = .ok (.aload_n 0, 1) := by decide +kernel
theorem dX5_whyNotFolded_12 : decode cX5_whyNotFolded 12 = .ok (.iload_n 1, 1) := by decide +kernel
theorem dX5_whyNotFolded_13 : decode cX5_whyNotFolded 13 = .ok (.iconst 0, 1) := by decide +kernel
theorem dX5_whyNotFolded_14 : decode cX5_whyNotFolded 14 = .ok (.invokevirtual 48, 3) := by decide +kernel
theorem dX5_whyNotFolded_17 : decode cX5_whyNotFolded 17 = .ok (.iconst 2, 1) := by decide +kernel
theorem dX5_whyNotFolded_18 : decode cX5_whyNotFolded 18 = .ok (.if_icmp .ne 8, 3) := by decide +kernel
theorem dX5_whyNotFolded_21 : decode cX5_whyNotFolded 21 = .ok (.bipush (-5), 2) := by decide +kernel
theorem dX5_whyNotFolded_23 : decode cX5_whyNotFolded 23 = .ok (.goto 4, 3) := by decide +kernel
theorem dX5_whyNotFolded_26 : decode cX5_whyNotFolded 26 = .ok (.iconst 0, 1) := by decide +kernel
theorem dX5_whyNotFolded_27 : decode cX5_whyNotFolded 27 = .ok (.ireturn, 1) := by decide +kernel
set_option maxRecDepth 20000 in
theorem ggX5_folds_X5_bucketsOf : GoodIn wsX5_folds wsX5_bucketsOf := goodIn_r _ [5, 6, 7, 8, 4, 9, 10, 15, 16, 17, 18, 19, 20, 21, 22, 23, 24, 25, 26, 27] (by decide +kernel) (by decide +kernel)
set_option maxRecDepth 20000 in
theorem gX5_folds_X5_bucketsOf : GoodIn wsX5_folds (wsV RX5 59 RX5 yX5_bucketsOf wsX5_bucketsOf) := goodIn_app (goodIn_of _ (by decide +kernel)) ggX5_folds_X5_bucketsOf
set_option maxRecDepth 20000 in
theorem ggX5_folds_X5_part : GoodIn wsX5_folds wsX5_part := goodIn_r _ [9, 10, 15, 16, 17, 18, 19, 20, 21, 22, 23, 24, 25, 26, 27] (by decide +kernel) (by decide +kernel)
set_option maxRecDepth 20000 in
theorem gX5_folds_X5_part : GoodIn wsX5_folds (wsV RX5 48 RX5 yX5_part wsX5_part) := goodIn_app (goodIn_of _ (by decide +kernel)) ggX5_folds_X5_part
set_option maxRecDepth 20000 in
theorem ggX5_folds_X5_setPart : GoodIn wsX5_folds wsX5_setPart := goodIn_r _ [14, 10, 15, 16, 17, 18, 19, 20, 21, 22, 23, 24, 25, 26, 27] (by decide +kernel) (by decide +kernel)
set_option maxRecDepth 20000 in
theorem gX5_folds_X5_setPart : GoodIn wsX5_folds (wsV RX5 31 RX5 yX5_setPart wsX5_setPart) := goodIn_app (goodIn_of _ (by decide +kernel)) ggX5_folds_X5_setPart
theorem dX5_folds_0 : decode cX5_folds 0 = .ok (.aload_n 0, 1) := by decide +kernel
theorem dX5_folds_1 : decode cX5_folds 1 = .ok (.iload_n 1, 1) := by decide +kernel
theorem dX5_folds_2 : decode cX5_folds 2 = .ok (.invokevirtual 59, 3) := by decide +kernel
theorem dX5_folds_5 : decode cX5_folds 5 = .ok (.iconst 2, 1) := by decide +kernel
theorem dX5_folds_6 : decode cX5_folds 6 = .ok (.idiv, 1) := by decide +kernel
theorem dX5_folds_7 : decode cX5_folds 7 = .ok (.istore_n 2, 1) := by decide +kernel
theorem dX5_folds_8 : decode cX5_folds 8 = .ok (.iconst 0, 1) := by decide +kernel
theorem dX5_folds_9 : decode cX5_folds 9 = .ok (.istore_n 3, 1) := by decide +kernel
theorem dX5_folds_10 : decode cX5_folds 10 = .ok (.iload_n 3, 1) := by decide +kernel
theorem dX5_folds_11 : decode cX5_folds 11 = .ok (.iload_n 2, 1) := by decide +kernel
theorem dX5_folds_12 : decode cX5_folds 12 = .ok (.if_icmp .ge 72, 3) := by decide +kernel
theorem dX5_folds_15 : decode cX5_folds 15 = .ok (.aload_n 0, 1) := by decide +kernel
theorem dX5_folds_16 : decode cX5_folds 16 = .ok (.iload_n 1, 1) := by decide +kernel
theorem dX5_folds_17 : decode cX5_folds 17 = .ok (.iconst 2, 1) := by decide +kernel
theorem dX5_folds_18 : decode cX5_folds 18 = .ok (.iload_n 3, 1) := by decide +kernel
theorem dX5_folds_19 : decode cX5_folds 19 = .ok (.iadd, 1) := by decide +kernel
theorem dX5_folds_20 : decode cX5_folds 20 = .ok (.invokevirtual 48, 3) := by decide +kernel
theorem dX5_folds_23 : decode cX5_folds 23 = .ok (.istore 4, 2) := by decide +kernel
theorem dX5_folds_25 : decode cX5_folds 25 = .ok (.aload_n 0, 1) := by decide +kernel
theorem dX5_folds_26 : decode cX5_folds 26 = .ok (.iload_n 1, 1) := by decide +kernel
theorem dX5_folds_27 : decode cX5_folds 27 = .ok (.iconst 2, 1) := by decide +kernel
theorem dX5_folds_28 : decode cX5_folds 28 = .ok (.iload_n 2, 1) := by decide +kernel
theorem dX5_folds_29 : decode cX5_folds 29 = .ok (.iadd, 1) := by decide +kernel
theorem dX5_folds_30 : decode cX5_folds 30 = .ok (.iload_n 3, 1) := by decide +kernel
theorem dX5_folds_31 : decode cX5_folds 31 = .ok (.iadd, 1) := by decide +kernel
theorem dX5_folds_32 : decode cX5_folds 32 = .ok (.invokevirtual 48, 3) := by decide +kernel
theorem dX5_folds_35 : decode cX5_folds 35 = .ok (.istore 5, 2) := by decide +kernel
theorem dX5_folds_37 : decode cX5_folds 37 = .ok (.aload_n 0, 1) := by decide +kernel
theorem dX5_folds_38 : decode cX5_folds 38 = .ok (.iload_n 1, 1) := by decide +kernel
theorem dX5_folds_39 : decode cX5_folds 39 = .ok (.iconst 2, 1) := by decide +kernel
theorem dX5_folds_40 : decode cX5_folds 40 = .ok (.iload_n 3, 1) := by decide +kernel
theorem dX5_folds_41 : decode cX5_folds 41 = .ok (.iadd, 1) := by decide +kernel
theorem dX5_folds_42 : decode cX5_folds 42 = .ok (.iload 4, 2) := by decide +kernel
theorem dX5_folds_44 : decode cX5_folds 44 = .ok (.ifCond .le 10, 3) := by decide +kernel
theorem dX5_folds_47 : decode cX5_folds 47 = .ok (.iload 4, 2) := by decide +kernel
theorem dX5_folds_49 : decode cX5_folds 49 = .ok (.iconst 1, 1) := by decide +kernel
theorem dX5_folds_50 : decode cX5_folds 50 = .ok (.iadd, 1) := by decide +kernel
theorem dX5_folds_51 : decode cX5_folds 51 = .ok (.goto 13, 3) := by decide +kernel
theorem dX5_folds_54 : decode cX5_folds 54 = .ok (.iload 5, 2) := by decide +kernel
theorem dX5_folds_56 : decode cX5_folds 56 = .ok (.ifCond .le 7, 3) := by decide +kernel
theorem dX5_folds_59 : decode cX5_folds 59 = .ok (.iconst 1, 1) := by decide +kernel
theorem dX5_folds_60 : decode cX5_folds 60 = .ok (.goto 4, 3) := by decide +kernel
theorem dX5_folds_63 : decode cX5_folds 63 = .ok (.iconst 0, 1) := by decide +kernel
theorem dX5_folds_64 : decode cX5_folds 64 = .ok (.invokevirtual 31, 3) := by decide +kernel
theorem dX5_folds_67 : decode cX5_folds 67 = .ok (.aload_n 0, 1) := by decide +kernel
theorem dX5_folds_68 : decode cX5_folds 68 = .ok (.iload_n 1, 1) := by decide +kernel
theorem dX5_folds_69 : decode cX5_folds 69 = .ok (.iconst 2, 1) := by decide +kernel
theorem dX5_folds_70 : decode cX5_folds 70 = .ok (.iload_n 2, 1) := by decide +kernel
theorem dX5_folds_71 : decode cX5_folds 71 = .ok (.iadd, 1) := by decide +kernel
theorem dX5_folds_72 : decode cX5_folds 72 = .ok (.iload_n 3, 1) := by decide +kernel
theorem dX5_folds_73 : decode cX5_folds 73 = .ok (.iadd, 1) := by decide +kernel
theorem dX5_folds_74 : decode cX5_folds 74 = .ok (.iconst 0, 1) := by decide +kernel
theorem dX5_folds_75 : decode cX5_folds 75 = .ok (.invokevirtual 31, 3) := by decide +kernel
theorem dX5_folds_78 : decode cX5_folds 78 = .ok (.iinc 3 1, 3) := by decide +kernel
theorem dX5_folds_81 : decode cX5_folds 81 = .ok (.goto (-71), 3) := by decide +kernel
theorem dX5_folds_84 : decode cX5_folds 84 = .ok (.aload_n 0, 1) := by decide +kernel
theorem dX5_folds_85 : decode cX5_folds 85 = .ok (.iload_n 1, 1) := by decide +kernel
theorem dX5_folds_86 : decode cX5_folds 86 = .ok (.iconst 0, 1) := by decide +kernel
theorem dX5_folds_87 : decode cX5_folds 87 = .ok (.aload_n 0, 1) := by decide +kernel
theorem dX5_folds_88 : decode cX5_folds 88 = .ok (.iload_n 1, 1) := by decide +kernel
theorem dX5_folds_89 : decode cX5_folds 89 = .ok (.iconst 0, 1) := by decide +kernel
theorem dX5_folds_90 : decode cX5_folds 90 = .ok (.invokevirtual 48, 3) := by decide +kernel
theorem dX5_folds_93 : decode cX5_folds 93 = .ok (.iconst 1, 1) := by decide +kernel
theorem dX5_folds_94 : decode cX5_folds 94 = .ok (.isub, 1) := by decide +kernel
theorem dX5_folds_95 : decode cX5_folds 95 = .ok (.invokevirtual 31, 3) := by decide +kernel
theorem dX5_folds_98 : decode cX5_folds 98 = .ok (.iload_n 2, 1) := by decide +kernel
theorem dX5_folds_99 : decode cX5_folds 99 = .ok (.ireturn, 1) := by decide +kernel
set_option maxRecDepth 20000 in
theorem ggX5_fold_X5_whyNotFolded : GoodIn wsX5_fold wsX5_whyNotFolded := goodIn_r _ [5, 6, 7, 4, 8, 9, 10, 11, 12, 13, 14, 15, 16, 38, 39, 40, 41, 42, 43, 44, 45, 46, 47, 48, 49, 50] (by decide +kernel) (by decide +kernel)
set_option maxRecDepth 20000 in
theorem gX5_fold_X5_whyNotFolded : GoodIn wsX5_fold (wsV RX5 147 RX5 yX5_whyNotFolded wsX5_whyNotFolded) := goodIn_app (goodIn_of _ (by decide +kernel)) ggX5_fold_X5_whyNotFolded
set_option maxRecDepth 20000 in
theorem ggX5_fold_X5_record : GoodIn wsX5_fold wsX5_record := goodIn_r _ [20, 21, 22, 16, 23, 24, 4, 25, 38, 39, 40, 41, 42, 43, 44, 45, 46, 47, 48, 49, 50] (by decide +kernel) (by decide +kernel)
set_option maxRecDepth 20000 in
theorem gX5_fold_X5_record : GoodIn wsX5_fold (wsV RX5 118 RX5 yX5_record wsX5_record) := goodIn_app (goodIn_of _ (by decide +kernel)) ggX5_fold_X5_record
set_option maxRecDepth 20000 in
theorem ggX5_fold_X5_folds : GoodIn wsX5_fold wsX5_folds := goodIn_r _ [29, 30, 31, 32, 4, 33, 12, 13, 14, 15, 16, 34, 35, 36, 37, 38, 39, 40, 41, 42, 43, 44, 45, 46, 47, 48, 49, 50] (by decide +kernel) (by decide +kernel)
set_option maxRecDepth 20000 in
theorem gX5_fold_X5_folds : GoodIn wsX5_fold (wsV RX5 150 RX5 yX5_folds wsX5_folds) := goodIn_app (goodIn_of _ (by decide +kernel)) ggX5_fold_X5_folds
theorem dX5_fold_0 : decode cX5_fold 0 = .ok (.aload_n 0, 1) := by decide +kernel
theorem dX5_fold_1 : decode cX5_fold 1 = .ok (.iload_n 1, 1) := by decide +kernel
theorem dX5_fold_2 : decode cX5_fold 2 = .ok (.invokevirtual 147, 3) := by decide +kernel
theorem dX5_fold_5 : decode cX5_fold 5 = .ok (.istore_n 2, 1) := by decide +kernel
theorem dX5_fold_6 : decode cX5_fold 6 = .ok (.iload_n 2, 1) := by decide +kernel
theorem dX5_fold_7 : decode cX5_fold 7 = .ok (.ifCond .ge 5, 3) := by decide +kernel
theorem dX5_fold_10 : decode cX5_fold 10 = .ok (.iload_n 2, 1) := by decide +kernel
theorem dX5_fold_11 : decode cX5_fold 11 = .ok (.ireturn, 1) := by decide +kernel
theorem dX5_fold_12 : decode cX5_fold 12 = .ok (.aload_n 0, 1) := by decide +kernel
theorem dX5_fold_13 : decode cX5_fold 13 = .ok (.invokevirtual 118, 3) := by decide +kernel
theorem dX5_fold_16 : decode cX5_fold 16 = .ok (.aload_n 0, 1) := by decide +kernel
theorem dX5_fold_17 : decode cX5_fold 17 = .ok (.iload_n 1, 1) := by decide +kernel
theorem dX5_fold_18 : decode cX5_fold 18 = .ok (.invokevirtual 150, 3) := by decide +kernel
theorem dX5_fold_21 : decode cX5_fold 21 = .ok (.ireturn, 1) := by decide +kernel
set_option maxRecDepth 20000 in
theorem ggX5_empty_X5_isSketch : GoodIn wsX5_empty wsX5_isSketch := goodIn_r _ [4, 5, 6, 3, 7] (by decide +kernel) (by decide +kernel)
set_option maxRecDepth 20000 in
theorem gX5_empty_X5_isSketch : GoodIn wsX5_empty (va_wsS RX5 124 yX5_isSketch wsX5_isSketch) := goodIn_app (goodIn_of _ (by decide +kernel)) ggX5_empty_X5_isSketch
set_option maxRecDepth 20000 in
theorem ggX5_empty_X5_record : GoodIn wsX5_empty wsX5_record := goodIn_r _ [11, 12, 13, 14, 15, 16, 3, 17, 38, 39, 40, 41, 42, 43, 44, 45, 46, 47, 48, 49, 50] (by decide +kernel) (by decide +kernel)
set_option maxRecDepth 20000 in
theorem gX5_empty_X5_record : GoodIn wsX5_empty (wsV RX5 118 RX5 yX5_record wsX5_record) := goodIn_app (goodIn_of _ (by decide +kernel)) ggX5_empty_X5_record
set_option maxRecDepth 20000 in
theorem ggX5_empty_X5_empties : GoodIn wsX5_empty wsX5_empties := goodIn_r _ [21, 22, 23, 24, 3, 25, 26, 27, 28, 29, 30, 31, 32, 33, 14, 34, 35, 36, 37, 38, 39, 40, 41, 42, 43, 44, 45, 46, 47, 48, 49, 50] (by decide +kernel) (by decide +kernel)
set_option maxRecDepth 20000 in
theorem gX5_empty_X5_empties : GoodIn wsX5_empty (wsV RX5 121 RX5 yX5_empties wsX5_empties) := goodIn_app (goodIn_of _ (by decide +kernel)) ggX5_empty_X5_empties
theorem dX5_empty_0 : decode cX5_empty 0 = .ok (.iload_n 1, 1) := by decide +kernel
theorem dX5_empty_1 : decode cX5_empty 1 = .ok (.invokestatic 124, 3) := by decide +kernel
theorem dX5_empty_4 : decode cX5_empty 4 = .ok (.ifCond .ne 5, 3) := by decide +kernel
theorem dX5_empty_7 : decode cX5_empty 7 = .ok (.iconst (-1), 1) := by decide +kernel
theorem dX5_empty_8 : decode cX5_empty 8 = .ok (.ireturn, 1) := by decide +kernel
theorem dX5_empty_9 : decode cX5_empty 9 = .ok (.aload_n 0, 1) := by decide +kernel
theorem dX5_empty_10 : decode cX5_empty 10 = .ok (.invokevirtual 118, 3) := by decide +kernel
theorem dX5_empty_13 : decode cX5_empty 13 = .ok (.aload_n 0, 1) := by decide +kernel
theorem dX5_empty_14 : decode cX5_empty 14 = .ok (.iload_n 1, 1) := by decide +kernel
theorem dX5_empty_15 : decode cX5_empty 15 = .ok (.invokevirtual 121, 3) := by decide +kernel
theorem dX5_empty_18 : decode cX5_empty 18 = .ok (.ireturn, 1) := by decide +kernel
set_option maxRecDepth 20000 in
theorem ggX5_thing_X5_isSketch : GoodIn wsX5_thing wsX5_isSketch := goodIn_r _ [5, 6, 7, 4, 8] (by decide +kernel) (by decide +kernel)
set_option maxRecDepth 20000 in
theorem gX5_thing_X5_isSketch : GoodIn wsX5_thing (va_wsS RX5 124 yX5_isSketch wsX5_isSketch) := goodIn_app (goodIn_of _ (by decide +kernel)) ggX5_thing_X5_isSketch
set_option maxRecDepth 20000 in
theorem ggX5_thing_X5_isThing : GoodIn wsX5_thing wsX5_isThing := goodIn_r _ [11, 12, 6, 7, 4, 8] (by decide +kernel) (by decide +kernel)
set_option maxRecDepth 20000 in
theorem gX5_thing_X5_isThing : GoodIn wsX5_thing (va_wsS RX5 127 yX5_isThing wsX5_isThing) := goodIn_app (goodIn_of _ (by decide +kernel)) ggX5_thing_X5_isThing
set_option maxRecDepth 20000 in
theorem ggX5_thing_X5_hashOf : GoodIn wsX5_thing wsX5_hashOf := goodIn_r _ [15, 16, 17] (by decide +kernel) (by decide +kernel)
set_option maxRecDepth 20000 in
theorem gX5_thing_X5_hashOf : GoodIn wsX5_thing (va_wsS RX5 56 yX5_hashOf wsX5_hashOf) := goodIn_app (goodIn_of _ (by decide +kernel)) ggX5_thing_X5_hashOf
set_option maxRecDepth 20000 in
theorem ggX5_thing_X5_bucketOf : GoodIn wsX5_thing wsX5_bucketOf := goodIn_r _ [21, 1, 13, 14, 4, 15, 16, 17, 22, 23, 24, 25, 26, 27, 28, 29, 41, 42, 43, 44, 45, 46, 47, 48, 49, 50, 51, 52, 53] (by decide +kernel) (by decide +kernel)
set_option maxRecDepth 20000 in
theorem gX5_thing_X5_bucketOf : GoodIn wsX5_thing (wsV RX5 69 RX5 yX5_bucketOf wsX5_bucketOf) := goodIn_app (goodIn_of _ (by decide +kernel)) ggX5_thing_X5_bucketOf
set_option maxRecDepth 20000 in
theorem ggX5_thing_X5_rankIn : GoodIn wsX5_thing wsX5_rankIn := goodIn_r _ [33, 1, 13, 14, 4, 15, 16, 17, 26, 27, 28, 29, 34, 35, 36, 41, 42, 43, 44, 45, 46, 47, 48, 49, 50, 51, 52, 53] (by decide +kernel) (by decide +kernel)
set_option maxRecDepth 20000 in
theorem gX5_thing_X5_rankIn : GoodIn wsX5_thing (wsV RX5 66 RX5 yX5_rankIn wsX5_rankIn) := goodIn_app (goodIn_of _ (by decide +kernel)) ggX5_thing_X5_rankIn
set_option maxRecDepth 20000 in
theorem ggX5_thing_X5_wouldChange : GoodIn wsX5_thing wsX5_wouldChange := goodIn_r _ [40, 30, 31, 32, 4, 33, 1, 13, 14, 15, 16, 17, 26, 27, 28, 29, 34, 35, 36, 18, 19, 20, 21, 22, 23, 24, 25, 41, 42, 43, 44, 45, 46, 47, 48, 49, 50, 51, 52, 53] (by decide +kernel) (by decide +kernel)
set_option maxRecDepth 20000 in
theorem gX5_thing_X5_wouldChange : GoodIn wsX5_thing (wsV RX5 110 RX5 yX5_wouldChange wsX5_wouldChange) := goodIn_app (goodIn_of _ (by decide +kernel)) ggX5_thing_X5_wouldChange
theorem dX5_thing_0 : decode cX5_thing 0 = .ok (.iload_n 1, 1) := by decide +kernel
theorem dX5_thing_1 : decode cX5_thing 1 = .ok (.invokestatic 124, 3) := by decide +kernel
theorem dX5_thing_4 : decode cX5_thing 4 = .ok (.ifCond .ne 5, 3) := by decide +kernel
theorem dX5_thing_7 : decode cX5_thing 7 = .ok (.iconst (-1), 1) := by decide +kernel
theorem dX5_thing_8 : decode cX5_thing 8 = .ok (.ireturn, 1) := by decide +kernel
theorem dX5_thing_9 : decode cX5_thing 9 = .ok (.iload_n 2, 1) := by decide +kernel
theorem dX5_thing_10 : decode cX5_thing 10 = .ok (.invokestatic 127, 3) := by decide +kernel
theorem dX5_thing_13 : decode cX5_thing 13 = .ok (.ifCond .ne 6, 3) := by decide +kernel
theorem dX5_thing_16 : decode cX5_thing 16 = .ok (.bipush (-2), 2) := by decide +kernel
theorem dX5_thing_18 : decode cX5_thing 18 = .ok (.ireturn, 1) := by decide +kernel
theorem dX5_thing_19 : decode cX5_thing 19 = .ok (.iload_n 3, 1) := by decide +kernel
theorem dX5_thing_20 : decode cX5_thing 20 = .ok (.tableswitch 72 0 3 #[32, 43, 50, 57], 32) := by decide +kernel
theorem dX5_thing_52 : decode cX5_thing 52 = .ok (.iload_n 2, 1) := by decide +kernel
theorem dX5_thing_53 : decode cX5_thing 53 = .ok (.aload_n 0, 1) := by decide +kernel
theorem dX5_thing_54 : decode cX5_thing 54 = .ok (.getfield 7, 3) := by decide +kernel
theorem dX5_thing_57 : decode cX5_thing 57 = .ok (.iconst 0, 1) := by decide +kernel
theorem dX5_thing_58 : decode cX5_thing 58 = .ok (.iaload, 1) := by decide +kernel
theorem dX5_thing_59 : decode cX5_thing 59 = .ok (.invokestatic 56, 3) := by decide +kernel
theorem dX5_thing_62 : decode cX5_thing 62 = .ok (.ireturn, 1) := by decide +kernel
theorem dX5_thing_63 : decode cX5_thing 63 = .ok (.aload_n 0, 1) := by decide +kernel
theorem dX5_thing_64 : decode cX5_thing 64 = .ok (.iload_n 1, 1) := by decide +kernel
theorem dX5_thing_65 : decode cX5_thing 65 = .ok (.iload_n 2, 1) := by decide +kernel
theorem dX5_thing_66 : decode cX5_thing 66 = .ok (.invokevirtual 69, 3) := by decide +kernel
theorem dX5_thing_69 : decode cX5_thing 69 = .ok (.ireturn, 1) := by decide +kernel
theorem dX5_thing_70 : decode cX5_thing 70 = .ok (.aload_n 0, 1) := by decide +kernel
theorem dX5_thing_71 : decode cX5_thing 71 = .ok (.iload_n 1, 1) := by decide +kernel
theorem dX5_thing_72 : decode cX5_thing 72 = .ok (.iload_n 2, 1) := by decide +kernel
theorem dX5_thing_73 : decode cX5_thing 73 = .ok (.invokevirtual 66, 3) := by decide +kernel
theorem dX5_thing_76 : decode cX5_thing 76 = .ok (.ireturn, 1) := by decide +kernel
theorem dX5_thing_77 : decode cX5_thing 77 = .ok (.aload_n 0, 1) := by decide +kernel
theorem dX5_thing_78 : decode cX5_thing 78 = .ok (.iload_n 1, 1) := by decide +kernel
theorem dX5_thing_79 : decode cX5_thing 79 = .ok (.iload_n 2, 1) := by decide +kernel
theorem dX5_thing_80 : decode cX5_thing 80 = .ok (.invokevirtual 110, 3) := by decide +kernel
theorem dX5_thing_83 : decode cX5_thing 83 = .ok (.ifCond .eq 7, 3) := by decide +kernel
theorem dX5_thing_86 : decode cX5_thing 86 = .ok (.iconst 1, 1) := by decide +kernel
theorem dX5_thing_87 : decode cX5_thing 87 = .ok (.goto 4, 3) := by decide +kernel
theorem dX5_thing_90 : decode cX5_thing 90 = .ok (.iconst 0, 1) := by decide +kernel
theorem dX5_thing_91 : decode cX5_thing 91 = .ok (.ireturn, 1) := by decide +kernel
theorem dX5_thing_92 : decode cX5_thing 92 = .ok (.bipush (-2), 2) := by decide +kernel
theorem dX5_thing_94 : decode cX5_thing 94 = .ok (.ireturn, 1) := by decide +kernel
set_option maxRecDepth 20000 in
theorem ggX5_bucket_X5_isSketch : GoodIn wsX5_bucket wsX5_isSketch := goodIn_r _ [4, 5, 6, 3, 7] (by decide +kernel) (by decide +kernel)
set_option maxRecDepth 20000 in
theorem gX5_bucket_X5_isSketch : GoodIn wsX5_bucket (va_wsS RX5 124 yX5_isSketch wsX5_isSketch) := goodIn_app (goodIn_of _ (by decide +kernel)) ggX5_bucket_X5_isSketch
set_option maxRecDepth 20000 in
theorem ggX5_bucket_X5_bucketsOf : GoodIn wsX5_bucket wsX5_bucketsOf := goodIn_r _ [11, 12, 13, 14, 3, 15, 16, 17, 18, 19, 20, 21, 22, 23, 24, 25, 26, 27, 28, 29] (by decide +kernel) (by decide +kernel)
set_option maxRecDepth 20000 in
theorem gX5_bucket_X5_bucketsOf : GoodIn wsX5_bucket (wsV RX5 59 RX5 yX5_bucketsOf wsX5_bucketsOf) := goodIn_app (goodIn_of _ (by decide +kernel)) ggX5_bucket_X5_bucketsOf
set_option maxRecDepth 20000 in
theorem ggX5_bucket_X5_within : GoodIn wsX5_bucket wsX5_within := goodIn_r _ [7] (by decide +kernel) (by decide +kernel)
set_option maxRecDepth 20000 in
theorem gX5_bucket_X5_within : GoodIn wsX5_bucket (va_wsS RX5 43 yX5_within wsX5_within) := goodIn_app (goodIn_of _ (by decide +kernel)) ggX5_bucket_X5_within
set_option maxRecDepth 20000 in
theorem ggX5_bucket_X5_part : GoodIn wsX5_bucket wsX5_part := goodIn_r _ [15, 16, 17, 18, 19, 20, 21, 22, 23, 24, 25, 26, 27, 28, 29] (by decide +kernel) (by decide +kernel)
set_option maxRecDepth 20000 in
theorem gX5_bucket_X5_part : GoodIn wsX5_bucket (wsV RX5 48 RX5 yX5_part wsX5_part) := goodIn_app (goodIn_of _ (by decide +kernel)) ggX5_bucket_X5_part
end
section
theorem dX5_bucket_0 : decode cX5_bucket 0 = .ok (.iload_n 1, 1) := by decide +kernel
theorem dX5_bucket_1 : decode cX5_bucket 1 = .ok (.invokestatic 124, 3) := by decide +kernel
theorem dX5_bucket_4 : decode cX5_bucket 4 = .ok (.ifCond .eq 29, 3) := by decide +kernel
theorem dX5_bucket_7 : decode cX5_bucket 7 = .ok (.iload_n 2, 1) := by decide +kernel
theorem dX5_bucket_8 : decode cX5_bucket 8 = .ok (.iconst 0, 1) := by decide +kernel
theorem dX5_bucket_9 : decode cX5_bucket 9 = .ok (.aload_n 0, 1) := by decide +kernel
theorem dX5_bucket_10 : decode cX5_bucket 10 = .ok (.iload_n 1, 1) := by decide +kernel
theorem dX5_bucket_11 : decode cX5_bucket 11 = .ok (.invokevirtual 59, 3) := by decide +kernel
theorem dX5_bucket_14 : decode cX5_bucket 14 = .ok (.iconst 1, 1) := by decide +kernel
theorem dX5_bucket_15 : decode cX5_bucket 15 = .ok (.isub, 1) := by decide +kernel
theorem dX5_bucket_16 : decode cX5_bucket 16 = .ok (.invokestatic 43, 3) := by decide +kernel
theorem dX5_bucket_19 : decode cX5_bucket 19 = .ok (.ifCond .eq 14, 3) := by decide +kernel
theorem dX5_bucket_22 : decode cX5_bucket 22 = .ok (.aload_n 0, 1) := by decide +kernel
theorem dX5_bucket_23 : decode cX5_bucket 23 = .ok (.iload_n 1, 1) := by decide +kernel
theorem dX5_bucket_24 : decode cX5_bucket 24 = .ok (.iconst 2, 1) := by decide +kernel
theorem dX5_bucket_25 : decode cX5_bucket 25 = .ok (.iload_n 2, 1) := by decide +kernel
theorem dX5_bucket_26 : decode cX5_bucket 26 = .ok (.iadd, 1) := by decide +kernel
theorem dX5_bucket_27 : decode cX5_bucket 27 = .ok (.invokevirtual 48, 3) := by decide +kernel
theorem dX5_bucket_30 : decode cX5_bucket 30 = .ok (.goto 4, 3) := by decide +kernel
theorem dX5_bucket_33 : decode cX5_bucket 33 = .ok (.iconst (-1), 1) := by decide +kernel
theorem dX5_bucket_34 : decode cX5_bucket 34 = .ok (.ireturn, 1) := by decide +kernel
set_option maxRecDepth 20000 in
theorem ggX5_greatestRank_X5_bucketsOf : GoodIn wsX5_greatestRank wsX5_bucketsOf := goodIn_r _ [5, 6, 7, 8, 4, 9, 10, 11, 12, 13, 14, 15, 16, 17, 18, 19, 20, 21, 22, 23] (by decide +kernel) (by decide +kernel)
set_option maxRecDepth 20000 in
theorem gX5_greatestRank_X5_bucketsOf : GoodIn wsX5_greatestRank (wsV RX5 59 RX5 yX5_bucketsOf wsX5_bucketsOf) := goodIn_app (goodIn_of _ (by decide +kernel)) ggX5_greatestRank_X5_bucketsOf
set_option maxRecDepth 20000 in
theorem ggX5_greatestRank_X5_part : GoodIn wsX5_greatestRank wsX5_part := goodIn_r _ [9, 10, 11, 12, 13, 14, 15, 16, 17, 18, 19, 20, 21, 22, 23] (by decide +kernel) (by decide +kernel)
set_option maxRecDepth 20000 in
theorem gX5_greatestRank_X5_part : GoodIn wsX5_greatestRank (wsV RX5 48 RX5 yX5_part wsX5_part) := goodIn_app (goodIn_of _ (by decide +kernel)) ggX5_greatestRank_X5_part
theorem dX5_greatestRank_0 : decode cX5_greatestRank 0 = .ok (.iconst 0, 1) := by decide +kernel
theorem dX5_greatestRank_1 : decode cX5_greatestRank 1 = .ok (.istore_n 2, 1) := by decide +kernel
theorem dX5_greatestRank_2 : decode cX5_greatestRank 2 = .ok (.iconst 0, 1) := by decide +kernel
theorem dX5_greatestRank_3 : decode cX5_greatestRank 3 = .ok (.istore_n 3, 1) := by decide +kernel
theorem dX5_greatestRank_4 : decode cX5_greatestRank 4 = .ok (.iload_n 3, 1) := by decide +kernel
theorem dX5_greatestRank_5 : decode cX5_greatestRank 5 = .ok (.aload_n 0, 1) := by decide +kernel
theorem dX5_greatestRank_6 : decode cX5_greatestRank 6 = .ok (.iload_n 1, 1) := by decide +kernel
theorem dX5_greatestRank_7 : decode cX5_greatestRank 7 = .ok (.invokevirtual 59, 3) := by decide +kernel
theorem dX5_greatestRank_10 : decode cX5_greatestRank 10 = .ok (.if_icmp .ge 34, 3) := by decide +kernel
theorem dX5_greatestRank_13 : decode cX5_greatestRank 13 = .ok (.aload_n 0, 1) := by decide +kernel
theorem dX5_greatestRank_14 : decode cX5_greatestRank 14 = .ok (.iload_n 1, 1) := by decide +kernel
theorem dX5_greatestRank_15 : decode cX5_greatestRank 15 = .ok (.iconst 2, 1) := by decide +kernel
theorem dX5_greatestRank_16 : decode cX5_greatestRank 16 = .ok (.iload_n 3, 1) := by decide +kernel
theorem dX5_greatestRank_17 : decode cX5_greatestRank 17 = .ok (.iadd, 1) := by decide +kernel
theorem dX5_greatestRank_18 : decode cX5_greatestRank 18 = .ok (.invokevirtual 48, 3) := by decide +kernel
theorem dX5_greatestRank_21 : decode cX5_greatestRank 21 = .ok (.iload_n 2, 1) := by decide +kernel
theorem dX5_greatestRank_22 : decode cX5_greatestRank 22 = .ok (.if_icmp .le 14, 3) := by decide +kernel
theorem dX5_greatestRank_25 : decode cX5_greatestRank 25 = .ok (.aload_n 0, 1) := by decide +kernel
theorem dX5_greatestRank_26 : decode cX5_greatestRank 26 = .ok (.iload_n 1, 1) := by decide +kernel
theorem dX5_greatestRank_27 : decode cX5_greatestRank 27 = .ok (.iconst 2, 1) := by decide +kernel
theorem dX5_greatestRank_28 : decode cX5_greatestRank 28 = .ok (.iload_n 3, 1) := by decide +kernel
theorem dX5_greatestRank_29 : decode cX5_greatestRank 29 = .ok (.iadd, 1) := by decide +kernel
theorem dX5_greatestRank_30 : decode cX5_greatestRank 30 = .ok (.invokevirtual 48, 3) := by decide +kernel
theorem dX5_greatestRank_33 : decode cX5_greatestRank 33 = .ok (.goto 4, 3) := by decide +kernel
theorem dX5_greatestRank_36 : decode cX5_greatestRank 36 = .ok (.iload_n 2, 1) := by decide +kernel
theorem dX5_greatestRank_37 : decode cX5_greatestRank 37 = .ok (.istore_n 2, 1) := by decide +kernel
theorem dX5_greatestRank_38 : decode cX5_greatestRank 38 = .ok (.iinc 3 1, 3) := by decide +kernel
theorem dX5_greatestRank_41 : decode cX5_greatestRank 41 = .ok (.goto (-37), 3) := by decide +kernel
theorem dX5_greatestRank_44 : decode cX5_greatestRank 44 = .ok (.iload_n 2, 1) := by decide +kernel
theorem dX5_greatestRank_45 : decode cX5_greatestRank 45 = .ok (.ireturn, 1) := by decide +kernel
set_option maxRecDepth 20000 in
theorem ggX5_ofSketch_X5_isSketch : GoodIn wsX5_ofSketch wsX5_isSketch := goodIn_r _ [4, 5, 6, 3, 7] (by decide +kernel) (by decide +kernel)
set_option maxRecDepth 20000 in
theorem gX5_ofSketch_X5_isSketch : GoodIn wsX5_ofSketch (va_wsS RX5 124 yX5_isSketch wsX5_isSketch) := goodIn_app (goodIn_of _ (by decide +kernel)) ggX5_ofSketch_X5_isSketch
set_option maxRecDepth 20000 in
theorem ggX5_ofSketch_X5_bucketsOf : GoodIn wsX5_ofSketch wsX5_bucketsOf := goodIn_r _ [11, 12, 13, 14, 3, 15, 16, 54, 55, 56, 57, 58, 59, 60, 61, 62, 63, 64, 65, 66] (by decide +kernel) (by decide +kernel)
set_option maxRecDepth 20000 in
theorem gX5_ofSketch_X5_bucketsOf : GoodIn wsX5_ofSketch (wsV RX5 59 RX5 yX5_bucketsOf wsX5_bucketsOf) := goodIn_app (goodIn_of _ (by decide +kernel)) ggX5_ofSketch_X5_bucketsOf
set_option maxRecDepth 20000 in
theorem ggX5_ofSketch_X5_takeRanks : GoodIn wsX5_ofSketch wsX5_takeRanks := goodIn_r _ [20, 21, 12, 13, 14, 3, 15, 16, 54, 55, 56, 57, 58, 59, 60, 61, 62, 63, 64, 65, 66] (by decide +kernel) (by decide +kernel)
set_option maxRecDepth 20000 in
theorem gX5_ofSketch_X5_takeRanks : GoodIn wsX5_ofSketch (wsV RX5 89 RX5 yX5_takeRanks wsX5_takeRanks) := goodIn_app (goodIn_of _ (by decide +kernel)) ggX5_ofSketch_X5_takeRanks
set_option maxRecDepth 20000 in
theorem ggX5_ofSketch_X5_part : GoodIn wsX5_ofSketch wsX5_part := goodIn_r _ [15, 16, 54, 55, 56, 57, 58, 59, 60, 61, 62, 63, 64, 65, 66] (by decide +kernel) (by decide +kernel)
set_option maxRecDepth 20000 in
theorem gX5_ofSketch_X5_part : GoodIn wsX5_ofSketch (wsV RX5 48 RX5 yX5_part wsX5_part) := goodIn_app (goodIn_of _ (by decide +kernel)) ggX5_ofSketch_X5_part
set_option maxRecDepth 20000 in
theorem ggX5_ofSketch_X5_emptyBy : GoodIn wsX5_ofSketch wsX5_emptyBy := goodIn_r _ [25, 21, 54, 55, 56, 57, 58, 59, 60, 61, 62, 63, 64, 65, 66] (by decide +kernel) (by decide +kernel)
set_option maxRecDepth 20000 in
theorem gX5_ofSketch_X5_emptyBy : GoodIn wsX5_ofSketch (wsV RX5 86 RX5 yX5_emptyBy wsX5_emptyBy) := goodIn_app (goodIn_of _ (by decide +kernel)) ggX5_ofSketch_X5_emptyBy
set_option maxRecDepth 20000 in
theorem ggX5_ofSketch_X5_greatestRank : GoodIn wsX5_ofSketch wsX5_greatestRank := goodIn_r _ [29, 8, 9, 10, 3, 11, 12, 13, 14, 15, 16, 54, 55, 56, 57, 58, 59, 60, 61, 62, 63, 64, 65, 66] (by decide +kernel) (by decide +kernel)
set_option maxRecDepth 20000 in
theorem gX5_ofSketch_X5_greatestRank : GoodIn wsX5_ofSketch (wsV RX5 153 RX5 yX5_greatestRank wsX5_greatestRank) := goodIn_app (goodIn_of _ (by decide +kernel)) ggX5_ofSketch_X5_greatestRank
set_option maxRecDepth 20000 in
theorem ggX5_ofSketch_X5_sumBy : GoodIn wsX5_ofSketch wsX5_sumBy := goodIn_r _ [33, 34, 21, 54, 55, 56, 57, 58, 59, 60, 61, 62, 63, 64, 65, 66] (by decide +kernel) (by decide +kernel)
set_option maxRecDepth 20000 in
theorem gX5_ofSketch_X5_sumBy : GoodIn wsX5_ofSketch (wsV RX5 80 RX5 yX5_sumBy wsX5_sumBy) := goodIn_app (goodIn_of _ (by decide +kernel)) ggX5_ofSketch_X5_sumBy
set_option maxRecDepth 20000 in
theorem ggX5_ofSketch_X5_rawBy : GoodIn wsX5_ofSketch wsX5_rawBy := goodIn_r _ [38, 39, 40, 41, 30, 31, 32, 3, 33, 34, 21, 54, 55, 56, 57, 58, 59, 60, 61, 62, 63, 64, 65, 66] (by decide +kernel) (by decide +kernel)
set_option maxRecDepth 20000 in
theorem gX5_ofSketch_X5_rawBy : GoodIn wsX5_ofSketch (wsV RX5 83 RX5 yX5_rawBy wsX5_rawBy) := goodIn_app (goodIn_of _ (by decide +kernel)) ggX5_ofSketch_X5_rawBy
set_option maxRecDepth 20000 in
theorem ggX5_ofSketch_X5_estimateBy : GoodIn wsX5_ofSketch wsX5_estimateBy := goodIn_r _ [45, 35, 36, 37, 3, 38, 39, 40, 41, 30, 31, 32, 33, 34, 21, 22, 23, 24, 25, 54, 55, 56, 57, 58, 59, 60, 61, 62, 63, 64, 65, 66] (by decide +kernel) (by decide +kernel)
set_option maxRecDepth 20000 in
theorem gX5_ofSketch_X5_estimateBy : GoodIn wsX5_ofSketch (wsV RX5 93 RX5 yX5_estimateBy wsX5_estimateBy) := goodIn_app (goodIn_of _ (by decide +kernel)) ggX5_ofSketch_X5_estimateBy
set_option maxRecDepth 20000 in
theorem ggX5_ofSketch_X5_errorOf : GoodIn wsX5_ofSketch wsX5_errorOf := goodIn_r _ [49, 8, 9, 10, 3, 11, 12, 13, 14, 15, 16, 50, 51, 52, 53, 17, 18, 19, 20, 21, 42, 43, 44, 45, 35, 36, 37, 38, 39, 40, 41, 30, 31, 32, 33, 34, 22, 23, 24, 25, 54, 55, 56, 57, 58, 59, 60, 61, 62, 63, 64, 65, 66] (by decide +kernel) (by decide +kernel)
set_option maxRecDepth 20000 in
theorem gX5_ofSketch_X5_errorOf : GoodIn wsX5_ofSketch (wsV RX5 156 RX5 yX5_errorOf wsX5_errorOf) := goodIn_app (goodIn_of _ (by decide +kernel)) ggX5_ofSketch_X5_errorOf
theorem dX5_ofSketch_0 : decode cX5_ofSketch 0 = .ok (.iload_n 1, 1) := by decide +kernel
theorem dX5_ofSketch_1 : decode cX5_ofSketch 1 = .ok (.invokestatic 124, 3) := by decide +kernel
theorem dX5_ofSketch_4 : decode cX5_ofSketch 4 = .ok (.ifCond .ne 5, 3) := by decide +kernel
theorem dX5_ofSketch_7 : decode cX5_ofSketch 7 = .ok (.iconst (-1), 1) := by decide +kernel
theorem dX5_ofSketch_8 : decode cX5_ofSketch 8 = .ok (.ireturn, 1) := by decide +kernel
theorem dX5_ofSketch_9 : decode cX5_ofSketch 9 = .ok (.aload_n 0, 1) := by decide +kernel
theorem dX5_ofSketch_10 : decode cX5_ofSketch 10 = .ok (.iload_n 1, 1) := by decide +kernel
theorem dX5_ofSketch_11 : decode cX5_ofSketch 11 = .ok (.invokevirtual 59, 3) := by decide +kernel
theorem dX5_ofSketch_14 : decode cX5_ofSketch 14 = .ok (.istore_n 3, 1) := by decide +kernel
theorem dX5_ofSketch_15 : decode cX5_ofSketch 15 = .ok (.aload_n 0, 1) := by decide +kernel
theorem dX5_ofSketch_16 : decode cX5_ofSketch 16 = .ok (.iload_n 1, 1) := by decide +kernel
theorem dX5_ofSketch_17 : decode cX5_ofSketch 17 = .ok (.invokevirtual 89, 3) := by decide +kernel
theorem dX5_ofSketch_20 : decode cX5_ofSketch 20 = .ok (.iload_n 2, 1) := by decide +kernel
theorem dX5_ofSketch_21 : decode cX5_ofSketch 21 = .ok (.tableswitch 103 0 8 #[51, 58, 60, 66, 72, 78, 84, 90, 96], 51) := by decide +kernel
theorem dX5_ofSketch_72 : decode cX5_ofSketch 72 = .ok (.aload_n 0, 1) := by decide +kernel
theorem dX5_ofSketch_73 : decode cX5_ofSketch 73 = .ok (.iload_n 1, 1) := by decide +kernel
theorem dX5_ofSketch_74 : decode cX5_ofSketch 74 = .ok (.iconst 0, 1) := by decide +kernel
theorem dX5_ofSketch_75 : decode cX5_ofSketch 75 = .ok (.invokevirtual 48, 3) := by decide +kernel
theorem dX5_ofSketch_78 : decode cX5_ofSketch 78 = .ok (.ireturn, 1) := by decide +kernel
theorem dX5_ofSketch_79 : decode cX5_ofSketch 79 = .ok (.iload_n 3, 1) := by decide +kernel
theorem dX5_ofSketch_80 : decode cX5_ofSketch 80 = .ok (.ireturn, 1) := by decide +kernel
theorem dX5_ofSketch_81 : decode cX5_ofSketch 81 = .ok (.aload_n 0, 1) := by decide +kernel
theorem dX5_ofSketch_82 : decode cX5_ofSketch 82 = .ok (.iload_n 3, 1) := by decide +kernel
theorem dX5_ofSketch_83 : decode cX5_ofSketch 83 = .ok (.invokevirtual 86, 3) := by decide +kernel
theorem dX5_ofSketch_86 : decode cX5_ofSketch 86 = .ok (.ireturn, 1) := by decide +kernel
theorem dX5_ofSketch_87 : decode cX5_ofSketch 87 = .ok (.aload_n 0, 1) := by decide +kernel
theorem dX5_ofSketch_88 : decode cX5_ofSketch 88 = .ok (.iload_n 1, 1) := by decide +kernel
theorem dX5_ofSketch_89 : decode cX5_ofSketch 89 = .ok (.invokevirtual 153, 3) := by decide +kernel
theorem dX5_ofSketch_92 : decode cX5_ofSketch 92 = .ok (.ireturn, 1) := by decide +kernel
theorem dX5_ofSketch_93 : decode cX5_ofSketch 93 = .ok (.aload_n 0, 1) := by decide +kernel
theorem dX5_ofSketch_94 : decode cX5_ofSketch 94 = .ok (.iload_n 3, 1) := by decide +kernel
theorem dX5_ofSketch_95 : decode cX5_ofSketch 95 = .ok (.invokevirtual 80, 3) := by decide +kernel
theorem dX5_ofSketch_98 : decode cX5_ofSketch 98 = .ok (.ireturn, 1) := by decide +kernel
theorem dX5_ofSketch_99 : decode cX5_ofSketch 99 = .ok (.aload_n 0, 1) := by decide +kernel
theorem dX5_ofSketch_100 : decode cX5_ofSketch 100 = .ok (.iload_n 3, 1) := by decide +kernel
theorem dX5_ofSketch_101 : decode cX5_ofSketch 101 = .ok (.invokevirtual 83, 3) := by decide +kernel
theorem dX5_ofSketch_104 : decode cX5_ofSketch 104 = .ok (.ireturn, 1) := by decide +kernel
theorem dX5_ofSketch_105 : decode cX5_ofSketch 105 = .ok (.aload_n 0, 1) := by decide +kernel
theorem dX5_ofSketch_106 : decode cX5_ofSketch 106 = .ok (.iload_n 3, 1) := by decide +kernel
theorem dX5_ofSketch_107 : decode cX5_ofSketch 107 = .ok (.invokevirtual 93, 3) := by decide +kernel
theorem dX5_ofSketch_110 : decode cX5_ofSketch 110 = .ok (.ireturn, 1) := by decide +kernel
theorem dX5_ofSketch_111 : decode cX5_ofSketch 111 = .ok (.aload_n 0, 1) := by decide +kernel
theorem dX5_ofSketch_112 : decode cX5_ofSketch 112 = .ok (.iload_n 1, 1) := by decide +kernel
theorem dX5_ofSketch_113 : decode cX5_ofSketch 113 = .ok (.invokevirtual 156, 3) := by decide +kernel
theorem dX5_ofSketch_116 : decode cX5_ofSketch 116 = .ok (.ireturn, 1) := by decide +kernel
theorem dX5_ofSketch_117 : decode cX5_ofSketch 117 = .ok (.aload_n 0, 1) := by decide +kernel
theorem dX5_ofSketch_118 : decode cX5_ofSketch 118 = .ok (.iload_n 1, 1) := by decide +kernel
theorem dX5_ofSketch_119 : decode cX5_ofSketch 119 = .ok (.iconst 1, 1) := by decide +kernel
theorem dX5_ofSketch_120 : decode cX5_ofSketch 120 = .ok (.invokevirtual 48, 3) := by decide +kernel
theorem dX5_ofSketch_123 : decode cX5_ofSketch 123 = .ok (.ireturn, 1) := by decide +kernel
theorem dX5_ofSketch_124 : decode cX5_ofSketch 124 = .ok (.bipush (-2), 2) := by decide +kernel
theorem dX5_ofSketch_126 : decode cX5_ofSketch 126 = .ok (.ireturn, 1) := by decide +kernel
set_option maxRecDepth 20000 in
theorem ggX5_withRank_X5_isSketch : GoodIn wsX5_withRank wsX5_isSketch := goodIn_r _ [6, 7, 8, 5, 9] (by decide +kernel) (by decide +kernel)
set_option maxRecDepth 20000 in
theorem gX5_withRank_X5_isSketch : GoodIn wsX5_withRank (va_wsS RX5 124 yX5_isSketch wsX5_isSketch) := goodIn_app (goodIn_of _ (by decide +kernel)) ggX5_withRank_X5_isSketch
set_option maxRecDepth 20000 in
theorem ggX5_withRank_X5_within : GoodIn wsX5_withRank wsX5_within := goodIn_r _ [9] (by decide +kernel) (by decide +kernel)
set_option maxRecDepth 20000 in
theorem gX5_withRank_X5_within : GoodIn wsX5_withRank (va_wsS RX5 43 yX5_within wsX5_within) := goodIn_app (goodIn_of _ (by decide +kernel)) ggX5_withRank_X5_within
set_option maxRecDepth 20000 in
theorem ggX5_withRank_X5_bucketsOf : GoodIn wsX5_withRank wsX5_bucketsOf := goodIn_r _ [13, 14, 15, 16, 5, 17, 18, 19, 20, 21, 22, 23, 24, 25, 26, 27, 28, 29, 30, 31] (by decide +kernel) (by decide +kernel)
set_option maxRecDepth 20000 in
theorem gX5_withRank_X5_bucketsOf : GoodIn wsX5_withRank (wsV RX5 59 RX5 yX5_bucketsOf wsX5_bucketsOf) := goodIn_app (goodIn_of _ (by decide +kernel)) ggX5_withRank_X5_bucketsOf
set_option maxRecDepth 20000 in
theorem ggX5_withRank_X5_part : GoodIn wsX5_withRank wsX5_part := goodIn_r _ [17, 18, 19, 20, 21, 22, 23, 24, 25, 26, 27, 28, 29, 30, 31] (by decide +kernel) (by decide +kernel)
set_option maxRecDepth 20000 in
theorem gX5_withRank_X5_part : GoodIn wsX5_withRank (wsV RX5 48 RX5 yX5_part wsX5_part) := goodIn_app (goodIn_of _ (by decide +kernel)) ggX5_withRank_X5_part
theorem dX5_withRank_0 : decode cX5_withRank 0 = .ok (.iload_n 1, 1) := by decide +kernel
theorem dX5_withRank_1 : decode cX5_withRank 1 = .ok (.invokestatic 124, 3) := by decide +kernel
theorem dX5_withRank_4 : decode cX5_withRank 4 = .ok (.ifCond .ne 7, 3) := by decide +kernel
theorem dX5_withRank_7 : decode cX5_withRank 7 = .ok (.ldc2_w 159, 3) := by decide +kernel
theorem dX5_withRank_10 : decode cX5_withRank 10 = .ok (.lreturn, 1) := by decide +kernel
theorem dX5_withRank_11 : decode cX5_withRank 11 = .ok (.iload_n 2, 1) := by decide +kernel
theorem dX5_withRank_12 : decode cX5_withRank 12 = .ok (.iconst 0, 1) := by decide +kernel
theorem dX5_withRank_13 : decode cX5_withRank 13 = .ok (.bipush 15, 2) := by decide +kernel
theorem dX5_withRank_15 : decode cX5_withRank 15 = .ok (.invokestatic 43, 3) := by decide +kernel
theorem dX5_withRank_18 : decode cX5_withRank 18 = .ok (.ifCond .ne 7, 3) := by decide +kernel
theorem dX5_withRank_21 : decode cX5_withRank 21 = .ok (.ldc2_w 161, 3) := by decide +kernel
theorem dX5_withRank_24 : decode cX5_withRank 24 = .ok (.lreturn, 1) := by decide +kernel
theorem dX5_withRank_25 : decode cX5_withRank 25 = .ok (.lconst 0, 1) := by decide +kernel
theorem dX5_withRank_26 : decode cX5_withRank 26 = .ok (.lstore_n 3, 1) := by decide +kernel
theorem dX5_withRank_27 : decode cX5_withRank 27 = .ok (.iconst 0, 1) := by decide +kernel
theorem dX5_withRank_28 : decode cX5_withRank 28 = .ok (.istore 5, 2) := by decide +kernel
theorem dX5_withRank_30 : decode cX5_withRank 30 = .ok (.iload 5, 2) := by decide +kernel
theorem dX5_withRank_32 : decode cX5_withRank 32 = .ok (.aload_n 0, 1) := by decide +kernel
theorem dX5_withRank_33 : decode cX5_withRank 33 = .ok (.iload_n 1, 1) := by decide +kernel
theorem dX5_withRank_34 : decode cX5_withRank 34 = .ok (.invokevirtual 59, 3) := by decide +kernel
theorem dX5_withRank_37 : decode cX5_withRank 37 = .ok (.if_icmp .ge 33, 3) := by decide +kernel
theorem dX5_withRank_40 : decode cX5_withRank 40 = .ok (.lload_n 3, 1) := by decide +kernel
theorem dX5_withRank_41 : decode cX5_withRank 41 = .ok (.aload_n 0, 1) := by decide +kernel
theorem dX5_withRank_42 : decode cX5_withRank 42 = .ok (.iload_n 1, 1) := by decide +kernel
theorem dX5_withRank_43 : decode cX5_withRank 43 = .ok (.iconst 2, 1) := by decide +kernel
theorem dX5_withRank_44 : decode cX5_withRank 44 = .ok (.iload 5, 2) := by decide +kernel
theorem dX5_withRank_46 : decode cX5_withRank 46 = .ok (.iadd, 1) := by decide +kernel
theorem dX5_withRank_47 : decode cX5_withRank 47 = .ok (.invokevirtual 48, 3) := by decide +kernel
theorem dX5_withRank_50 : decode cX5_withRank 50 = .ok (.iload_n 2, 1) := by decide +kernel
theorem dX5_withRank_51 : decode cX5_withRank 51 = .ok (.if_icmp .ne 10, 3) := by decide +kernel
theorem dX5_withRank_54 : decode cX5_withRank 54 = .ok (.lconst 1, 1) := by decide +kernel
theorem dX5_withRank_55 : decode cX5_withRank 55 = .ok (.iload 5, 2) := by decide +kernel
theorem dX5_withRank_57 : decode cX5_withRank 57 = .ok (.lshl, 1) := by decide +kernel
theorem dX5_withRank_58 : decode cX5_withRank 58 = .ok (.goto 4, 3) := by decide +kernel
theorem dX5_withRank_61 : decode cX5_withRank 61 = .ok (.lconst 0, 1) := by decide +kernel
theorem dX5_withRank_62 : decode cX5_withRank 62 = .ok (.lor, 1) := by decide +kernel
theorem dX5_withRank_63 : decode cX5_withRank 63 = .ok (.lstore_n 3, 1) := by decide +kernel
theorem dX5_withRank_64 : decode cX5_withRank 64 = .ok (.iinc 5 1, 3) := by decide +kernel
theorem dX5_withRank_67 : decode cX5_withRank 67 = .ok (.goto (-37), 3) := by decide +kernel
theorem dX5_withRank_70 : decode cX5_withRank 70 = .ok (.lload_n 3, 1) := by decide +kernel
theorem dX5_withRank_71 : decode cX5_withRank 71 = .ok (.lreturn, 1) := by decide +kernel
set_option maxRecDepth 20000 in
theorem ggX5_listed_X5_isSketch : GoodIn wsX5_listed wsX5_isSketch := goodIn_r _ [4, 5, 6, 3, 7] (by decide +kernel) (by decide +kernel)
set_option maxRecDepth 20000 in
theorem gX5_listed_X5_isSketch : GoodIn wsX5_listed (va_wsS RX5 124 yX5_isSketch wsX5_isSketch) := goodIn_app (goodIn_of _ (by decide +kernel)) ggX5_listed_X5_isSketch
set_option maxRecDepth 20000 in
theorem ggX5_listed_X5_part : GoodIn wsX5_listed wsX5_part := goodIn_r _ [11, 12, 13, 14, 15, 16, 17, 18, 19, 20, 21, 22, 23, 24, 25] (by decide +kernel) (by decide +kernel)
set_option maxRecDepth 20000 in
theorem gX5_listed_X5_part : GoodIn wsX5_listed (wsV RX5 48 RX5 yX5_part wsX5_part) := goodIn_app (goodIn_of _ (by decide +kernel)) ggX5_listed_X5_part
set_option maxRecDepth 20000 in
theorem ggX5_listed_X5_within : GoodIn wsX5_listed wsX5_within := goodIn_r _ [7] (by decide +kernel) (by decide +kernel)
set_option maxRecDepth 20000 in
theorem gX5_listed_X5_within : GoodIn wsX5_listed (va_wsS RX5 43 yX5_within wsX5_within) := goodIn_app (goodIn_of _ (by decide +kernel)) ggX5_listed_X5_within
theorem dX5_listed_0 : decode cX5_listed 0 = .ok (.iload_n 1, 1) := by decide +kernel
theorem dX5_listed_1 : decode cX5_listed 1 = .ok (.invokestatic 124, 3) := by decide +kernel
theorem dX5_listed_4 : decode cX5_listed 4 = .ok (.ifCond .eq 31, 3) := by decide +kernel
theorem dX5_listed_7 : decode cX5_listed 7 = .ok (.iload_n 2, 1) := by decide +kernel
theorem dX5_listed_8 : decode cX5_listed 8 = .ok (.iconst 0, 1) := by decide +kernel
theorem dX5_listed_9 : decode cX5_listed 9 = .ok (.aload_n 0, 1) := by decide +kernel
theorem dX5_listed_10 : decode cX5_listed 10 = .ok (.iload_n 1, 1) := by decide +kernel
theorem dX5_listed_11 : decode cX5_listed 11 = .ok (.iconst 1, 1) := by decide +kernel
theorem dX5_listed_12 : decode cX5_listed 12 = .ok (.invokevirtual 48, 3) := by decide +kernel
theorem dX5_listed_15 : decode cX5_listed 15 = .ok (.iconst 1, 1) := by decide +kernel
theorem dX5_listed_16 : decode cX5_listed 16 = .ok (.isub, 1) := by decide +kernel
theorem dX5_listed_17 : decode cX5_listed 17 = .ok (.invokestatic 43, 3) := by decide +kernel
theorem dX5_listed_20 : decode cX5_listed 20 = .ok (.ifCond .eq 15, 3) := by decide +kernel
theorem dX5_listed_23 : decode cX5_listed 23 = .ok (.aload_n 0, 1) := by decide +kernel
theorem dX5_listed_24 : decode cX5_listed 24 = .ok (.iload_n 1, 1) := by decide +kernel
theorem dX5_listed_25 : decode cX5_listed 25 = .ok (.bipush 66, 2) := by decide +kernel
theorem dX5_listed_27 : decode cX5_listed 27 = .ok (.iload_n 2, 1) := by decide +kernel
theorem dX5_listed_28 : decode cX5_listed 28 = .ok (.iadd, 1) := by decide +kernel
theorem dX5_listed_29 : decode cX5_listed 29 = .ok (.invokevirtual 48, 3) := by decide +kernel
theorem dX5_listed_32 : decode cX5_listed 32 = .ok (.goto 4, 3) := by decide +kernel
theorem dX5_listed_35 : decode cX5_listed 35 = .ok (.iconst (-1), 1) := by decide +kernel
theorem dX5_listed_36 : decode cX5_listed 36 = .ok (.ireturn, 1) := by decide +kernel
set_option maxRecDepth 20000 in
theorem ggX5_sketchesFilled_X5_filled : GoodIn wsX5_sketchesFilled wsX5_filled := goodIn_r _ [5, 6, 7, 8, 4, 9, 10, 11, 12, 13, 14, 15, 16, 17, 18, 19, 20, 21, 22, 23, 24, 25, 26, 27] (by decide +kernel) (by decide +kernel)
set_option maxRecDepth 20000 in
theorem gX5_sketchesFilled_X5_filled : GoodIn wsX5_sketchesFilled (wsV RX5 72 RX5 yX5_filled wsX5_filled) := goodIn_app (goodIn_of _ (by decide +kernel)) ggX5_sketchesFilled_X5_filled
theorem dX5_sketchesFilled_0 : decode cX5_sketchesFilled 0 = .ok (.iconst 0, 1) := by decide +kernel
theorem dX5_sketchesFilled_1 : decode cX5_sketchesFilled 1 = .ok (.istore_n 1, 1) := by decide +kernel
theorem dX5_sketchesFilled_2 : decode cX5_sketchesFilled 2 = .ok (.iconst 0, 1) := by decide +kernel
theorem dX5_sketchesFilled_3 : decode cX5_sketchesFilled 3 = .ok (.istore_n 2, 1) := by decide +kernel
theorem dX5_sketchesFilled_4 : decode cX5_sketchesFilled 4 = .ok (.iload_n 2, 1) := by decide +kernel
theorem dX5_sketchesFilled_5 : decode cX5_sketchesFilled 5 = .ok (.bipush 6, 2) := by decide +kernel
theorem dX5_sketchesFilled_7 : decode cX5_sketchesFilled 7 = .ok (.if_icmp .ge 25, 3) := by decide +kernel
theorem dX5_sketchesFilled_10 : decode cX5_sketchesFilled 10 = .ok (.iload_n 1, 1) := by decide +kernel
theorem dX5_sketchesFilled_11 : decode cX5_sketchesFilled 11 = .ok (.aload_n 0, 1) := by decide +kernel
theorem dX5_sketchesFilled_12 : decode cX5_sketchesFilled 12 = .ok (.iload_n 2, 1) := by decide +kernel
theorem dX5_sketchesFilled_13 : decode cX5_sketchesFilled 13 = .ok (.invokevirtual 72, 3) := by decide +kernel
theorem dX5_sketchesFilled_16 : decode cX5_sketchesFilled 16 = .ok (.ifCond .le 7, 3) := by decide +kernel
theorem dX5_sketchesFilled_19 : decode cX5_sketchesFilled 19 = .ok (.iconst 1, 1) := by decide +kernel
theorem dX5_sketchesFilled_20 : decode cX5_sketchesFilled 20 = .ok (.goto 4, 3) := by decide +kernel
theorem dX5_sketchesFilled_23 : decode cX5_sketchesFilled 23 = .ok (.iconst 0, 1) := by decide +kernel
theorem dX5_sketchesFilled_24 : decode cX5_sketchesFilled 24 = .ok (.iadd, 1) := by decide +kernel
theorem dX5_sketchesFilled_25 : decode cX5_sketchesFilled 25 = .ok (.istore_n 1, 1) := by decide +kernel
theorem dX5_sketchesFilled_26 : decode cX5_sketchesFilled 26 = .ok (.iinc 2 1, 3) := by decide +kernel
theorem dX5_sketchesFilled_29 : decode cX5_sketchesFilled 29 = .ok (.goto (-25), 3) := by decide +kernel
theorem dX5_sketchesFilled_32 : decode cX5_sketchesFilled 32 = .ok (.iload_n 1, 1) := by decide +kernel
theorem dX5_sketchesFilled_33 : decode cX5_sketchesFilled 33 = .ok (.ireturn, 1) := by decide +kernel
set_option maxRecDepth 20000 in
theorem ggX5_fullLists_X5_isFull : GoodIn wsX5_fullLists wsX5_isFull := goodIn_r _ [5, 6, 7, 8, 4, 9, 10, 11, 12, 13, 14, 15, 16, 17, 18, 19, 20, 21, 22, 23] (by decide +kernel) (by decide +kernel)
set_option maxRecDepth 20000 in
theorem gX5_fullLists_X5_isFull : GoodIn wsX5_fullLists (wsV RX5 99 RX5 yX5_isFull wsX5_isFull) := goodIn_app (goodIn_of _ (by decide +kernel)) ggX5_fullLists_X5_isFull
theorem dX5_fullLists_0 : decode cX5_fullLists 0 = .ok (.iconst 0, 1) := by decide +kernel
theorem dX5_fullLists_1 : decode cX5_fullLists 1 = .ok (.istore_n 1, 1) := by decide +kernel
theorem dX5_fullLists_2 : decode cX5_fullLists 2 = .ok (.iconst 0, 1) := by decide +kernel
theorem dX5_fullLists_3 : decode cX5_fullLists 3 = .ok (.istore_n 2, 1) := by decide +kernel
theorem dX5_fullLists_4 : decode cX5_fullLists 4 = .ok (.iload_n 2, 1) := by decide +kernel
theorem dX5_fullLists_5 : decode cX5_fullLists 5 = .ok (.bipush 6, 2) := by decide +kernel
theorem dX5_fullLists_7 : decode cX5_fullLists 7 = .ok (.if_icmp .ge 25, 3) := by decide +kernel
theorem dX5_fullLists_10 : decode cX5_fullLists 10 = .ok (.iload_n 1, 1) := by decide +kernel
theorem dX5_fullLists_11 : decode cX5_fullLists 11 = .ok (.aload_n 0, 1) := by decide +kernel
theorem dX5_fullLists_12 : decode cX5_fullLists 12 = .ok (.iload_n 2, 1) := by decide +kernel
theorem dX5_fullLists_13 : decode cX5_fullLists 13 = .ok (.invokevirtual 99, 3) := by decide +kernel
theorem dX5_fullLists_16 : decode cX5_fullLists 16 = .ok (.ifCond .eq 7, 3) := by decide +kernel
theorem dX5_fullLists_19 : decode cX5_fullLists 19 = .ok (.iconst 1, 1) := by decide +kernel
theorem dX5_fullLists_20 : decode cX5_fullLists 20 = .ok (.goto 4, 3) := by decide +kernel
theorem dX5_fullLists_23 : decode cX5_fullLists 23 = .ok (.iconst 0, 1) := by decide +kernel
theorem dX5_fullLists_24 : decode cX5_fullLists 24 = .ok (.iadd, 1) := by decide +kernel
theorem dX5_fullLists_25 : decode cX5_fullLists 25 = .ok (.istore_n 1, 1) := by decide +kernel
theorem dX5_fullLists_26 : decode cX5_fullLists 26 = .ok (.iinc 2 1, 3) := by decide +kernel
theorem dX5_fullLists_29 : decode cX5_fullLists 29 = .ok (.goto (-25), 3) := by decide +kernel
theorem dX5_fullLists_32 : decode cX5_fullLists 32 = .ok (.iload_n 1, 1) := by decide +kernel
theorem dX5_fullLists_33 : decode cX5_fullLists 33 = .ok (.ireturn, 1) := by decide +kernel
set_option maxRecDepth 20000 in
theorem ggX5_count_X5_sketchesFilled : GoodIn wsX5_count wsX5_sketchesFilled := goodIn_r _ [8, 9, 10, 11, 7, 12, 13, 14, 15, 16, 17, 18, 19, 20, 1, 33, 34, 35, 36, 37, 38, 39, 40, 41, 42, 43, 44, 45] (by decide +kernel) (by decide +kernel)
set_option maxRecDepth 20000 in
theorem gX5_count_X5_sketchesFilled : GoodIn wsX5_count (wsV RX5 163 RX5 yX5_sketchesFilled wsX5_sketchesFilled) := goodIn_app (goodIn_of _ (by decide +kernel)) ggX5_count_X5_sketchesFilled
set_option maxRecDepth 20000 in
theorem ggX5_count_X5_allFilled : GoodIn wsX5_count wsX5_allFilled := goodIn_r _ [24, 9, 10, 11, 7, 12, 13, 14, 15, 16, 17, 18, 19, 20, 1, 33, 34, 35, 36, 37, 38, 39, 40, 41, 42, 43, 44, 45] (by decide +kernel) (by decide +kernel)
set_option maxRecDepth 20000 in
theorem gX5_count_X5_allFilled : GoodIn wsX5_count (wsV RX5 167 RX5 yX5_allFilled wsX5_allFilled) := goodIn_app (goodIn_of _ (by decide +kernel)) ggX5_count_X5_allFilled
set_option maxRecDepth 20000 in
theorem ggX5_count_X5_fullLists : GoodIn wsX5_count wsX5_fullLists := goodIn_r _ [28, 29, 30, 31, 7, 32, 17, 18, 19, 20, 1, 33, 34, 35, 36, 37, 38, 39, 40, 41, 42, 43, 44, 45] (by decide +kernel) (by decide +kernel)
set_option maxRecDepth 20000 in
theorem gX5_count_X5_fullLists : GoodIn wsX5_count (wsV RX5 170 RX5 yX5_fullLists wsX5_fullLists) := goodIn_app (goodIn_of _ (by decide +kernel)) ggX5_count_X5_fullLists
theorem dX5_count_0 : decode cX5_count 0 = .ok (.iload_n 1, 1) := by decide +kernel
theorem dX5_count_1 : decode cX5_count 1 = .ok (.tableswitch 71 0 5 #[39, 46, 51, 56, 61, 66], 39) := by decide +kernel
theorem dX5_count_40 : decode cX5_count 40 = .ok (.aload_n 0, 1) := by decide +kernel
theorem dX5_count_41 : decode cX5_count 41 = .ok (.getfield 7, 3) := by decide +kernel
theorem dX5_count_44 : decode cX5_count 44 = .ok (.iconst 0, 1) := by decide +kernel
theorem dX5_count_45 : decode cX5_count 45 = .ok (.iaload, 1) := by decide +kernel
theorem dX5_count_46 : decode cX5_count 46 = .ok (.ireturn, 1) := by decide +kernel
theorem dX5_count_47 : decode cX5_count 47 = .ok (.aload_n 0, 1) := by decide +kernel
theorem dX5_count_48 : decode cX5_count 48 = .ok (.invokevirtual 163, 3) := by decide +kernel
theorem dX5_count_51 : decode cX5_count 51 = .ok (.ireturn, 1) := by decide +kernel
theorem dX5_count_52 : decode cX5_count 52 = .ok (.aload_n 0, 1) := by decide +kernel
theorem dX5_count_53 : decode cX5_count 53 = .ok (.invokevirtual 167, 3) := by decide +kernel
theorem dX5_count_56 : decode cX5_count 56 = .ok (.ireturn, 1) := by decide +kernel
theorem dX5_count_57 : decode cX5_count 57 = .ok (.aload_n 0, 1) := by decide +kernel
theorem dX5_count_58 : decode cX5_count 58 = .ok (.invokevirtual 170, 3) := by decide +kernel
theorem dX5_count_61 : decode cX5_count 61 = .ok (.ireturn, 1) := by decide +kernel
theorem dX5_count_62 : decode cX5_count 62 = .ok (.aload_n 0, 1) := by decide +kernel
theorem dX5_count_63 : decode cX5_count 63 = .ok (.getfield 173, 3) := by decide +kernel
theorem dX5_count_66 : decode cX5_count 66 = .ok (.ireturn, 1) := by decide +kernel
theorem dX5_count_67 : decode cX5_count 67 = .ok (.aload_n 0, 1) := by decide +kernel
theorem dX5_count_68 : decode cX5_count 68 = .ok (.getfield 35, 3) := by decide +kernel
theorem dX5_count_71 : decode cX5_count 71 = .ok (.ireturn, 1) := by decide +kernel
theorem dX5_count_72 : decode cX5_count 72 = .ok (.bipush (-2), 2) := by decide +kernel
theorem dX5_count_74 : decode cX5_count 74 = .ok (.ireturn, 1) := by decide +kernel
set_option maxRecDepth 20000 in
theorem ggX5_together_X5_whyNotJoined : GoodIn wsX5_together wsX5_whyNotJoined := goodIn_r _ [6, 7, 8, 5, 9, 10, 11, 12, 13, 14, 15, 16, 17, 46, 47, 48, 49, 50, 51, 52, 53, 54, 55, 56, 57, 58] (by decide +kernel) (by decide +kernel)
set_option maxRecDepth 20000 in
theorem gX5_together_X5_whyNotJoined : GoodIn wsX5_together (wsV RX5 141 RX5 yX5_whyNotJoined wsX5_whyNotJoined) := goodIn_app (goodIn_of _ (by decide +kernel)) ggX5_together_X5_whyNotJoined
set_option maxRecDepth 20000 in
theorem ggX5_together_X5_takeRanks : GoodIn wsX5_together wsX5_takeRanks := goodIn_r _ [21, 1, 13, 14, 15, 5, 16, 17, 46, 47, 48, 49, 50, 51, 52, 53, 54, 55, 56, 57, 58] (by decide +kernel) (by decide +kernel)
set_option maxRecDepth 20000 in
theorem gX5_together_X5_takeRanks : GoodIn wsX5_together (wsV RX5 89 RX5 yX5_takeRanks wsX5_takeRanks) := goodIn_app (goodIn_of _ (by decide +kernel)) ggX5_together_X5_takeRanks
set_option maxRecDepth 20000 in
theorem ggX5_together_X5_part : GoodIn wsX5_together wsX5_part := goodIn_r _ [16, 17, 46, 47, 48, 49, 50, 51, 52, 53, 54, 55, 56, 57, 58] (by decide +kernel) (by decide +kernel)
set_option maxRecDepth 20000 in
theorem gX5_together_X5_part : GoodIn wsX5_together (wsV RX5 48 RX5 yX5_part wsX5_part) := goodIn_app (goodIn_of _ (by decide +kernel)) ggX5_together_X5_part
set_option maxRecDepth 20000 in
theorem ggX5_together_X5_bucketsOf : GoodIn wsX5_together wsX5_bucketsOf := goodIn_r _ [25, 13, 14, 15, 5, 16, 17, 46, 47, 48, 49, 50, 51, 52, 53, 54, 55, 56, 57, 58] (by decide +kernel) (by decide +kernel)
set_option maxRecDepth 20000 in
theorem gX5_together_X5_bucketsOf : GoodIn wsX5_together (wsV RX5 59 RX5 yX5_bucketsOf wsX5_bucketsOf) := goodIn_app (goodIn_of _ (by decide +kernel)) ggX5_together_X5_bucketsOf
set_option maxRecDepth 20000 in
theorem ggX5_together_X5_estimateBy : GoodIn wsX5_together wsX5_estimateBy := goodIn_r _ [29, 30, 31, 32, 5, 33, 34, 35, 36, 37, 38, 39, 40, 41, 1, 42, 43, 44, 45, 46, 47, 48, 49, 50, 51, 52, 53, 54, 55, 56, 57, 58] (by decide +kernel) (by decide +kernel)
set_option maxRecDepth 20000 in
theorem gX5_together_X5_estimateBy : GoodIn wsX5_together (wsV RX5 93 RX5 yX5_estimateBy wsX5_estimateBy) := goodIn_app (goodIn_of _ (by decide +kernel)) ggX5_together_X5_estimateBy
theorem dX5_together_0 : decode cX5_together 0 = .ok (.aload_n 0, 1) := by decide +kernel
theorem dX5_together_1 : decode cX5_together 1 = .ok (.iload_n 1, 1) := by decide +kernel
theorem dX5_together_2 : decode cX5_together 2 = .ok (.iload_n 2, 1) := by decide +kernel
theorem dX5_together_3 : decode cX5_together 3 = .ok (.invokevirtual 141, 3) := by decide +kernel
theorem dX5_together_6 : decode cX5_together 6 = .ok (.istore_n 3, 1) := by decide +kernel
theorem dX5_together_7 : decode cX5_together 7 = .ok (.iload_n 3, 1) := by decide +kernel
theorem dX5_together_8 : decode cX5_together 8 = .ok (.ifCond .ge 15, 3) := by decide +kernel
theorem dX5_together_11 : decode cX5_together 11 = .ok (.iload_n 3, 1) := by decide +kernel
theorem dX5_together_12 : decode cX5_together 12 = .ok (.iconst (-1), 1) := by decide +kernel
theorem dX5_together_13 : decode cX5_together 13 = .ok (.if_icmp .eq 8, 3) := by decide +kernel
theorem dX5_together_16 : decode cX5_together 16 = .ok (.iload_n 1, 1) := by decide +kernel
theorem dX5_together_17 : decode cX5_together 17 = .ok (.iload_n 2, 1) := by decide +kernel
theorem dX5_together_18 : decode cX5_together 18 = .ok (.if_icmp .eq 5, 3) := by decide +kernel
theorem dX5_together_21 : decode cX5_together 21 = .ok (.iload_n 3, 1) := by decide +kernel
theorem dX5_together_22 : decode cX5_together 22 = .ok (.ireturn, 1) := by decide +kernel
theorem dX5_together_23 : decode cX5_together 23 = .ok (.aload_n 0, 1) := by decide +kernel
theorem dX5_together_24 : decode cX5_together 24 = .ok (.iload_n 1, 1) := by decide +kernel
theorem dX5_together_25 : decode cX5_together 25 = .ok (.invokevirtual 89, 3) := by decide +kernel
theorem dX5_together_28 : decode cX5_together 28 = .ok (.iconst 0, 1) := by decide +kernel
theorem dX5_together_29 : decode cX5_together 29 = .ok (.istore 4, 2) := by decide +kernel
theorem dX5_together_31 : decode cX5_together 31 = .ok (.iload 4, 2) := by decide +kernel
theorem dX5_together_33 : decode cX5_together 33 = .ok (.bipush 64, 2) := by decide +kernel
theorem dX5_together_35 : decode cX5_together 35 = .ok (.if_icmp .ge 54, 3) := by decide +kernel
theorem dX5_together_38 : decode cX5_together 38 = .ok (.aload_n 0, 1) := by decide +kernel
theorem dX5_together_39 : decode cX5_together 39 = .ok (.getfield 25, 3) := by decide +kernel
theorem dX5_together_42 : decode cX5_together 42 = .ok (.iload 4, 2) := by decide +kernel
theorem dX5_together_44 : decode cX5_together 44 = .ok (.aload_n 0, 1) := by decide +kernel
theorem dX5_together_45 : decode cX5_together 45 = .ok (.iload_n 2, 1) := by decide +kernel
theorem dX5_together_46 : decode cX5_together 46 = .ok (.iconst 2, 1) := by decide +kernel
theorem dX5_together_47 : decode cX5_together 47 = .ok (.iload 4, 2) := by decide +kernel
theorem dX5_together_49 : decode cX5_together 49 = .ok (.iadd, 1) := by decide +kernel
theorem dX5_together_50 : decode cX5_together 50 = .ok (.invokevirtual 48, 3) := by decide +kernel
theorem dX5_together_53 : decode cX5_together 53 = .ok (.aload_n 0, 1) := by decide +kernel
theorem dX5_together_54 : decode cX5_together 54 = .ok (.getfield 25, 3) := by decide +kernel
theorem dX5_together_57 : decode cX5_together 57 = .ok (.iload 4, 2) := by decide +kernel
theorem dX5_together_59 : decode cX5_together 59 = .ok (.iaload, 1) := by decide +kernel
theorem dX5_together_60 : decode cX5_together 60 = .ok (.if_icmp .le 15, 3) := by decide +kernel
theorem dX5_together_63 : decode cX5_together 63 = .ok (.aload_n 0, 1) := by decide +kernel
theorem dX5_together_64 : decode cX5_together 64 = .ok (.iload_n 2, 1) := by decide +kernel
theorem dX5_together_65 : decode cX5_together 65 = .ok (.iconst 2, 1) := by decide +kernel
theorem dX5_together_66 : decode cX5_together 66 = .ok (.iload 4, 2) := by decide +kernel
theorem dX5_together_68 : decode cX5_together 68 = .ok (.iadd, 1) := by decide +kernel
theorem dX5_together_69 : decode cX5_together 69 = .ok (.invokevirtual 48, 3) := by decide +kernel
theorem dX5_together_72 : decode cX5_together 72 = .ok (.goto 10, 3) := by decide +kernel
theorem dX5_together_75 : decode cX5_together 75 = .ok (.aload_n 0, 1) := by decide +kernel
theorem dX5_together_76 : decode cX5_together 76 = .ok (.getfield 25, 3) := by decide +kernel
theorem dX5_together_79 : decode cX5_together 79 = .ok (.iload 4, 2) := by decide +kernel
theorem dX5_together_81 : decode cX5_together 81 = .ok (.iaload, 1) := by decide +kernel
theorem dX5_together_82 : decode cX5_together 82 = .ok (.iastore, 1) := by decide +kernel
theorem dX5_together_83 : decode cX5_together 83 = .ok (.iinc 4 1, 3) := by decide +kernel
theorem dX5_together_86 : decode cX5_together 86 = .ok (.goto (-55), 3) := by decide +kernel
theorem dX5_together_89 : decode cX5_together 89 = .ok (.aload_n 0, 1) := by decide +kernel
theorem dX5_together_90 : decode cX5_together 90 = .ok (.aload_n 0, 1) := by decide +kernel
theorem dX5_together_91 : decode cX5_together 91 = .ok (.iload_n 1, 1) := by decide +kernel
theorem dX5_together_92 : decode cX5_together 92 = .ok (.invokevirtual 59, 3) := by decide +kernel
theorem dX5_together_95 : decode cX5_together 95 = .ok (.invokevirtual 93, 3) := by decide +kernel
theorem dX5_together_98 : decode cX5_together 98 = .ok (.ireturn, 1) := by decide +kernel
theorem dX5_shareBits_0 : decode cX5_shareBits 0 = .ok (.iload_n 0, 1) := by decide +kernel
theorem dX5_shareBits_1 : decode cX5_shareBits 1 = .ok (.ifCond .ne 5, 3) := by decide +kernel
theorem dX5_shareBits_4 : decode cX5_shareBits 4 = .ok (.iconst 0, 1) := by decide +kernel
theorem dX5_shareBits_5 : decode cX5_shareBits 5 = .ok (.ireturn, 1) := by decide +kernel
theorem dX5_shareBits_6 : decode cX5_shareBits 6 = .ok (.iconst 0, 1) := by decide +kernel
theorem dX5_shareBits_7 : decode cX5_shareBits 7 = .ok (.istore_n 2, 1) := by decide +kernel
theorem dX5_shareBits_8 : decode cX5_shareBits 8 = .ok (.iload_n 0, 1) := by decide +kernel
theorem dX5_shareBits_9 : decode cX5_shareBits 9 = .ok (.iload_n 2, 1) := by decide +kernel
theorem dX5_shareBits_10 : decode cX5_shareBits 10 = .ok (.ishr, 1) := by decide +kernel
theorem dX5_shareBits_11 : decode cX5_shareBits 11 = .ok (.iconst 1, 1) := by decide +kernel
theorem dX5_shareBits_12 : decode cX5_shareBits 12 = .ok (.if_icmp .le 9, 3) := by decide +kernel
theorem dX5_shareBits_15 : decode cX5_shareBits 15 = .ok (.iinc 2 1, 3) := by decide +kernel
theorem dX5_shareBits_18 : decode cX5_shareBits 18 = .ok (.goto (-10), 3) := by decide +kernel
theorem dX5_shareBits_21 : decode cX5_shareBits 21 = .ok (.bipush 127, 2) := by decide +kernel
theorem dX5_shareBits_23 : decode cX5_shareBits 23 = .ok (.iload_n 2, 1) := by decide +kernel
theorem dX5_shareBits_24 : decode cX5_shareBits 24 = .ok (.iadd, 1) := by decide +kernel
theorem dX5_shareBits_25 : decode cX5_shareBits 25 = .ok (.iload_n 1, 1) := by decide +kernel
theorem dX5_shareBits_26 : decode cX5_shareBits 26 = .ok (.isub, 1) := by decide +kernel
theorem dX5_shareBits_27 : decode cX5_shareBits 27 = .ok (.bipush 23, 2) := by decide +kernel
theorem dX5_shareBits_29 : decode cX5_shareBits 29 = .ok (.ishl, 1) := by decide +kernel
theorem dX5_shareBits_30 : decode cX5_shareBits 30 = .ok (.iload_n 0, 1) := by decide +kernel
theorem dX5_shareBits_31 : decode cX5_shareBits 31 = .ok (.iconst 1, 1) := by decide +kernel
theorem dX5_shareBits_32 : decode cX5_shareBits 32 = .ok (.iload_n 2, 1) := by decide +kernel
theorem dX5_shareBits_33 : decode cX5_shareBits 33 = .ok (.ishl, 1) := by decide +kernel
theorem dX5_shareBits_34 : decode cX5_shareBits 34 = .ok (.isub, 1) := by decide +kernel
theorem dX5_shareBits_35 : decode cX5_shareBits 35 = .ok (.bipush 23, 2) := by decide +kernel
theorem dX5_shareBits_37 : decode cX5_shareBits 37 = .ok (.iload_n 2, 1) := by decide +kernel
theorem dX5_shareBits_38 : decode cX5_shareBits 38 = .ok (.isub, 1) := by decide +kernel
theorem dX5_shareBits_39 : decode cX5_shareBits 39 = .ok (.ishl, 1) := by decide +kernel
theorem dX5_shareBits_40 : decode cX5_shareBits 40 = .ok (.iadd, 1) := by decide +kernel
theorem dX5_shareBits_41 : decode cX5_shareBits 41 = .ok (.ireturn, 1) := by decide +kernel
set_option maxRecDepth 20000 in
theorem ggX5_alike_X5_whyNotJoined : GoodIn wsX5_alike wsX5_whyNotJoined := goodIn_r _ [5, 6, 7, 4, 8, 9, 10, 11, 12, 13, 14, 15, 16, 24, 25, 26, 27, 28, 29, 30, 31, 32, 33, 34, 35, 36] (by decide +kernel) (by decide +kernel)
set_option maxRecDepth 20000 in
theorem gX5_alike_X5_whyNotJoined : GoodIn wsX5_alike (wsV RX5 141 RX5 yX5_whyNotJoined wsX5_whyNotJoined) := goodIn_app (goodIn_of _ (by decide +kernel)) ggX5_alike_X5_whyNotJoined
set_option maxRecDepth 20000 in
theorem ggX5_alike_X5_bucketsOf : GoodIn wsX5_alike wsX5_bucketsOf := goodIn_r _ [20, 12, 13, 14, 4, 15, 16, 24, 25, 26, 27, 28, 29, 30, 31, 32, 33, 34, 35, 36] (by decide +kernel) (by decide +kernel)
set_option maxRecDepth 20000 in
theorem gX5_alike_X5_bucketsOf : GoodIn wsX5_alike (wsV RX5 59 RX5 yX5_bucketsOf wsX5_bucketsOf) := goodIn_app (goodIn_of _ (by decide +kernel)) ggX5_alike_X5_bucketsOf
set_option maxRecDepth 20000 in
theorem ggX5_alike_X5_part : GoodIn wsX5_alike wsX5_part := goodIn_r _ [15, 16, 24, 25, 26, 27, 28, 29, 30, 31, 32, 33, 34, 35, 36] (by decide +kernel) (by decide +kernel)
set_option maxRecDepth 20000 in
theorem gX5_alike_X5_part : GoodIn wsX5_alike (wsV RX5 48 RX5 yX5_part wsX5_part) := goodIn_app (goodIn_of _ (by decide +kernel)) ggX5_alike_X5_part
set_option maxRecDepth 20000 in
theorem ggX5_alike_X5_shareBits : GoodIn wsX5_alike wsX5_shareBits := goodIn_r _ [23] (by decide +kernel) (by decide +kernel)
set_option maxRecDepth 20000 in
theorem gX5_alike_X5_shareBits : GoodIn wsX5_alike (va_wsS RX5 176 yX5_shareBits wsX5_shareBits) := goodIn_app (goodIn_of _ (by decide +kernel)) ggX5_alike_X5_shareBits
theorem dX5_alike_0 : decode cX5_alike 0 = .ok (.aload_n 0, 1) := by decide +kernel
theorem dX5_alike_1 : decode cX5_alike 1 = .ok (.iload_n 1, 1) := by decide +kernel
theorem dX5_alike_2 : decode cX5_alike 2 = .ok (.iload_n 2, 1) := by decide +kernel
theorem dX5_alike_3 : decode cX5_alike 3 = .ok (.invokevirtual 141, 3) := by decide +kernel
theorem dX5_alike_6 : decode cX5_alike 6 = .ok (.istore_n 3, 1) := by decide +kernel
theorem dX5_alike_7 : decode cX5_alike 7 = .ok (.iload_n 3, 1) := by decide +kernel
theorem dX5_alike_8 : decode cX5_alike 8 = .ok (.ifCond .ge 15, 3) := by decide +kernel
theorem dX5_alike_11 : decode cX5_alike 11 = .ok (.iload_n 3, 1) := by decide +kernel
theorem dX5_alike_12 : decode cX5_alike 12 = .ok (.iconst (-1), 1) := by decide +kernel
theorem dX5_alike_13 : decode cX5_alike 13 = .ok (.if_icmp .eq 8, 3) := by decide +kernel
theorem dX5_alike_16 : decode cX5_alike 16 = .ok (.iload_n 1, 1) := by decide +kernel
theorem dX5_alike_17 : decode cX5_alike 17 = .ok (.iload_n 2, 1) := by decide +kernel
theorem dX5_alike_18 : decode cX5_alike 18 = .ok (.if_icmp .eq 5, 3) := by decide +kernel
theorem dX5_alike_21 : decode cX5_alike 21 = .ok (.iload_n 3, 1) := by decide +kernel
theorem dX5_alike_22 : decode cX5_alike 22 = .ok (.ireturn, 1) := by decide +kernel
theorem dX5_alike_23 : decode cX5_alike 23 = .ok (.iconst 0, 1) := by decide +kernel
theorem dX5_alike_24 : decode cX5_alike 24 = .ok (.istore 4, 2) := by decide +kernel
theorem dX5_alike_26 : decode cX5_alike 26 = .ok (.iconst 0, 1) := by decide +kernel
theorem dX5_alike_27 : decode cX5_alike 27 = .ok (.istore 5, 2) := by decide +kernel
theorem dX5_alike_29 : decode cX5_alike 29 = .ok (.iload 5, 2) := by decide +kernel
theorem dX5_alike_31 : decode cX5_alike 31 = .ok (.aload_n 0, 1) := by decide +kernel
theorem dX5_alike_32 : decode cX5_alike 32 = .ok (.iload_n 1, 1) := by decide +kernel
theorem dX5_alike_33 : decode cX5_alike 33 = .ok (.invokevirtual 59, 3) := by decide +kernel
theorem dX5_alike_36 : decode cX5_alike 36 = .ok (.if_icmp .ge 40, 3) := by decide +kernel
theorem dX5_alike_39 : decode cX5_alike 39 = .ok (.iload 4, 2) := by decide +kernel
theorem dX5_alike_41 : decode cX5_alike 41 = .ok (.aload_n 0, 1) := by decide +kernel
theorem dX5_alike_42 : decode cX5_alike 42 = .ok (.iload_n 1, 1) := by decide +kernel
theorem dX5_alike_43 : decode cX5_alike 43 = .ok (.iconst 2, 1) := by decide +kernel
theorem dX5_alike_44 : decode cX5_alike 44 = .ok (.iload 5, 2) := by decide +kernel
theorem dX5_alike_46 : decode cX5_alike 46 = .ok (.iadd, 1) := by decide +kernel
theorem dX5_alike_47 : decode cX5_alike 47 = .ok (.invokevirtual 48, 3) := by decide +kernel
theorem dX5_alike_50 : decode cX5_alike 50 = .ok (.aload_n 0, 1) := by decide +kernel
theorem dX5_alike_51 : decode cX5_alike 51 = .ok (.iload_n 2, 1) := by decide +kernel
theorem dX5_alike_52 : decode cX5_alike 52 = .ok (.iconst 2, 1) := by decide +kernel
theorem dX5_alike_53 : decode cX5_alike 53 = .ok (.iload 5, 2) := by decide +kernel
theorem dX5_alike_55 : decode cX5_alike 55 = .ok (.iadd, 1) := by decide +kernel
theorem dX5_alike_56 : decode cX5_alike 56 = .ok (.invokevirtual 48, 3) := by decide +kernel
theorem dX5_alike_59 : decode cX5_alike 59 = .ok (.if_icmp .ne 7, 3) := by decide +kernel
theorem dX5_alike_62 : decode cX5_alike 62 = .ok (.iconst 1, 1) := by decide +kernel
theorem dX5_alike_63 : decode cX5_alike 63 = .ok (.goto 4, 3) := by decide +kernel
theorem dX5_alike_66 : decode cX5_alike 66 = .ok (.iconst 0, 1) := by decide +kernel
theorem dX5_alike_67 : decode cX5_alike 67 = .ok (.iadd, 1) := by decide +kernel
theorem dX5_alike_68 : decode cX5_alike 68 = .ok (.istore 4, 2) := by decide +kernel
theorem dX5_alike_70 : decode cX5_alike 70 = .ok (.iinc 5 1, 3) := by decide +kernel
theorem dX5_alike_73 : decode cX5_alike 73 = .ok (.goto (-44), 3) := by decide +kernel
theorem dX5_alike_76 : decode cX5_alike 76 = .ok (.iload 4, 2) := by decide +kernel
theorem dX5_alike_78 : decode cX5_alike 78 = .ok (.aload_n 0, 1) := by decide +kernel
theorem dX5_alike_79 : decode cX5_alike 79 = .ok (.iload_n 1, 1) := by decide +kernel
theorem dX5_alike_80 : decode cX5_alike 80 = .ok (.iconst 0, 1) := by decide +kernel
theorem dX5_alike_81 : decode cX5_alike 81 = .ok (.invokevirtual 48, 3) := by decide +kernel
theorem dX5_alike_84 : decode cX5_alike 84 = .ok (.invokestatic 176, 3) := by decide +kernel
theorem dX5_alike_87 : decode cX5_alike 87 = .ok (.ireturn, 1) := by decide +kernel
set_option maxRecDepth 20000 in
theorem ggX5_off_X5_isSketch : GoodIn wsX5_off wsX5_isSketch := goodIn_r _ [5, 6, 7, 4, 8] (by decide +kernel) (by decide +kernel)
set_option maxRecDepth 20000 in
theorem gX5_off_X5_isSketch : GoodIn wsX5_off (va_wsS RX5 124 yX5_isSketch wsX5_isSketch) := goodIn_app (goodIn_of _ (by decide +kernel)) ggX5_off_X5_isSketch
set_option maxRecDepth 20000 in
theorem ggX5_off_X5_isFull : GoodIn wsX5_off wsX5_isFull := goodIn_r _ [12, 13, 14, 15, 4, 16, 17, 51, 52, 53, 54, 55, 56, 57, 58, 59, 60, 61, 62, 63] (by decide +kernel) (by decide +kernel)
set_option maxRecDepth 20000 in
theorem gX5_off_X5_isFull : GoodIn wsX5_off (wsV RX5 99 RX5 yX5_isFull wsX5_isFull) := goodIn_app (goodIn_of _ (by decide +kernel)) ggX5_off_X5_isFull
set_option maxRecDepth 20000 in
theorem ggX5_off_X5_estimateOf : GoodIn wsX5_off wsX5_estimateOf := goodIn_r _ [21, 22, 23, 24, 4, 25, 26, 13, 14, 15, 16, 17, 27, 28, 29, 30, 31, 32, 33, 34, 35, 36, 37, 38, 39, 40, 41, 42, 43, 44, 45, 46, 47, 48, 49, 50, 51, 52, 53, 54, 55, 56, 57, 58, 59, 60, 61, 62, 63] (by decide +kernel) (by decide +kernel)
set_option maxRecDepth 20000 in
theorem gX5_off_X5_estimateOf : GoodIn wsX5_off (wsV RX5 96 RX5 yX5_estimateOf wsX5_estimateOf) := goodIn_app (goodIn_of _ (by decide +kernel)) ggX5_off_X5_estimateOf
set_option maxRecDepth 20000 in
theorem ggX5_off_X5_part : GoodIn wsX5_off wsX5_part := goodIn_r _ [16, 17, 51, 52, 53, 54, 55, 56, 57, 58, 59, 60, 61, 62, 63] (by decide +kernel) (by decide +kernel)
set_option maxRecDepth 20000 in
theorem gX5_off_X5_part : GoodIn wsX5_off (wsV RX5 48 RX5 yX5_part wsX5_part) := goodIn_app (goodIn_of _ (by decide +kernel)) ggX5_off_X5_part
theorem dX5_off_0 : decode cX5_off 0 = .ok (.iload_n 1, 1) := by decide +kernel
theorem dX5_off_1 : decode cX5_off 1 = .ok (.invokestatic 124, 3) := by decide +kernel
theorem dX5_off_4 : decode cX5_off 4 = .ok (.ifCond .ne 5, 3) := by decide +kernel
theorem dX5_off_7 : decode cX5_off 7 = .ok (.iconst (-1), 1) := by decide +kernel
theorem dX5_off_8 : decode cX5_off 8 = .ok (.ireturn, 1) := by decide +kernel
theorem dX5_off_9 : decode cX5_off 9 = .ok (.aload_n 0, 1) := by decide +kernel
theorem dX5_off_10 : decode cX5_off 10 = .ok (.iload_n 1, 1) := by decide +kernel
theorem dX5_off_11 : decode cX5_off 11 = .ok (.invokevirtual 99, 3) := by decide +kernel
theorem dX5_off_14 : decode cX5_off 14 = .ok (.ifCond .eq 8, 3) := by decide +kernel
theorem dX5_off_17 : decode cX5_off 17 = .ok (.bipush (-5), 2) := by decide +kernel
theorem dX5_off_19 : decode cX5_off 19 = .ok (.goto 18, 3) := by decide +kernel
theorem dX5_off_22 : decode cX5_off 22 = .ok (.aload_n 0, 1) := by decide +kernel
theorem dX5_off_23 : decode cX5_off 23 = .ok (.iload_n 1, 1) := by decide +kernel
theorem dX5_off_24 : decode cX5_off 24 = .ok (.invokevirtual 96, 3) := by decide +kernel
theorem dX5_off_27 : decode cX5_off 27 = .ok (.aload_n 0, 1) := by decide +kernel
theorem dX5_off_28 : decode cX5_off 28 = .ok (.iload_n 1, 1) := by decide +kernel
theorem dX5_off_29 : decode cX5_off 29 = .ok (.iconst 1, 1) := by decide +kernel
theorem dX5_off_30 : decode cX5_off 30 = .ok (.invokevirtual 48, 3) := by decide +kernel
theorem dX5_off_33 : decode cX5_off 33 = .ok (.isub, 1) := by decide +kernel
theorem dX5_off_34 : decode cX5_off 34 = .ok (.ldc 133, 2) := by decide +kernel
theorem dX5_off_36 : decode cX5_off 36 = .ok (.iadd, 1) := by decide +kernel
theorem dX5_off_37 : decode cX5_off 37 = .ok (.ireturn, 1) := by decide +kernel
set_option maxRecDepth 20000 in
theorem ggX5_nextNew_X5_isSketch : GoodIn wsX5_nextNew wsX5_isSketch := goodIn_r _ [5, 6, 7, 4, 8] (by decide +kernel) (by decide +kernel)
set_option maxRecDepth 20000 in
theorem gX5_nextNew_X5_isSketch : GoodIn wsX5_nextNew (va_wsS RX5 124 yX5_isSketch wsX5_isSketch) := goodIn_app (goodIn_of _ (by decide +kernel)) ggX5_nextNew_X5_isSketch
set_option maxRecDepth 20000 in
theorem ggX5_nextNew_X5_isThing : GoodIn wsX5_nextNew wsX5_isThing := goodIn_r _ [11, 12, 6, 7, 4, 8] (by decide +kernel) (by decide +kernel)
set_option maxRecDepth 20000 in
theorem gX5_nextNew_X5_isThing : GoodIn wsX5_nextNew (va_wsS RX5 127 yX5_isThing wsX5_isThing) := goodIn_app (goodIn_of _ (by decide +kernel)) ggX5_nextNew_X5_isThing
set_option maxRecDepth 20000 in
theorem ggX5_nextNew_X5_wouldChange : GoodIn wsX5_nextNew wsX5_wouldChange := goodIn_r _ [16, 17, 18, 19, 4, 20, 21, 22, 23, 24, 25, 26, 27, 28, 29, 30, 31, 32, 33, 34, 35, 36, 37, 38, 39, 40, 41, 42, 43, 44, 45, 46, 47, 48, 49, 50, 51, 52, 53, 54] (by decide +kernel) (by decide +kernel)
set_option maxRecDepth 20000 in
theorem gX5_nextNew_X5_wouldChange : GoodIn wsX5_nextNew (wsV RX5 110 RX5 yX5_wouldChange wsX5_wouldChange) := goodIn_app (goodIn_of _ (by decide +kernel)) ggX5_nextNew_X5_wouldChange
theorem dX5_nextNew_0 : decode cX5_nextNew 0 = .ok (.iload_n 1, 1) := by decide +kernel
theorem dX5_nextNew_1 : decode cX5_nextNew 1 = .ok (.invokestatic 124, 3) := by decide +kernel
theorem dX5_nextNew_4 : decode cX5_nextNew 4 = .ok (.ifCond .ne 5, 3) := by decide +kernel
theorem dX5_nextNew_7 : decode cX5_nextNew 7 = .ok (.iconst (-1), 1) := by decide +kernel
theorem dX5_nextNew_8 : decode cX5_nextNew 8 = .ok (.ireturn, 1) := by decide +kernel
theorem dX5_nextNew_9 : decode cX5_nextNew 9 = .ok (.iload_n 2, 1) := by decide +kernel
theorem dX5_nextNew_10 : decode cX5_nextNew 10 = .ok (.invokestatic 127, 3) := by decide +kernel
theorem dX5_nextNew_13 : decode cX5_nextNew 13 = .ok (.ifCond .ne 6, 3) := by decide +kernel
theorem dX5_nextNew_16 : decode cX5_nextNew 16 = .ok (.bipush (-2), 2) := by decide +kernel
theorem dX5_nextNew_18 : decode cX5_nextNew 18 = .ok (.ireturn, 1) := by decide +kernel
theorem dX5_nextNew_19 : decode cX5_nextNew 19 = .ok (.iload_n 2, 1) := by decide +kernel
theorem dX5_nextNew_20 : decode cX5_nextNew 20 = .ok (.istore_n 3, 1) := by decide +kernel
theorem dX5_nextNew_21 : decode cX5_nextNew 21 = .ok (.iload_n 3, 1) := by decide +kernel
theorem dX5_nextNew_22 : decode cX5_nextNew 22 = .ok (.ldc 133, 2) := by decide +kernel
theorem dX5_nextNew_24 : decode cX5_nextNew 24 = .ok (.if_icmp .ge 20, 3) := by decide +kernel
theorem dX5_nextNew_27 : decode cX5_nextNew 27 = .ok (.aload_n 0, 1) := by decide +kernel
theorem dX5_nextNew_28 : decode cX5_nextNew 28 = .ok (.iload_n 1, 1) := by decide +kernel
theorem dX5_nextNew_29 : decode cX5_nextNew 29 = .ok (.iload_n 3, 1) := by decide +kernel
theorem dX5_nextNew_30 : decode cX5_nextNew 30 = .ok (.invokevirtual 110, 3) := by decide +kernel
theorem dX5_nextNew_33 : decode cX5_nextNew 33 = .ok (.ifCond .eq 5, 3) := by decide +kernel
theorem dX5_nextNew_36 : decode cX5_nextNew 36 = .ok (.iload_n 3, 1) := by decide +kernel
theorem dX5_nextNew_37 : decode cX5_nextNew 37 = .ok (.ireturn, 1) := by decide +kernel
theorem dX5_nextNew_38 : decode cX5_nextNew 38 = .ok (.iinc 3 1, 3) := by decide +kernel
theorem dX5_nextNew_41 : decode cX5_nextNew 41 = .ok (.goto (-20), 3) := by decide +kernel
theorem dX5_nextNew_44 : decode cX5_nextNew 44 = .ok (.bipush (-6), 2) := by decide +kernel
theorem dX5_nextNew_46 : decode cX5_nextNew 46 = .ok (.ireturn, 1) := by decide +kernel
set_option maxRecDepth 20000 in
theorem ggX5_takeRanksBy_X5_part : GoodIn wsX5_takeRanksBy wsX5_part := goodIn_r _ [6, 7, 20, 21, 22, 23, 24, 25, 26, 27, 28, 29, 30, 31, 32] (by decide +kernel) (by decide +kernel)
set_option maxRecDepth 20000 in
theorem gX5_takeRanksBy_X5_part : GoodIn wsX5_takeRanksBy (wsV RX5 48 RX5 yX5_part wsX5_part) := goodIn_app (goodIn_of _ (by decide +kernel)) ggX5_takeRanksBy_X5_part
set_option maxRecDepth 20000 in
theorem ggX5_takeRanksBy_X5_hashOf : GoodIn wsX5_takeRanksBy wsX5_hashOf := goodIn_r _ [10, 11, 12] (by decide +kernel) (by decide +kernel)
set_option maxRecDepth 20000 in
theorem gX5_takeRanksBy_X5_hashOf : GoodIn wsX5_takeRanksBy (va_wsS RX5 56 yX5_hashOf wsX5_hashOf) := goodIn_app (goodIn_of _ (by decide +kernel)) ggX5_takeRanksBy_X5_hashOf
set_option maxRecDepth 20000 in
theorem ggX5_takeRanksBy_X5_bucketsOf : GoodIn wsX5_takeRanksBy wsX5_bucketsOf := goodIn_r _ [16, 2, 3, 4, 5, 6, 7, 20, 21, 22, 23, 24, 25, 26, 27, 28, 29, 30, 31, 32] (by decide +kernel) (by decide +kernel)
set_option maxRecDepth 20000 in
theorem gX5_takeRanksBy_X5_bucketsOf : GoodIn wsX5_takeRanksBy (wsV RX5 59 RX5 yX5_bucketsOf wsX5_bucketsOf) := goodIn_app (goodIn_of _ (by decide +kernel)) ggX5_takeRanksBy_X5_bucketsOf
set_option maxRecDepth 20000 in
theorem ggX5_takeRanksBy_X5_rankOf : GoodIn wsX5_takeRanksBy wsX5_rankOf := goodIn_r _ [19] (by decide +kernel) (by decide +kernel)
set_option maxRecDepth 20000 in
theorem gX5_takeRanksBy_X5_rankOf : GoodIn wsX5_takeRanksBy (va_wsS RX5 63 yX5_rankOf wsX5_rankOf) := goodIn_app (goodIn_of _ (by decide +kernel)) ggX5_takeRanksBy_X5_rankOf
theorem dX5_takeRanksBy_0 : decode cX5_takeRanksBy 0 = .ok (.iconst 0, 1) := by decide +kernel
theorem dX5_takeRanksBy_1 : decode cX5_takeRanksBy 1 = .ok (.istore_n 3, 1) := by decide +kernel
theorem dX5_takeRanksBy_2 : decode cX5_takeRanksBy 2 = .ok (.iload_n 3, 1) := by decide +kernel
theorem dX5_takeRanksBy_3 : decode cX5_takeRanksBy 3 = .ok (.bipush 64, 2) := by decide +kernel
theorem dX5_takeRanksBy_5 : decode cX5_takeRanksBy 5 = .ok (.if_icmp .ge 16, 3) := by decide +kernel
theorem dX5_takeRanksBy_8 : decode cX5_takeRanksBy 8 = .ok (.aload_n 0, 1) := by decide +kernel
theorem dX5_takeRanksBy_9 : decode cX5_takeRanksBy 9 = .ok (.getfield 25, 3) := by decide +kernel
theorem dX5_takeRanksBy_12 : decode cX5_takeRanksBy 12 = .ok (.iload_n 3, 1) := by decide +kernel
theorem dX5_takeRanksBy_13 : decode cX5_takeRanksBy 13 = .ok (.iconst 0, 1) := by decide +kernel
theorem dX5_takeRanksBy_14 : decode cX5_takeRanksBy 14 = .ok (.iastore, 1) := by decide +kernel
theorem dX5_takeRanksBy_15 : decode cX5_takeRanksBy 15 = .ok (.iinc 3 1, 3) := by decide +kernel
theorem dX5_takeRanksBy_18 : decode cX5_takeRanksBy 18 = .ok (.goto (-16), 3) := by decide +kernel
theorem dX5_takeRanksBy_21 : decode cX5_takeRanksBy 21 = .ok (.iconst 0, 1) := by decide +kernel
theorem dX5_takeRanksBy_22 : decode cX5_takeRanksBy 22 = .ok (.istore_n 3, 1) := by decide +kernel
theorem dX5_takeRanksBy_23 : decode cX5_takeRanksBy 23 = .ok (.iload_n 3, 1) := by decide +kernel
theorem dX5_takeRanksBy_24 : decode cX5_takeRanksBy 24 = .ok (.aload_n 0, 1) := by decide +kernel
theorem dX5_takeRanksBy_25 : decode cX5_takeRanksBy 25 = .ok (.iload_n 1, 1) := by decide +kernel
theorem dX5_takeRanksBy_26 : decode cX5_takeRanksBy 26 = .ok (.iconst 1, 1) := by decide +kernel
theorem dX5_takeRanksBy_27 : decode cX5_takeRanksBy 27 = .ok (.invokevirtual 48, 3) := by decide +kernel
theorem dX5_takeRanksBy_30 : decode cX5_takeRanksBy 30 = .ok (.if_icmp .ge 78, 3) := by decide +kernel
theorem dX5_takeRanksBy_33 : decode cX5_takeRanksBy 33 = .ok (.aload_n 0, 1) := by decide +kernel
theorem dX5_takeRanksBy_34 : decode cX5_takeRanksBy 34 = .ok (.iload_n 1, 1) := by decide +kernel
theorem dX5_takeRanksBy_35 : decode cX5_takeRanksBy 35 = .ok (.bipush 66, 2) := by decide +kernel
theorem dX5_takeRanksBy_37 : decode cX5_takeRanksBy 37 = .ok (.iload_n 3, 1) := by decide +kernel
theorem dX5_takeRanksBy_38 : decode cX5_takeRanksBy 38 = .ok (.iadd, 1) := by decide +kernel
theorem dX5_takeRanksBy_39 : decode cX5_takeRanksBy 39 = .ok (.invokevirtual 48, 3) := by decide +kernel
theorem dX5_takeRanksBy_42 : decode cX5_takeRanksBy 42 = .ok (.iload_n 2, 1) := by decide +kernel
theorem dX5_takeRanksBy_43 : decode cX5_takeRanksBy 43 = .ok (.invokestatic 56, 3) := by decide +kernel
theorem dX5_takeRanksBy_46 : decode cX5_takeRanksBy 46 = .ok (.istore 4, 2) := by decide +kernel
theorem dX5_takeRanksBy_48 : decode cX5_takeRanksBy 48 = .ok (.iload 4, 2) := by decide +kernel
theorem dX5_takeRanksBy_50 : decode cX5_takeRanksBy 50 = .ok (.aload_n 0, 1) := by decide +kernel
theorem dX5_takeRanksBy_51 : decode cX5_takeRanksBy 51 = .ok (.iload_n 1, 1) := by decide +kernel
theorem dX5_takeRanksBy_52 : decode cX5_takeRanksBy 52 = .ok (.invokevirtual 59, 3) := by decide +kernel
theorem dX5_takeRanksBy_55 : decode cX5_takeRanksBy 55 = .ok (.irem, 1) := by decide +kernel
theorem dX5_takeRanksBy_56 : decode cX5_takeRanksBy 56 = .ok (.istore 5, 2) := by decide +kernel
theorem dX5_takeRanksBy_58 : decode cX5_takeRanksBy 58 = .ok (.iload 4, 2) := by decide +kernel
theorem dX5_takeRanksBy_60 : decode cX5_takeRanksBy 60 = .ok (.aload_n 0, 1) := by decide +kernel
theorem dX5_takeRanksBy_61 : decode cX5_takeRanksBy 61 = .ok (.iload_n 1, 1) := by decide +kernel
theorem dX5_takeRanksBy_62 : decode cX5_takeRanksBy 62 = .ok (.iconst 0, 1) := by decide +kernel
theorem dX5_takeRanksBy_63 : decode cX5_takeRanksBy 63 = .ok (.invokevirtual 48, 3) := by decide +kernel
theorem dX5_takeRanksBy_66 : decode cX5_takeRanksBy 66 = .ok (.invokestatic 63, 3) := by decide +kernel
theorem dX5_takeRanksBy_69 : decode cX5_takeRanksBy 69 = .ok (.istore 6, 2) := by decide +kernel
theorem dX5_takeRanksBy_71 : decode cX5_takeRanksBy 71 = .ok (.aload_n 0, 1) := by decide +kernel
theorem dX5_takeRanksBy_72 : decode cX5_takeRanksBy 72 = .ok (.getfield 25, 3) := by decide +kernel
theorem dX5_takeRanksBy_75 : decode cX5_takeRanksBy 75 = .ok (.iload 5, 2) := by decide +kernel
theorem dX5_takeRanksBy_77 : decode cX5_takeRanksBy 77 = .ok (.iload 6, 2) := by decide +kernel
theorem dX5_takeRanksBy_79 : decode cX5_takeRanksBy 79 = .ok (.aload_n 0, 1) := by decide +kernel
theorem dX5_takeRanksBy_80 : decode cX5_takeRanksBy 80 = .ok (.getfield 25, 3) := by decide +kernel
theorem dX5_takeRanksBy_83 : decode cX5_takeRanksBy 83 = .ok (.iload 5, 2) := by decide +kernel
theorem dX5_takeRanksBy_85 : decode cX5_takeRanksBy 85 = .ok (.iaload, 1) := by decide +kernel
theorem dX5_takeRanksBy_86 : decode cX5_takeRanksBy 86 = .ok (.if_icmp .le 8, 3) := by decide +kernel
theorem dX5_takeRanksBy_89 : decode cX5_takeRanksBy 89 = .ok (.iload 6, 2) := by decide +kernel
theorem dX5_takeRanksBy_91 : decode cX5_takeRanksBy 91 = .ok (.goto 10, 3) := by decide +kernel
theorem dX5_takeRanksBy_94 : decode cX5_takeRanksBy 94 = .ok (.aload_n 0, 1) := by decide +kernel
theorem dX5_takeRanksBy_95 : decode cX5_takeRanksBy 95 = .ok (.getfield 25, 3) := by decide +kernel
theorem dX5_takeRanksBy_98 : decode cX5_takeRanksBy 98 = .ok (.iload 5, 2) := by decide +kernel
theorem dX5_takeRanksBy_100 : decode cX5_takeRanksBy 100 = .ok (.iaload, 1) := by decide +kernel
theorem dX5_takeRanksBy_101 : decode cX5_takeRanksBy 101 = .ok (.iastore, 1) := by decide +kernel
theorem dX5_takeRanksBy_102 : decode cX5_takeRanksBy 102 = .ok (.iinc 3 1, 3) := by decide +kernel
theorem dX5_takeRanksBy_105 : decode cX5_takeRanksBy 105 = .ok (.goto (-82), 3) := by decide +kernel
theorem dX5_takeRanksBy_108 : decode cX5_takeRanksBy 108 = .ok (.return_, 1) := by decide +kernel
set_option maxRecDepth 20000 in
theorem ggX5_bestSalt_X5_isSketch : GoodIn wsX5_bestSalt wsX5_isSketch := goodIn_r _ [4, 5, 6, 3, 7] (by decide +kernel) (by decide +kernel)
set_option maxRecDepth 20000 in
theorem gX5_bestSalt_X5_isSketch : GoodIn wsX5_bestSalt (va_wsS RX5 124 yX5_isSketch wsX5_isSketch) := goodIn_app (goodIn_of _ (by decide +kernel)) ggX5_bestSalt_X5_isSketch
set_option maxRecDepth 20000 in
theorem ggX5_bestSalt_X5_isFull : GoodIn wsX5_bestSalt wsX5_isFull := goodIn_r _ [11, 12, 13, 14, 3, 15, 16, 53, 54, 55, 56, 57, 58, 59, 60, 61, 62, 63, 64, 65] (by decide +kernel) (by decide +kernel)
set_option maxRecDepth 20000 in
theorem gX5_bestSalt_X5_isFull : GoodIn wsX5_bestSalt (wsV RX5 99 RX5 yX5_isFull wsX5_isFull) := goodIn_app (goodIn_of _ (by decide +kernel)) ggX5_bestSalt_X5_isFull
set_option maxRecDepth 20000 in
theorem ggX5_bestSalt_X5_takeRanksBy : GoodIn wsX5_bestSalt wsX5_takeRanksBy := goodIn_r _ [20, 21, 12, 13, 14, 3, 15, 16, 22, 23, 24, 25, 26, 27, 28, 29, 30, 31, 32, 33, 53, 54, 55, 56, 57, 58, 59, 60, 61, 62, 63, 64, 65] (by decide +kernel) (by decide +kernel)
set_option maxRecDepth 20000 in
theorem gX5_bestSalt_X5_takeRanksBy : GoodIn wsX5_bestSalt (wsV RX5 179 RX5 yX5_takeRanksBy wsX5_takeRanksBy) := goodIn_app (goodIn_of _ (by decide +kernel)) ggX5_bestSalt_X5_takeRanksBy
set_option maxRecDepth 20000 in
theorem ggX5_bestSalt_X5_bucketsOf : GoodIn wsX5_bestSalt wsX5_bucketsOf := goodIn_r _ [30, 12, 13, 14, 3, 15, 16, 53, 54, 55, 56, 57, 58, 59, 60, 61, 62, 63, 64, 65] (by decide +kernel) (by decide +kernel)
set_option maxRecDepth 20000 in
theorem gX5_bestSalt_X5_bucketsOf : GoodIn wsX5_bestSalt (wsV RX5 59 RX5 yX5_bucketsOf wsX5_bucketsOf) := goodIn_app (goodIn_of _ (by decide +kernel)) ggX5_bestSalt_X5_bucketsOf
set_option maxRecDepth 20000 in
theorem ggX5_bestSalt_X5_estimateBy : GoodIn wsX5_bestSalt wsX5_estimateBy := goodIn_r _ [37, 38, 39, 40, 3, 41, 26, 42, 43, 44, 45, 46, 47, 48, 21, 49, 50, 51, 52, 53, 54, 55, 56, 57, 58, 59, 60, 61, 62, 63, 64, 65] (by decide +kernel) (by decide +kernel)
set_option maxRecDepth 20000 in
theorem gX5_bestSalt_X5_estimateBy : GoodIn wsX5_bestSalt (wsV RX5 93 RX5 yX5_estimateBy wsX5_estimateBy) := goodIn_app (goodIn_of _ (by decide +kernel)) ggX5_bestSalt_X5_estimateBy
set_option maxRecDepth 20000 in
theorem ggX5_bestSalt_X5_part : GoodIn wsX5_bestSalt wsX5_part := goodIn_r _ [15, 16, 53, 54, 55, 56, 57, 58, 59, 60, 61, 62, 63, 64, 65] (by decide +kernel) (by decide +kernel)
set_option maxRecDepth 20000 in
theorem gX5_bestSalt_X5_part : GoodIn wsX5_bestSalt (wsV RX5 48 RX5 yX5_part wsX5_part) := goodIn_app (goodIn_of _ (by decide +kernel)) ggX5_bestSalt_X5_part
theorem dX5_bestSalt_0 : decode cX5_bestSalt 0 = .ok (.iload_n 1, 1) := by decide +kernel
theorem dX5_bestSalt_1 : decode cX5_bestSalt 1 = .ok (.invokestatic 124, 3) := by decide +kernel
theorem dX5_bestSalt_4 : decode cX5_bestSalt 4 = .ok (.ifCond .ne 5, 3) := by decide +kernel
theorem dX5_bestSalt_7 : decode cX5_bestSalt 7 = .ok (.iconst (-1), 1) := by decide +kernel
theorem dX5_bestSalt_8 : decode cX5_bestSalt 8 = .ok (.ireturn, 1) := by decide +kernel
theorem dX5_bestSalt_9 : decode cX5_bestSalt 9 = .ok (.aload_n 0, 1) := by decide +kernel
theorem dX5_bestSalt_10 : decode cX5_bestSalt 10 = .ok (.iload_n 1, 1) := by decide +kernel
theorem dX5_bestSalt_11 : decode cX5_bestSalt 11 = .ok (.invokevirtual 99, 3) := by decide +kernel
theorem dX5_bestSalt_14 : decode cX5_bestSalt 14 = .ok (.ifCond .eq 6, 3) := by decide +kernel
theorem dX5_bestSalt_17 : decode cX5_bestSalt 17 = .ok (.bipush (-5), 2) := by decide +kernel
theorem dX5_bestSalt_19 : decode cX5_bestSalt 19 = .ok (.ireturn, 1) := by decide +kernel
theorem dX5_bestSalt_20 : decode cX5_bestSalt 20 = .ok (.bipush (-6), 2) := by decide +kernel
theorem dX5_bestSalt_22 : decode cX5_bestSalt 22 = .ok (.istore_n 2, 1) := by decide +kernel
theorem dX5_bestSalt_23 : decode cX5_bestSalt 23 = .ok (.iconst 0, 1) := by decide +kernel
theorem dX5_bestSalt_24 : decode cX5_bestSalt 24 = .ok (.istore_n 3, 1) := by decide +kernel
theorem dX5_bestSalt_25 : decode cX5_bestSalt 25 = .ok (.iconst 0, 1) := by decide +kernel
theorem dX5_bestSalt_26 : decode cX5_bestSalt 26 = .ok (.istore 4, 2) := by decide +kernel
theorem dX5_bestSalt_28 : decode cX5_bestSalt 28 = .ok (.iload 4, 2) := by decide +kernel
theorem dX5_bestSalt_30 : decode cX5_bestSalt 30 = .ok (.sipush 256, 3) := by decide +kernel
theorem dX5_bestSalt_33 : decode cX5_bestSalt 33 = .ok (.if_icmp .ge 92, 3) := by decide +kernel
theorem dX5_bestSalt_36 : decode cX5_bestSalt 36 = .ok (.aload_n 0, 1) := by decide +kernel
theorem dX5_bestSalt_37 : decode cX5_bestSalt 37 = .ok (.iload_n 1, 1) := by decide +kernel
theorem dX5_bestSalt_38 : decode cX5_bestSalt 38 = .ok (.iload 4, 2) := by decide +kernel
theorem dX5_bestSalt_40 : decode cX5_bestSalt 40 = .ok (.invokevirtual 179, 3) := by decide +kernel
theorem dX5_bestSalt_43 : decode cX5_bestSalt 43 = .ok (.aload_n 0, 1) := by decide +kernel
theorem dX5_bestSalt_44 : decode cX5_bestSalt 44 = .ok (.aload_n 0, 1) := by decide +kernel
theorem dX5_bestSalt_45 : decode cX5_bestSalt 45 = .ok (.iload_n 1, 1) := by decide +kernel
theorem dX5_bestSalt_46 : decode cX5_bestSalt 46 = .ok (.invokevirtual 59, 3) := by decide +kernel
theorem dX5_bestSalt_49 : decode cX5_bestSalt 49 = .ok (.invokevirtual 93, 3) := by decide +kernel
theorem dX5_bestSalt_52 : decode cX5_bestSalt 52 = .ok (.aload_n 0, 1) := by decide +kernel
theorem dX5_bestSalt_53 : decode cX5_bestSalt 53 = .ok (.iload_n 1, 1) := by decide +kernel
theorem dX5_bestSalt_54 : decode cX5_bestSalt 54 = .ok (.iconst 1, 1) := by decide +kernel
theorem dX5_bestSalt_55 : decode cX5_bestSalt 55 = .ok (.invokevirtual 48, 3) := by decide +kernel
theorem dX5_bestSalt_58 : decode cX5_bestSalt 58 = .ok (.isub, 1) := by decide +kernel
theorem dX5_bestSalt_59 : decode cX5_bestSalt 59 = .ok (.istore 5, 2) := by decide +kernel
theorem dX5_bestSalt_61 : decode cX5_bestSalt 61 = .ok (.iload 5, 2) := by decide +kernel
theorem dX5_bestSalt_63 : decode cX5_bestSalt 63 = .ok (.ifCond .ge 9, 3) := by decide +kernel
theorem dX5_bestSalt_66 : decode cX5_bestSalt 66 = .ok (.iload 5, 2) := by decide +kernel
theorem dX5_bestSalt_68 : decode cX5_bestSalt 68 = .ok (.ineg, 1) := by decide +kernel
theorem dX5_bestSalt_69 : decode cX5_bestSalt 69 = .ok (.goto 5, 3) := by decide +kernel
theorem dX5_bestSalt_72 : decode cX5_bestSalt 72 = .ok (.iload 5, 2) := by decide +kernel
theorem dX5_bestSalt_74 : decode cX5_bestSalt 74 = .ok (.istore 6, 2) := by decide +kernel
theorem dX5_bestSalt_76 : decode cX5_bestSalt 76 = .ok (.iload_n 2, 1) := by decide +kernel
theorem dX5_bestSalt_77 : decode cX5_bestSalt 77 = .ok (.bipush (-6), 2) := by decide +kernel
theorem dX5_bestSalt_79 : decode cX5_bestSalt 79 = .ok (.if_icmp .eq 9, 3) := by decide +kernel
theorem dX5_bestSalt_82 : decode cX5_bestSalt 82 = .ok (.iload 6, 2) := by decide +kernel
theorem dX5_bestSalt_84 : decode cX5_bestSalt 84 = .ok (.iload_n 3, 1) := by decide +kernel
theorem dX5_bestSalt_85 : decode cX5_bestSalt 85 = .ok (.if_icmp .ge 7, 3) := by decide +kernel
theorem dX5_bestSalt_88 : decode cX5_bestSalt 88 = .ok (.iconst 1, 1) := by decide +kernel
theorem dX5_bestSalt_89 : decode cX5_bestSalt 89 = .ok (.goto 4, 3) := by decide +kernel
theorem dX5_bestSalt_92 : decode cX5_bestSalt 92 = .ok (.iconst 0, 1) := by decide +kernel
theorem dX5_bestSalt_93 : decode cX5_bestSalt 93 = .ok (.istore 7, 2) := by decide +kernel
theorem dX5_bestSalt_95 : decode cX5_bestSalt 95 = .ok (.iload 7, 2) := by decide +kernel
theorem dX5_bestSalt_97 : decode cX5_bestSalt 97 = .ok (.ifCond .eq 8, 3) := by decide +kernel
theorem dX5_bestSalt_100 : decode cX5_bestSalt 100 = .ok (.iload 4, 2) := by decide +kernel
theorem dX5_bestSalt_102 : decode cX5_bestSalt 102 = .ok (.goto 4, 3) := by decide +kernel
theorem dX5_bestSalt_105 : decode cX5_bestSalt 105 = .ok (.iload_n 2, 1) := by decide +kernel
theorem dX5_bestSalt_106 : decode cX5_bestSalt 106 = .ok (.istore_n 2, 1) := by decide +kernel
theorem dX5_bestSalt_107 : decode cX5_bestSalt 107 = .ok (.iload 7, 2) := by decide +kernel
theorem dX5_bestSalt_109 : decode cX5_bestSalt 109 = .ok (.ifCond .eq 8, 3) := by decide +kernel
theorem dX5_bestSalt_112 : decode cX5_bestSalt 112 = .ok (.iload 6, 2) := by decide +kernel
theorem dX5_bestSalt_114 : decode cX5_bestSalt 114 = .ok (.goto 4, 3) := by decide +kernel
theorem dX5_bestSalt_117 : decode cX5_bestSalt 117 = .ok (.iload_n 3, 1) := by decide +kernel
theorem dX5_bestSalt_118 : decode cX5_bestSalt 118 = .ok (.istore_n 3, 1) := by decide +kernel
theorem dX5_bestSalt_119 : decode cX5_bestSalt 119 = .ok (.iinc 4 1, 3) := by decide +kernel
theorem dX5_bestSalt_122 : decode cX5_bestSalt 122 = .ok (.goto (-94), 3) := by decide +kernel
theorem dX5_bestSalt_125 : decode cX5_bestSalt 125 = .ok (.iload_n 2, 1) := by decide +kernel
theorem dX5_bestSalt_126 : decode cX5_bestSalt 126 = .ok (.ireturn, 1) := by decide +kernel
set_option maxRecDepth 20000 in
theorem ggX5_put_X5_within : GoodIn wsX5_put wsX5_within := goodIn_r _ [7] (by decide +kernel) (by decide +kernel)
set_option maxRecDepth 20000 in
theorem gX5_put_X5_within : GoodIn wsX5_put (va_wsS RX5 43 yX5_within wsX5_within) := goodIn_app (goodIn_of _ (by decide +kernel)) ggX5_put_X5_within
theorem dX5_put_0 : decode cX5_put 0 = .ok (.iconst 0, 1) := by decide +kernel
theorem dX5_put_1 : decode cX5_put 1 = .ok (.istore_n 3, 1) := by decide +kernel
theorem dX5_put_2 : decode cX5_put 2 = .ok (.lload_n 1, 1) := by decide +kernel
theorem dX5_put_3 : decode cX5_put 3 = .ok (.lstore 4, 2) := by decide +kernel
theorem dX5_put_5 : decode cX5_put 5 = .ok (.iconst 1, 1) := by decide +kernel
theorem dX5_put_6 : decode cX5_put 6 = .ok (.istore 6, 2) := by decide +kernel
theorem dX5_put_8 : decode cX5_put 8 = .ok (.iload_n 3, 1) := by decide +kernel
theorem dX5_put_9 : decode cX5_put 9 = .ok (.bipush 8, 2) := by decide +kernel
theorem dX5_put_11 : decode cX5_put 11 = .ok (.if_icmp .ge 56, 3) := by decide +kernel
theorem dX5_put_14 : decode cX5_put 14 = .ok (.lload 4, 2) := by decide +kernel
theorem dX5_put_16 : decode cX5_put 16 = .ok (.ldc2_w 182, 3) := by decide +kernel
theorem dX5_put_19 : decode cX5_put 19 = .ok (.land, 1) := by decide +kernel
theorem dX5_put_20 : decode cX5_put 20 = .ok (.lconst 0, 1) := by decide +kernel
theorem dX5_put_21 : decode cX5_put 21 = .ok (.lcmp, 1) := by decide +kernel
theorem dX5_put_22 : decode cX5_put 22 = .ok (.ifCond .eq 45, 3) := by decide +kernel
theorem dX5_put_25 : decode cX5_put 25 = .ok (.iload 6, 2) := by decide +kernel
theorem dX5_put_27 : decode cX5_put 27 = .ok (.ifCond .eq 24, 3) := by decide +kernel
theorem dX5_put_30 : decode cX5_put 30 = .ok (.lload 4, 2) := by decide +kernel
theorem dX5_put_32 : decode cX5_put 32 = .ok (.ldc2_w 182, 3) := by decide +kernel
theorem dX5_put_35 : decode cX5_put 35 = .ok (.land, 1) := by decide +kernel
theorem dX5_put_36 : decode cX5_put 36 = .ok (.l2i, 1) := by decide +kernel
theorem dX5_put_37 : decode cX5_put 37 = .ok (.bipush 33, 2) := by decide +kernel
theorem dX5_put_39 : decode cX5_put 39 = .ok (.bipush 126, 2) := by decide +kernel
theorem dX5_put_41 : decode cX5_put 41 = .ok (.invokestatic 43, 3) := by decide +kernel
theorem dX5_put_44 : decode cX5_put 44 = .ok (.ifCond .eq 7, 3) := by decide +kernel
theorem dX5_put_47 : decode cX5_put 47 = .ok (.iconst 1, 1) := by decide +kernel
theorem dX5_put_48 : decode cX5_put 48 = .ok (.goto 4, 3) := by decide +kernel
theorem dX5_put_51 : decode cX5_put 51 = .ok (.iconst 0, 1) := by decide +kernel
theorem dX5_put_52 : decode cX5_put 52 = .ok (.istore 6, 2) := by decide +kernel
theorem dX5_put_54 : decode cX5_put 54 = .ok (.lload 4, 2) := by decide +kernel
theorem dX5_put_56 : decode cX5_put 56 = .ok (.bipush 8, 2) := by decide +kernel
theorem dX5_put_58 : decode cX5_put 58 = .ok (.lushr, 1) := by decide +kernel
theorem dX5_put_59 : decode cX5_put 59 = .ok (.lstore 4, 2) := by decide +kernel
theorem dX5_put_61 : decode cX5_put 61 = .ok (.iinc 3 1, 3) := by decide +kernel
theorem dX5_put_64 : decode cX5_put 64 = .ok (.goto (-56), 3) := by decide +kernel
theorem dX5_put_67 : decode cX5_put 67 = .ok (.iload_n 3, 1) := by decide +kernel
theorem dX5_put_68 : decode cX5_put 68 = .ok (.ifCond .eq 15, 3) := by decide +kernel
theorem dX5_put_71 : decode cX5_put 71 = .ok (.iload 6, 2) := by decide +kernel
theorem dX5_put_73 : decode cX5_put 73 = .ok (.ifCond .eq 10, 3) := by decide +kernel
theorem dX5_put_76 : decode cX5_put 76 = .ok (.lload 4, 2) := by decide +kernel
theorem dX5_put_78 : decode cX5_put 78 = .ok (.lconst 0, 1) := by decide +kernel
theorem dX5_put_79 : decode cX5_put 79 = .ok (.lcmp, 1) := by decide +kernel
theorem dX5_put_80 : decode cX5_put 80 = .ok (.ifCond .eq 6, 3) := by decide +kernel
theorem dX5_put_83 : decode cX5_put 83 = .ok (.bipush (-2), 2) := by decide +kernel
theorem dX5_put_85 : decode cX5_put 85 = .ok (.ireturn, 1) := by decide +kernel
theorem dX5_put_86 : decode cX5_put 86 = .ok (.aload_n 0, 1) := by decide +kernel
theorem dX5_put_87 : decode cX5_put 87 = .ok (.getfield 173, 3) := by decide +kernel
theorem dX5_put_90 : decode cX5_put 90 = .ok (.iload_n 3, 1) := by decide +kernel
theorem dX5_put_91 : decode cX5_put 91 = .ok (.iadd, 1) := by decide +kernel
theorem dX5_put_92 : decode cX5_put 92 = .ok (.bipush 80, 2) := by decide +kernel
theorem dX5_put_94 : decode cX5_put 94 = .ok (.if_icmp .le 6, 3) := by decide +kernel
theorem dX5_put_97 : decode cX5_put 97 = .ok (.bipush (-4), 2) := by decide +kernel
theorem dX5_put_99 : decode cX5_put 99 = .ok (.ireturn, 1) := by decide +kernel
theorem dX5_put_100 : decode cX5_put 100 = .ok (.iload_n 3, 1) := by decide +kernel
theorem dX5_put_101 : decode cX5_put 101 = .ok (.iconst 1, 1) := by decide +kernel
theorem dX5_put_102 : decode cX5_put 102 = .ok (.isub, 1) := by decide +kernel
theorem dX5_put_103 : decode cX5_put 103 = .ok (.istore 7, 2) := by decide +kernel
theorem dX5_put_105 : decode cX5_put 105 = .ok (.iload 7, 2) := by decide +kernel
theorem dX5_put_107 : decode cX5_put 107 = .ok (.ifCond .lt 40, 3) := by decide +kernel
theorem dX5_put_110 : decode cX5_put 110 = .ok (.aload_n 0, 1) := by decide +kernel
theorem dX5_put_111 : decode cX5_put 111 = .ok (.getfield 22, 3) := by decide +kernel
theorem dX5_put_114 : decode cX5_put 114 = .ok (.aload_n 0, 1) := by decide +kernel
theorem dX5_put_115 : decode cX5_put 115 = .ok (.getfield 173, 3) := by decide +kernel
theorem dX5_put_118 : decode cX5_put 118 = .ok (.lload_n 1, 1) := by decide +kernel
theorem dX5_put_119 : decode cX5_put 119 = .ok (.bipush 8, 2) := by decide +kernel
theorem dX5_put_121 : decode cX5_put 121 = .ok (.iload 7, 2) := by decide +kernel
theorem dX5_put_123 : decode cX5_put 123 = .ok (.imul, 1) := by decide +kernel
theorem dX5_put_124 : decode cX5_put 124 = .ok (.lushr, 1) := by decide +kernel
theorem dX5_put_125 : decode cX5_put 125 = .ok (.ldc2_w 182, 3) := by decide +kernel
theorem dX5_put_128 : decode cX5_put 128 = .ok (.land, 1) := by decide +kernel
theorem dX5_put_129 : decode cX5_put 129 = .ok (.l2i, 1) := by decide +kernel
theorem dX5_put_130 : decode cX5_put 130 = .ok (.iastore, 1) := by decide +kernel
theorem dX5_put_131 : decode cX5_put 131 = .ok (.aload_n 0, 1) := by decide +kernel
theorem dX5_put_132 : decode cX5_put 132 = .ok (.dup, 1) := by decide +kernel
theorem dX5_put_133 : decode cX5_put 133 = .ok (.getfield 173, 3) := by decide +kernel
theorem dX5_put_136 : decode cX5_put 136 = .ok (.iconst 1, 1) := by decide +kernel
theorem dX5_put_137 : decode cX5_put 137 = .ok (.iadd, 1) := by decide +kernel
theorem dX5_put_138 : decode cX5_put 138 = .ok (.putfield 173, 3) := by decide +kernel
theorem dX5_put_141 : decode cX5_put 141 = .ok (.iinc 7 (-1), 3) := by decide +kernel
theorem dX5_put_144 : decode cX5_put 144 = .ok (.goto (-39), 3) := by decide +kernel
theorem dX5_put_147 : decode cX5_put 147 = .ok (.aload_n 0, 1) := by decide +kernel
theorem dX5_put_148 : decode cX5_put 148 = .ok (.getfield 173, 3) := by decide +kernel
theorem dX5_put_151 : decode cX5_put 151 = .ok (.ireturn, 1) := by decide +kernel
theorem dX5_wipe_0 : decode cX5_wipe 0 = .ok (.aload_n 0, 1) := by decide +kernel
theorem dX5_wipe_1 : decode cX5_wipe 1 = .ok (.getfield 173, 3) := by decide +kernel
theorem dX5_wipe_4 : decode cX5_wipe 4 = .ok (.istore_n 1, 1) := by decide +kernel
theorem dX5_wipe_5 : decode cX5_wipe 5 = .ok (.aload_n 0, 1) := by decide +kernel
theorem dX5_wipe_6 : decode cX5_wipe 6 = .ok (.iconst 0, 1) := by decide +kernel
theorem dX5_wipe_7 : decode cX5_wipe 7 = .ok (.putfield 173, 3) := by decide +kernel
theorem dX5_wipe_10 : decode cX5_wipe 10 = .ok (.iload_n 1, 1) := by decide +kernel
theorem dX5_wipe_11 : decode cX5_wipe 11 = .ok (.ireturn, 1) := by decide +kernel
theorem dX5_character_0 : decode cX5_character 0 = .ok (.iload_n 1, 1) := by decide +kernel
theorem dX5_character_1 : decode cX5_character 1 = .ok (.aload_n 0, 1) := by decide +kernel
theorem dX5_character_2 : decode cX5_character 2 = .ok (.getfield 173, 3) := by decide +kernel
theorem dX5_character_5 : decode cX5_character 5 = .ok (.if_icmp .ge 12, 3) := by decide +kernel
theorem dX5_character_8 : decode cX5_character 8 = .ok (.aload_n 0, 1) := by decide +kernel
theorem dX5_character_9 : decode cX5_character 9 = .ok (.getfield 22, 3) := by decide +kernel
theorem dX5_character_12 : decode cX5_character 12 = .ok (.iload_n 1, 1) := by decide +kernel
theorem dX5_character_13 : decode cX5_character 13 = .ok (.iaload, 1) := by decide +kernel
theorem dX5_character_14 : decode cX5_character 14 = .ok (.goto 4, 3) := by decide +kernel
theorem dX5_character_17 : decode cX5_character 17 = .ok (.iconst (-1), 1) := by decide +kernel
theorem dX5_character_18 : decode cX5_character 18 = .ok (.ireturn, 1) := by decide +kernel
set_option maxRecDepth 20000 in
theorem ggX5_isNext_X5_character : GoodIn wsX5_isNext wsX5_character := goodIn_r _ [6, 7, 8, 9, 10, 11, 12, 13, 14, 15, 16, 17, 18, 19, 20, 21] (by decide +kernel) (by decide +kernel)
set_option maxRecDepth 20000 in
theorem gX5_isNext_X5_character : GoodIn wsX5_isNext (wsV RX5 187 RX5 yX5_character wsX5_character) := goodIn_app (goodIn_of _ (by decide +kernel)) ggX5_isNext_X5_character
theorem dX5_isNext_0 : decode cX5_isNext 0 = .ok (.aload_n 0, 1) := by decide +kernel
theorem dX5_isNext_1 : decode cX5_isNext 1 = .ok (.aload_n 0, 1) := by decide +kernel
theorem dX5_isNext_2 : decode cX5_isNext 2 = .ok (.getfield 184, 3) := by decide +kernel
theorem dX5_isNext_5 : decode cX5_isNext 5 = .ok (.invokevirtual 187, 3) := by decide +kernel
theorem dX5_isNext_8 : decode cX5_isNext 8 = .ok (.iload_n 1, 1) := by decide +kernel
theorem dX5_isNext_9 : decode cX5_isNext 9 = .ok (.if_icmp .ne 7, 3) := by decide +kernel
theorem dX5_isNext_12 : decode cX5_isNext 12 = .ok (.iconst 1, 1) := by decide +kernel
theorem dX5_isNext_13 : decode cX5_isNext 13 = .ok (.goto 4, 3) := by decide +kernel
theorem dX5_isNext_16 : decode cX5_isNext 16 = .ok (.iconst 0, 1) := by decide +kernel
theorem dX5_isNext_17 : decode cX5_isNext 17 = .ok (.istore_n 2, 1) := by decide +kernel
theorem dX5_isNext_18 : decode cX5_isNext 18 = .ok (.aload_n 0, 1) := by decide +kernel
theorem dX5_isNext_19 : decode cX5_isNext 19 = .ok (.dup, 1) := by decide +kernel
theorem dX5_isNext_20 : decode cX5_isNext 20 = .ok (.getfield 184, 3) := by decide +kernel
theorem dX5_isNext_23 : decode cX5_isNext 23 = .ok (.iload_n 2, 1) := by decide +kernel
theorem dX5_isNext_24 : decode cX5_isNext 24 = .ok (.ifCond .eq 7, 3) := by decide +kernel
theorem dX5_isNext_27 : decode cX5_isNext 27 = .ok (.iconst 1, 1) := by decide +kernel
theorem dX5_isNext_28 : decode cX5_isNext 28 = .ok (.goto 4, 3) := by decide +kernel
theorem dX5_isNext_31 : decode cX5_isNext 31 = .ok (.iconst 0, 1) := by decide +kernel
theorem dX5_isNext_32 : decode cX5_isNext 32 = .ok (.iadd, 1) := by decide +kernel
theorem dX5_isNext_33 : decode cX5_isNext 33 = .ok (.putfield 184, 3) := by decide +kernel
theorem dX5_isNext_36 : decode cX5_isNext 36 = .ok (.iload_n 2, 1) := by decide +kernel
theorem dX5_isNext_37 : decode cX5_isNext 37 = .ok (.ireturn, 1) := by decide +kernel
set_option maxRecDepth 20000 in
theorem ggX5_takeDigit_X5_character : GoodIn wsX5_takeDigit wsX5_character := goodIn_r _ [6, 7, 8, 12, 13, 14, 15, 16, 17, 18, 19, 20, 21, 22, 23, 24] (by decide +kernel) (by decide +kernel)
set_option maxRecDepth 20000 in
theorem gX5_takeDigit_X5_character : GoodIn wsX5_takeDigit (wsV RX5 187 RX5 yX5_character wsX5_character) := goodIn_app (goodIn_of _ (by decide +kernel)) ggX5_takeDigit_X5_character
set_option maxRecDepth 20000 in
theorem ggX5_takeDigit_X5_within : GoodIn wsX5_takeDigit wsX5_within := goodIn_r _ [11] (by decide +kernel) (by decide +kernel)
set_option maxRecDepth 20000 in
theorem gX5_takeDigit_X5_within : GoodIn wsX5_takeDigit (va_wsS RX5 43 yX5_within wsX5_within) := goodIn_app (goodIn_of _ (by decide +kernel)) ggX5_takeDigit_X5_within
theorem dX5_takeDigit_0 : decode cX5_takeDigit 0 = .ok (.aload_n 0, 1) := by decide +kernel
theorem dX5_takeDigit_1 : decode cX5_takeDigit 1 = .ok (.aload_n 0, 1) := by decide +kernel
theorem dX5_takeDigit_2 : decode cX5_takeDigit 2 = .ok (.getfield 184, 3) := by decide +kernel
theorem dX5_takeDigit_5 : decode cX5_takeDigit 5 = .ok (.invokevirtual 187, 3) := by decide +kernel
theorem dX5_takeDigit_8 : decode cX5_takeDigit 8 = .ok (.bipush 48, 2) := by decide +kernel
theorem dX5_takeDigit_10 : decode cX5_takeDigit 10 = .ok (.isub, 1) := by decide +kernel
theorem dX5_takeDigit_11 : decode cX5_takeDigit 11 = .ok (.istore_n 2, 1) := by decide +kernel
theorem dX5_takeDigit_12 : decode cX5_takeDigit 12 = .ok (.iload_n 2, 1) := by decide +kernel
theorem dX5_takeDigit_13 : decode cX5_takeDigit 13 = .ok (.iconst 0, 1) := by decide +kernel
theorem dX5_takeDigit_14 : decode cX5_takeDigit 14 = .ok (.iload_n 1, 1) := by decide +kernel
theorem dX5_takeDigit_15 : decode cX5_takeDigit 15 = .ok (.invokestatic 43, 3) := by decide +kernel
theorem dX5_takeDigit_18 : decode cX5_takeDigit 18 = .ok (.ifCond .ne 5, 3) := by decide +kernel
theorem dX5_takeDigit_21 : decode cX5_takeDigit 21 = .ok (.iconst (-1), 1) := by decide +kernel
theorem dX5_takeDigit_22 : decode cX5_takeDigit 22 = .ok (.ireturn, 1) := by decide +kernel
theorem dX5_takeDigit_23 : decode cX5_takeDigit 23 = .ok (.aload_n 0, 1) := by decide +kernel
theorem dX5_takeDigit_24 : decode cX5_takeDigit 24 = .ok (.dup, 1) := by decide +kernel
theorem dX5_takeDigit_25 : decode cX5_takeDigit 25 = .ok (.getfield 184, 3) := by decide +kernel
theorem dX5_takeDigit_28 : decode cX5_takeDigit 28 = .ok (.iconst 1, 1) := by decide +kernel
theorem dX5_takeDigit_29 : decode cX5_takeDigit 29 = .ok (.iadd, 1) := by decide +kernel
theorem dX5_takeDigit_30 : decode cX5_takeDigit 30 = .ok (.putfield 184, 3) := by decide +kernel
theorem dX5_takeDigit_33 : decode cX5_takeDigit 33 = .ok (.iload_n 2, 1) := by decide +kernel
theorem dX5_takeDigit_34 : decode cX5_takeDigit 34 = .ok (.ireturn, 1) := by decide +kernel
set_option maxRecDepth 20000 in
theorem ggX5_takesNumber_X5_takeDigit : GoodIn wsX5_takesNumber wsX5_takeDigit := goodIn_r _ [8, 1, 9, 10, 11, 7, 12, 13, 14, 15, 16, 17, 18, 19, 20, 21, 22, 23, 24, 25, 26, 27, 28, 29, 30] (by decide +kernel) (by decide +kernel)
set_option maxRecDepth 20000 in
theorem gX5_takesNumber_X5_takeDigit : GoodIn wsX5_takesNumber (wsV RX5 190 RX5 yX5_takeDigit wsX5_takeDigit) := goodIn_app (goodIn_of _ (by decide +kernel)) ggX5_takesNumber_X5_takeDigit
set_option maxRecDepth 20000 in
theorem ggX5_takesNumber_X5_character : GoodIn wsX5_takesNumber wsX5_character := goodIn_r _ [12, 13, 14, 18, 19, 20, 21, 22, 23, 24, 25, 26, 27, 28, 29, 30] (by decide +kernel) (by decide +kernel)
set_option maxRecDepth 20000 in
theorem gX5_takesNumber_X5_character : GoodIn wsX5_takesNumber (wsV RX5 187 RX5 yX5_character wsX5_character) := goodIn_app (goodIn_of _ (by decide +kernel)) ggX5_takesNumber_X5_character
set_option maxRecDepth 20000 in
theorem ggX5_takesNumber_X5_within : GoodIn wsX5_takesNumber wsX5_within := goodIn_r _ [17] (by decide +kernel) (by decide +kernel)
set_option maxRecDepth 20000 in
theorem gX5_takesNumber_X5_within : GoodIn wsX5_takesNumber (va_wsS RX5 43 yX5_within wsX5_within) := goodIn_app (goodIn_of _ (by decide +kernel)) ggX5_takesNumber_X5_within
theorem dX5_takesNumber_0 : decode cX5_takesNumber 0 = .ok (.aload_n 0, 1) := by decide +kernel
theorem dX5_takesNumber_1 : decode cX5_takesNumber 1 = .ok (.bipush 9, 2) := by decide +kernel
theorem dX5_takesNumber_3 : decode cX5_takesNumber 3 = .ok (.invokevirtual 190, 3) := by decide +kernel
theorem dX5_takesNumber_6 : decode cX5_takesNumber 6 = .ok (.istore_n 1, 1) := by decide +kernel
theorem dX5_takesNumber_7 : decode cX5_takesNumber 7 = .ok (.iload_n 1, 1) := by decide +kernel
theorem dX5_takesNumber_8 : decode cX5_takesNumber 8 = .ok (.ifCond .le 43, 3) := by decide +kernel
theorem dX5_takesNumber_11 : decode cX5_takesNumber 11 = .ok (.iload_n 1, 1) := by decide +kernel
theorem dX5_takesNumber_12 : decode cX5_takesNumber 12 = .ok (.sipush 10000, 3) := by decide +kernel
theorem dX5_takesNumber_15 : decode cX5_takesNumber 15 = .ok (.if_icmp .ge 36, 3) := by decide +kernel
theorem dX5_takesNumber_18 : decode cX5_takesNumber 18 = .ok (.aload_n 0, 1) := by decide +kernel
theorem dX5_takesNumber_19 : decode cX5_takesNumber 19 = .ok (.aload_n 0, 1) := by decide +kernel
theorem dX5_takesNumber_20 : decode cX5_takesNumber 20 = .ok (.getfield 184, 3) := by decide +kernel
theorem dX5_takesNumber_23 : decode cX5_takesNumber 23 = .ok (.invokevirtual 187, 3) := by decide +kernel
theorem dX5_takesNumber_26 : decode cX5_takesNumber 26 = .ok (.bipush 48, 2) := by decide +kernel
theorem dX5_takesNumber_28 : decode cX5_takesNumber 28 = .ok (.bipush 57, 2) := by decide +kernel
theorem dX5_takesNumber_30 : decode cX5_takesNumber 30 = .ok (.invokestatic 43, 3) := by decide +kernel
theorem dX5_takesNumber_33 : decode cX5_takesNumber 33 = .ok (.ifCond .eq 18, 3) := by decide +kernel
theorem dX5_takesNumber_36 : decode cX5_takesNumber 36 = .ok (.bipush 10, 2) := by decide +kernel
theorem dX5_takesNumber_38 : decode cX5_takesNumber 38 = .ok (.iload_n 1, 1) := by decide +kernel
theorem dX5_takesNumber_39 : decode cX5_takesNumber 39 = .ok (.imul, 1) := by decide +kernel
theorem dX5_takesNumber_40 : decode cX5_takesNumber 40 = .ok (.aload_n 0, 1) := by decide +kernel
theorem dX5_takesNumber_41 : decode cX5_takesNumber 41 = .ok (.bipush 9, 2) := by decide +kernel
theorem dX5_takesNumber_43 : decode cX5_takesNumber 43 = .ok (.invokevirtual 190, 3) := by decide +kernel
theorem dX5_takesNumber_46 : decode cX5_takesNumber 46 = .ok (.iadd, 1) := by decide +kernel
theorem dX5_takesNumber_47 : decode cX5_takesNumber 47 = .ok (.istore_n 1, 1) := by decide +kernel
theorem dX5_takesNumber_48 : decode cX5_takesNumber 48 = .ok (.goto (-41), 3) := by decide +kernel
theorem dX5_takesNumber_51 : decode cX5_takesNumber 51 = .ok (.aload_n 0, 1) := by decide +kernel
theorem dX5_takesNumber_52 : decode cX5_takesNumber 52 = .ok (.getfield 28, 3) := by decide +kernel
theorem dX5_takesNumber_55 : decode cX5_takesNumber 55 = .ok (.aload_n 0, 1) := by decide +kernel
theorem dX5_takesNumber_56 : decode cX5_takesNumber 56 = .ok (.getfield 193, 3) := by decide +kernel
theorem dX5_takesNumber_59 : decode cX5_takesNumber 59 = .ok (.iload_n 1, 1) := by decide +kernel
theorem dX5_takesNumber_60 : decode cX5_takesNumber 60 = .ok (.iastore, 1) := by decide +kernel
theorem dX5_takesNumber_61 : decode cX5_takesNumber 61 = .ok (.aload_n 0, 1) := by decide +kernel
theorem dX5_takesNumber_62 : decode cX5_takesNumber 62 = .ok (.dup, 1) := by decide +kernel
theorem dX5_takesNumber_63 : decode cX5_takesNumber 63 = .ok (.getfield 193, 3) := by decide +kernel
theorem dX5_takesNumber_66 : decode cX5_takesNumber 66 = .ok (.iconst 1, 1) := by decide +kernel
theorem dX5_takesNumber_67 : decode cX5_takesNumber 67 = .ok (.iadd, 1) := by decide +kernel
theorem dX5_takesNumber_68 : decode cX5_takesNumber 68 = .ok (.putfield 193, 3) := by decide +kernel
theorem dX5_takesNumber_71 : decode cX5_takesNumber 71 = .ok (.iload_n 1, 1) := by decide +kernel
theorem dX5_takesNumber_72 : decode cX5_takesNumber 72 = .ok (.ifCond .lt 7, 3) := by decide +kernel
theorem dX5_takesNumber_75 : decode cX5_takesNumber 75 = .ok (.iconst 1, 1) := by decide +kernel
theorem dX5_takesNumber_76 : decode cX5_takesNumber 76 = .ok (.goto 4, 3) := by decide +kernel
theorem dX5_takesNumber_79 : decode cX5_takesNumber 79 = .ok (.iconst 0, 1) := by decide +kernel
theorem dX5_takesNumber_80 : decode cX5_takesNumber 80 = .ok (.ireturn, 1) := by decide +kernel
set_option maxRecDepth 20000 in
theorem ggX5_readsRest_X5_takesNumber : GoodIn wsX5_readsRest wsX5_takesNumber := goodIn_r _ [8, 3, 2, 9, 10, 11, 12, 7, 13, 14, 15, 16, 17, 18, 19, 20, 21, 22, 27, 28, 29, 30, 31, 32, 33, 34, 35, 36, 37, 38, 39] (by decide +kernel) (by decide +kernel)
set_option maxRecDepth 20000 in
theorem gX5_readsRest_X5_takesNumber : GoodIn wsX5_readsRest (wsV RX5 199 RX5 yX5_takesNumber wsX5_takesNumber) := goodIn_app (goodIn_of _ (by decide +kernel)) ggX5_readsRest_X5_takesNumber
set_option maxRecDepth 20000 in
theorem ggX5_readsRest_X5_isNext : GoodIn wsX5_readsRest wsX5_isNext := goodIn_r _ [26, 3, 14, 15, 16, 7, 17, 18, 19, 27, 28, 29, 30, 31, 32, 33, 34, 35, 36, 37, 38, 39] (by decide +kernel) (by decide +kernel)
set_option maxRecDepth 20000 in
theorem gX5_readsRest_X5_isNext : GoodIn wsX5_readsRest (wsV RX5 203 RX5 yX5_isNext wsX5_isNext) := goodIn_app (goodIn_of _ (by decide +kernel)) ggX5_readsRest_X5_isNext
set_option maxRecDepth 20000 in
theorem ggX5_readsRest_X5_takeDigit : GoodIn wsX5_readsRest wsX5_takeDigit := goodIn_r _ [13, 3, 14, 15, 16, 7, 17, 18, 19, 20, 21, 22, 27, 28, 29, 30, 31, 32, 33, 34, 35, 36, 37, 38, 39] (by decide +kernel) (by decide +kernel)
set_option maxRecDepth 20000 in
theorem gX5_readsRest_X5_takeDigit : GoodIn wsX5_readsRest (wsV RX5 190 RX5 yX5_takeDigit wsX5_takeDigit) := goodIn_app (goodIn_of _ (by decide +kernel)) ggX5_readsRest_X5_takeDigit
theorem dX5_readsRest_0 : decode cX5_readsRest 0 = .ok (.aload_n 0, 1) := by decide +kernel
theorem dX5_readsRest_1 : decode cX5_readsRest 1 = .ok (.getfield 196, 3) := by decide +kernel
theorem dX5_readsRest_4 : decode cX5_readsRest 4 = .ok (.lookupswitch 137 #[(33, 135), (38, 80), (42, 106), (47, 135), (58, 52)], 52) := by decide +kernel
theorem dX5_readsRest_56 : decode cX5_readsRest 56 = .ok (.aload_n 0, 1) := by decide +kernel
theorem dX5_readsRest_57 : decode cX5_readsRest 57 = .ok (.invokevirtual 199, 3) := by decide +kernel
theorem dX5_readsRest_60 : decode cX5_readsRest 60 = .ok (.istore_n 1, 1) := by decide +kernel
theorem dX5_readsRest_61 : decode cX5_readsRest 61 = .ok (.iload_n 1, 1) := by decide +kernel
theorem dX5_readsRest_62 : decode cX5_readsRest 62 = .ok (.ifCond .eq 20, 3) := by decide +kernel
theorem dX5_readsRest_65 : decode cX5_readsRest 65 = .ok (.aload_n 0, 1) := by decide +kernel
theorem dX5_readsRest_66 : decode cX5_readsRest 66 = .ok (.bipush 44, 2) := by decide +kernel
theorem dX5_readsRest_68 : decode cX5_readsRest 68 = .ok (.invokevirtual 203, 3) := by decide +kernel
theorem dX5_readsRest_71 : decode cX5_readsRest 71 = .ok (.ifCond .eq 11, 3) := by decide +kernel
theorem dX5_readsRest_74 : decode cX5_readsRest 74 = .ok (.aload_n 0, 1) := by decide +kernel
theorem dX5_readsRest_75 : decode cX5_readsRest 75 = .ok (.invokevirtual 199, 3) := by decide +kernel
theorem dX5_readsRest_78 : decode cX5_readsRest 78 = .ok (.istore_n 1, 1) := by decide +kernel
theorem dX5_readsRest_79 : decode cX5_readsRest 79 = .ok (.goto (-18), 3) := by decide +kernel
theorem dX5_readsRest_82 : decode cX5_readsRest 82 = .ok (.iload_n 1, 1) := by decide +kernel
theorem dX5_readsRest_83 : decode cX5_readsRest 83 = .ok (.ireturn, 1) := by decide +kernel
theorem dX5_readsRest_84 : decode cX5_readsRest 84 = .ok (.aload_n 0, 1) := by decide +kernel
theorem dX5_readsRest_85 : decode cX5_readsRest 85 = .ok (.getfield 28, 3) := by decide +kernel
theorem dX5_readsRest_88 : decode cX5_readsRest 88 = .ok (.iconst 0, 1) := by decide +kernel
theorem dX5_readsRest_89 : decode cX5_readsRest 89 = .ok (.aload_n 0, 1) := by decide +kernel
theorem dX5_readsRest_90 : decode cX5_readsRest 90 = .ok (.iconst 5, 1) := by decide +kernel
theorem dX5_readsRest_91 : decode cX5_readsRest 91 = .ok (.invokevirtual 190, 3) := by decide +kernel
theorem dX5_readsRest_94 : decode cX5_readsRest 94 = .ok (.iastore, 1) := by decide +kernel
theorem dX5_readsRest_95 : decode cX5_readsRest 95 = .ok (.aload_n 0, 1) := by decide +kernel
theorem dX5_readsRest_96 : decode cX5_readsRest 96 = .ok (.getfield 28, 3) := by decide +kernel
theorem dX5_readsRest_99 : decode cX5_readsRest 99 = .ok (.iconst 0, 1) := by decide +kernel
theorem dX5_readsRest_100 : decode cX5_readsRest 100 = .ok (.iaload, 1) := by decide +kernel
theorem dX5_readsRest_101 : decode cX5_readsRest 101 = .ok (.ifCond .lt 7, 3) := by decide +kernel
theorem dX5_readsRest_104 : decode cX5_readsRest 104 = .ok (.iconst 1, 1) := by decide +kernel
theorem dX5_readsRest_105 : decode cX5_readsRest 105 = .ok (.goto 4, 3) := by decide +kernel
theorem dX5_readsRest_108 : decode cX5_readsRest 108 = .ok (.iconst 0, 1) := by decide +kernel
theorem dX5_readsRest_109 : decode cX5_readsRest 109 = .ok (.ireturn, 1) := by decide +kernel
theorem dX5_readsRest_110 : decode cX5_readsRest 110 = .ok (.aload_n 0, 1) := by decide +kernel
theorem dX5_readsRest_111 : decode cX5_readsRest 111 = .ok (.invokevirtual 199, 3) := by decide +kernel
theorem dX5_readsRest_114 : decode cX5_readsRest 114 = .ok (.ifCond .eq 23, 3) := by decide +kernel
theorem dX5_readsRest_117 : decode cX5_readsRest 117 = .ok (.aload_n 0, 1) := by decide +kernel
theorem dX5_readsRest_118 : decode cX5_readsRest 118 = .ok (.bipush 43, 2) := by decide +kernel
theorem dX5_readsRest_120 : decode cX5_readsRest 120 = .ok (.invokevirtual 203, 3) := by decide +kernel
theorem dX5_readsRest_123 : decode cX5_readsRest 123 = .ok (.ifCond .eq 14, 3) := by decide +kernel
theorem dX5_readsRest_126 : decode cX5_readsRest 126 = .ok (.aload_n 0, 1) := by decide +kernel
theorem dX5_readsRest_127 : decode cX5_readsRest 127 = .ok (.invokevirtual 199, 3) := by decide +kernel
theorem dX5_readsRest_130 : decode cX5_readsRest 130 = .ok (.ifCond .eq 7, 3) := by decide +kernel
theorem dX5_readsRest_133 : decode cX5_readsRest 133 = .ok (.iconst 1, 1) := by decide +kernel
theorem dX5_readsRest_134 : decode cX5_readsRest 134 = .ok (.goto 4, 3) := by decide +kernel
theorem dX5_readsRest_137 : decode cX5_readsRest 137 = .ok (.iconst 0, 1) := by decide +kernel
theorem dX5_readsRest_138 : decode cX5_readsRest 138 = .ok (.ireturn, 1) := by decide +kernel
theorem dX5_readsRest_139 : decode cX5_readsRest 139 = .ok (.iconst 1, 1) := by decide +kernel
theorem dX5_readsRest_140 : decode cX5_readsRest 140 = .ok (.ireturn, 1) := by decide +kernel
theorem dX5_readsRest_141 : decode cX5_readsRest 141 = .ok (.aload_n 0, 1) := by decide +kernel
theorem dX5_readsRest_142 : decode cX5_readsRest 142 = .ok (.dup, 1) := by decide +kernel
theorem dX5_readsRest_143 : decode cX5_readsRest 143 = .ok (.getfield 184, 3) := by decide +kernel
theorem dX5_readsRest_146 : decode cX5_readsRest 146 = .ok (.iconst 1, 1) := by decide +kernel
theorem dX5_readsRest_147 : decode cX5_readsRest 147 = .ok (.isub, 1) := by decide +kernel
theorem dX5_readsRest_148 : decode cX5_readsRest 148 = .ok (.putfield 184, 3) := by decide +kernel
theorem dX5_readsRest_151 : decode cX5_readsRest 151 = .ok (.iconst 0, 1) := by decide +kernel
theorem dX5_readsRest_152 : decode cX5_readsRest 152 = .ok (.ireturn, 1) := by decide +kernel
set_option maxRecDepth 20000 in
theorem ggX5_readsOrder_X5_takeDigit : GoodIn wsX5_readsOrder wsX5_takeDigit := goodIn_r _ [9, 3, 10, 11, 12, 8, 13, 14, 15, 16, 17, 18, 32, 33, 34, 35, 36, 37, 38, 39, 40, 41, 42, 43, 44] (by decide +kernel) (by decide +kernel)
set_option maxRecDepth 20000 in
theorem gX5_readsOrder_X5_takeDigit : GoodIn wsX5_readsOrder (wsV RX5 190 RX5 yX5_takeDigit wsX5_takeDigit) := goodIn_app (goodIn_of _ (by decide +kernel)) ggX5_readsOrder_X5_takeDigit
set_option maxRecDepth 20000 in
theorem ggX5_readsOrder_X5_character : GoodIn wsX5_readsOrder wsX5_character := goodIn_r _ [13, 14, 15, 32, 33, 34, 35, 36, 37, 38, 39, 40, 41, 42, 43, 44] (by decide +kernel) (by decide +kernel)
set_option maxRecDepth 20000 in
theorem gX5_readsOrder_X5_character : GoodIn wsX5_readsOrder (wsV RX5 187 RX5 yX5_character wsX5_character) := goodIn_app (goodIn_of _ (by decide +kernel)) ggX5_readsOrder_X5_character
set_option maxRecDepth 20000 in
theorem ggX5_readsOrder_X5_readsRest : GoodIn wsX5_readsOrder wsX5_readsRest := goodIn_r _ [22, 4, 23, 3, 24, 25, 26, 8, 27, 1, 5, 6, 7, 9, 10, 11, 12, 13, 14, 15, 16, 17, 18, 28, 29, 30, 31, 32, 33, 34, 35, 36, 37, 38, 39, 40, 41, 42, 43, 44] (by decide +kernel) (by decide +kernel)
set_option maxRecDepth 20000 in
theorem gX5_readsOrder_X5_readsRest : GoodIn wsX5_readsOrder (wsV RX5 209 RX5 yX5_readsRest wsX5_readsRest) := goodIn_app (goodIn_of _ (by decide +kernel)) ggX5_readsOrder_X5_readsRest
theorem dX5_readsOrder_0 : decode cX5_readsOrder 0 = .ok (.aload_n 0, 1) := by decide +kernel
theorem dX5_readsOrder_1 : decode cX5_readsOrder 1 = .ok (.iconst 0, 1) := by decide +kernel
theorem dX5_readsOrder_2 : decode cX5_readsOrder 2 = .ok (.putfield 193, 3) := by decide +kernel
theorem dX5_readsOrder_5 : decode cX5_readsOrder 5 = .ok (.aload_n 0, 1) := by decide +kernel
theorem dX5_readsOrder_6 : decode cX5_readsOrder 6 = .ok (.aload_n 0, 1) := by decide +kernel
theorem dX5_readsOrder_7 : decode cX5_readsOrder 7 = .ok (.iconst 5, 1) := by decide +kernel
theorem dX5_readsOrder_8 : decode cX5_readsOrder 8 = .ok (.invokevirtual 190, 3) := by decide +kernel
theorem dX5_readsOrder_11 : decode cX5_readsOrder 11 = .ok (.putfield 206, 3) := by decide +kernel
theorem dX5_readsOrder_14 : decode cX5_readsOrder 14 = .ok (.aload_n 0, 1) := by decide +kernel
theorem dX5_readsOrder_15 : decode cX5_readsOrder 15 = .ok (.getfield 206, 3) := by decide +kernel
theorem dX5_readsOrder_18 : decode cX5_readsOrder 18 = .ok (.ifCond .ge 5, 3) := by decide +kernel
theorem dX5_readsOrder_21 : decode cX5_readsOrder 21 = .ok (.iconst 0, 1) := by decide +kernel
theorem dX5_readsOrder_22 : decode cX5_readsOrder 22 = .ok (.ireturn, 1) := by decide +kernel
theorem dX5_readsOrder_23 : decode cX5_readsOrder 23 = .ok (.aload_n 0, 1) := by decide +kernel
theorem dX5_readsOrder_24 : decode cX5_readsOrder 24 = .ok (.aload_n 0, 1) := by decide +kernel
theorem dX5_readsOrder_25 : decode cX5_readsOrder 25 = .ok (.aload_n 0, 1) := by decide +kernel
theorem dX5_readsOrder_26 : decode cX5_readsOrder 26 = .ok (.getfield 184, 3) := by decide +kernel
theorem dX5_readsOrder_29 : decode cX5_readsOrder 29 = .ok (.invokevirtual 187, 3) := by decide +kernel
theorem dX5_readsOrder_32 : decode cX5_readsOrder 32 = .ok (.putfield 196, 3) := by decide +kernel
theorem dX5_readsOrder_35 : decode cX5_readsOrder 35 = .ok (.aload_n 0, 1) := by decide +kernel
theorem dX5_readsOrder_36 : decode cX5_readsOrder 36 = .ok (.dup, 1) := by decide +kernel
theorem dX5_readsOrder_37 : decode cX5_readsOrder 37 = .ok (.getfield 184, 3) := by decide +kernel
theorem dX5_readsOrder_40 : decode cX5_readsOrder 40 = .ok (.iconst 1, 1) := by decide +kernel
theorem dX5_readsOrder_41 : decode cX5_readsOrder 41 = .ok (.iadd, 1) := by decide +kernel
theorem dX5_readsOrder_42 : decode cX5_readsOrder 42 = .ok (.putfield 184, 3) := by decide +kernel
theorem dX5_readsOrder_45 : decode cX5_readsOrder 45 = .ok (.aload_n 0, 1) := by decide +kernel
theorem dX5_readsOrder_46 : decode cX5_readsOrder 46 = .ok (.invokevirtual 209, 3) := by decide +kernel
theorem dX5_readsOrder_49 : decode cX5_readsOrder 49 = .ok (.ireturn, 1) := by decide +kernel
set_option maxRecDepth 20000 in
theorem ggX5_findFault_X5_readsOrder : GoodIn wsX5_findFault wsX5_readsOrder := goodIn_r _ [7, 8, 9, 1, 10, 11, 12, 13, 6, 14, 15, 16, 17, 18, 2, 19, 20, 21, 22, 23, 24, 25, 26, 27, 28, 29, 30, 31, 32, 33, 34, 35, 36, 37, 38, 39, 40, 41, 42, 43, 44, 45, 46, 47, 48] (by decide +kernel) (by decide +kernel)
set_option maxRecDepth 20000 in
theorem gX5_findFault_X5_readsOrder : GoodIn wsX5_findFault (wsV RX5 212 RX5 yX5_readsOrder wsX5_readsOrder) := goodIn_app (goodIn_of _ (by decide +kernel)) ggX5_findFault_X5_readsOrder
set_option maxRecDepth 20000 in
theorem ggX5_findFault_X5_isNext : GoodIn wsX5_findFault wsX5_isNext := goodIn_r _ [35, 1, 15, 16, 17, 6, 18, 2, 19, 36, 37, 38, 39, 40, 41, 42, 43, 44, 45, 46, 47, 48] (by decide +kernel) (by decide +kernel)
set_option maxRecDepth 20000 in
theorem gX5_findFault_X5_isNext : GoodIn wsX5_findFault (wsV RX5 203 RX5 yX5_isNext wsX5_isNext) := goodIn_app (goodIn_of _ (by decide +kernel)) ggX5_findFault_X5_isNext
theorem dX5_findFault_0 : decode cX5_findFault 0 = .ok (.aload_n 0, 1) := by decide +kernel
theorem dX5_findFault_1 : decode cX5_findFault 1 = .ok (.iconst 0, 1) := by decide +kernel
theorem dX5_findFault_2 : decode cX5_findFault 2 = .ok (.putfield 184, 3) := by decide +kernel
theorem dX5_findFault_5 : decode cX5_findFault 5 = .ok (.aload_n 0, 1) := by decide +kernel
theorem dX5_findFault_6 : decode cX5_findFault 6 = .ok (.invokevirtual 212, 3) := by decide +kernel
theorem dX5_findFault_9 : decode cX5_findFault 9 = .ok (.ifCond .ne 8, 3) := by decide +kernel
theorem dX5_findFault_12 : decode cX5_findFault 12 = .ok (.aload_n 0, 1) := by decide +kernel
theorem dX5_findFault_13 : decode cX5_findFault 13 = .ok (.getfield 184, 3) := by decide +kernel
theorem dX5_findFault_16 : decode cX5_findFault 16 = .ok (.ireturn, 1) := by decide +kernel
theorem dX5_findFault_17 : decode cX5_findFault 17 = .ok (.aload_n 0, 1) := by decide +kernel
theorem dX5_findFault_18 : decode cX5_findFault 18 = .ok (.getfield 184, 3) := by decide +kernel
theorem dX5_findFault_21 : decode cX5_findFault 21 = .ok (.aload_n 0, 1) := by decide +kernel
theorem dX5_findFault_22 : decode cX5_findFault 22 = .ok (.getfield 173, 3) := by decide +kernel
theorem dX5_findFault_25 : decode cX5_findFault 25 = .ok (.if_icmp .ne 6, 3) := by decide +kernel
theorem dX5_findFault_28 : decode cX5_findFault 28 = .ok (.bipush (-6), 2) := by decide +kernel
theorem dX5_findFault_30 : decode cX5_findFault 30 = .ok (.ireturn, 1) := by decide +kernel
theorem dX5_findFault_31 : decode cX5_findFault 31 = .ok (.aload_n 0, 1) := by decide +kernel
theorem dX5_findFault_32 : decode cX5_findFault 32 = .ok (.bipush 59, 2) := by decide +kernel
theorem dX5_findFault_34 : decode cX5_findFault 34 = .ok (.invokevirtual 203, 3) := by decide +kernel
theorem dX5_findFault_37 : decode cX5_findFault 37 = .ok (.ifCond .ne (-32), 3) := by decide +kernel
theorem dX5_findFault_40 : decode cX5_findFault 40 = .ok (.aload_n 0, 1) := by decide +kernel
theorem dX5_findFault_41 : decode cX5_findFault 41 = .ok (.getfield 184, 3) := by decide +kernel
theorem dX5_findFault_44 : decode cX5_findFault 44 = .ok (.ireturn, 1) := by decide +kernel
set_option maxRecDepth 20000 in
theorem ggX5_fault_X5_findFault : GoodIn wsX5_fault wsX5_findFault := goodIn_r _ [5, 6, 7, 8, 9, 10, 4, 11, 12, 13, 14, 15, 16, 17, 18, 19, 20, 21, 22, 23, 24, 25, 26, 27, 28, 29, 30, 31, 32, 33, 34, 35, 36, 37, 38, 39, 40, 41, 42, 43, 44, 45, 46, 47, 48, 49, 50, 51, 52] (by decide +kernel) (by decide +kernel)
set_option maxRecDepth 20000 in
theorem gX5_fault_X5_findFault : GoodIn wsX5_fault (wsV RX5 215 RX5 yX5_findFault wsX5_findFault) := goodIn_app (goodIn_of _ (by decide +kernel)) ggX5_fault_X5_findFault
theorem dX5_fault_0 : decode cX5_fault 0 = .ok (.aload_n 0, 1) := by decide +kernel
theorem dX5_fault_1 : decode cX5_fault 1 = .ok (.invokevirtual 215, 3) := by decide +kernel
theorem dX5_fault_4 : decode cX5_fault 4 = .ok (.ireturn, 1) := by decide +kernel
set_option maxRecDepth 20000 in
theorem ggX5_canDo_X5_whyNotJoined : GoodIn wsX5_canDo wsX5_whyNotJoined := goodIn_r _ [8, 9, 10, 7, 11, 12, 13, 14, 15, 16, 17, 18, 19, 32, 33, 34, 35, 36, 37, 38, 39, 40, 41, 42, 43, 44] (by decide +kernel) (by decide +kernel)
set_option maxRecDepth 20000 in
theorem gX5_canDo_X5_whyNotJoined : GoodIn wsX5_canDo (wsV RX5 141 RX5 yX5_whyNotJoined wsX5_whyNotJoined) := goodIn_app (goodIn_of _ (by decide +kernel)) ggX5_canDo_X5_whyNotJoined
set_option maxRecDepth 20000 in
theorem ggX5_canDo_X5_isRange : GoodIn wsX5_canDo wsX5_isRange := goodIn_r _ [22, 23, 24, 25, 7, 26, 27, 12, 13, 14] (by decide +kernel) (by decide +kernel)
set_option maxRecDepth 20000 in
theorem gX5_canDo_X5_isRange : GoodIn wsX5_canDo (va_wsS RX5 134 yX5_isRange wsX5_isRange) := goodIn_app (goodIn_of _ (by decide +kernel)) ggX5_canDo_X5_isRange
set_option maxRecDepth 20000 in
theorem ggX5_canDo_X5_whyNotFolded : GoodIn wsX5_canDo wsX5_whyNotFolded := goodIn_r _ [31, 9, 10, 7, 11, 12, 13, 14, 15, 16, 17, 18, 19, 32, 33, 34, 35, 36, 37, 38, 39, 40, 41, 42, 43, 44] (by decide +kernel) (by decide +kernel)
set_option maxRecDepth 20000 in
theorem gX5_canDo_X5_whyNotFolded : GoodIn wsX5_canDo (wsV RX5 147 RX5 yX5_whyNotFolded wsX5_whyNotFolded) := goodIn_app (goodIn_of _ (by decide +kernel)) ggX5_canDo_X5_whyNotFolded
theorem dX5_canDo_0 : decode cX5_canDo 0 = .ok (.aload_n 0, 1) := by decide +kernel
theorem dX5_canDo_1 : decode cX5_canDo 1 = .ok (.getfield 196, 3) := by decide +kernel
theorem dX5_canDo_4 : decode cX5_canDo 4 = .ok (.lookupswitch 92 #[(38, 36), (42, 59), (47, 75)], 36) := by decide +kernel
theorem dX5_canDo_40 : decode cX5_canDo 40 = .ok (.aload_n 0, 1) := by decide +kernel
theorem dX5_canDo_41 : decode cX5_canDo 41 = .ok (.aload_n 0, 1) := by decide +kernel
theorem dX5_canDo_42 : decode cX5_canDo 42 = .ok (.getfield 206, 3) := by decide +kernel
theorem dX5_canDo_45 : decode cX5_canDo 45 = .ok (.aload_n 0, 1) := by decide +kernel
theorem dX5_canDo_46 : decode cX5_canDo 46 = .ok (.getfield 28, 3) := by decide +kernel
theorem dX5_canDo_49 : decode cX5_canDo 49 = .ok (.iconst 0, 1) := by decide +kernel
theorem dX5_canDo_50 : decode cX5_canDo 50 = .ok (.iaload, 1) := by decide +kernel
theorem dX5_canDo_51 : decode cX5_canDo 51 = .ok (.invokevirtual 141, 3) := by decide +kernel
theorem dX5_canDo_54 : decode cX5_canDo 54 = .ok (.ifCond .ne 7, 3) := by decide +kernel
theorem dX5_canDo_57 : decode cX5_canDo 57 = .ok (.iconst 1, 1) := by decide +kernel
theorem dX5_canDo_58 : decode cX5_canDo 58 = .ok (.goto 4, 3) := by decide +kernel
theorem dX5_canDo_61 : decode cX5_canDo 61 = .ok (.iconst 0, 1) := by decide +kernel
theorem dX5_canDo_62 : decode cX5_canDo 62 = .ok (.ireturn, 1) := by decide +kernel
theorem dX5_canDo_63 : decode cX5_canDo 63 = .ok (.aload_n 0, 1) := by decide +kernel
theorem dX5_canDo_64 : decode cX5_canDo 64 = .ok (.getfield 28, 3) := by decide +kernel
theorem dX5_canDo_67 : decode cX5_canDo 67 = .ok (.iconst 0, 1) := by decide +kernel
theorem dX5_canDo_68 : decode cX5_canDo 68 = .ok (.iaload, 1) := by decide +kernel
theorem dX5_canDo_69 : decode cX5_canDo 69 = .ok (.aload_n 0, 1) := by decide +kernel
theorem dX5_canDo_70 : decode cX5_canDo 70 = .ok (.getfield 28, 3) := by decide +kernel
theorem dX5_canDo_73 : decode cX5_canDo 73 = .ok (.iconst 1, 1) := by decide +kernel
theorem dX5_canDo_74 : decode cX5_canDo 74 = .ok (.iaload, 1) := by decide +kernel
theorem dX5_canDo_75 : decode cX5_canDo 75 = .ok (.invokestatic 134, 3) := by decide +kernel
theorem dX5_canDo_78 : decode cX5_canDo 78 = .ok (.ireturn, 1) := by decide +kernel
theorem dX5_canDo_79 : decode cX5_canDo 79 = .ok (.aload_n 0, 1) := by decide +kernel
theorem dX5_canDo_80 : decode cX5_canDo 80 = .ok (.aload_n 0, 1) := by decide +kernel
theorem dX5_canDo_81 : decode cX5_canDo 81 = .ok (.getfield 206, 3) := by decide +kernel
theorem dX5_canDo_84 : decode cX5_canDo 84 = .ok (.invokevirtual 147, 3) := by decide +kernel
theorem dX5_canDo_87 : decode cX5_canDo 87 = .ok (.ifCond .ne 7, 3) := by decide +kernel
theorem dX5_canDo_90 : decode cX5_canDo 90 = .ok (.iconst 1, 1) := by decide +kernel
theorem dX5_canDo_91 : decode cX5_canDo 91 = .ok (.goto 4, 3) := by decide +kernel
theorem dX5_canDo_94 : decode cX5_canDo 94 = .ok (.iconst 0, 1) := by decide +kernel
theorem dX5_canDo_95 : decode cX5_canDo 95 = .ok (.ireturn, 1) := by decide +kernel
theorem dX5_canDo_96 : decode cX5_canDo 96 = .ok (.iconst 1, 1) := by decide +kernel
theorem dX5_canDo_97 : decode cX5_canDo 97 = .ok (.ireturn, 1) := by decide +kernel
set_option maxRecDepth 20000 in
theorem ggX5_does_X5_adds : GoodIn wsX5_does wsX5_adds := goodIn_r _ [9, 10, 11, 12, 8, 13, 14, 15, 16, 17, 18, 19, 20, 21, 22, 23, 24, 25, 26, 27, 28, 29, 30, 31, 32, 33, 34, 35, 36, 37, 38, 39, 40, 41, 42, 43, 44, 45, 46, 47, 48, 49, 50, 51, 52, 53, 54, 55, 56, 57, 58, 107, 108, 109, 110, 111, 112, 113, 114, 115, 116, 117, 118, 119] (by decide +kernel) (by decide +kernel)
set_option maxRecDepth 20000 in
theorem gX5_does_X5_adds : GoodIn wsX5_does (wsV RX5 130 RX5 yX5_adds wsX5_adds) := goodIn_app (goodIn_of _ (by decide +kernel)) ggX5_does_X5_adds
set_option maxRecDepth 20000 in
theorem ggX5_does_X5_joins : GoodIn wsX5_does wsX5_joins := goodIn_r _ [62, 35, 36, 37, 8, 38, 24, 25, 26, 27, 18, 39, 40, 41, 42, 47, 48, 49, 50, 55, 56, 57, 58, 43, 44, 45, 46, 51, 52, 53, 54, 63, 64, 65, 66, 67, 68, 69, 70, 71, 72, 73, 74, 75, 76, 77, 78, 79, 23, 80, 81, 82, 83, 84, 85, 86, 87, 88, 89, 90, 107, 108, 109, 110, 111, 112, 113, 114, 115, 116, 117, 118, 119] (by decide +kernel) (by decide +kernel)
set_option maxRecDepth 20000 in
theorem gX5_does_X5_joins : GoodIn wsX5_does (wsV RX5 144 RX5 yX5_joins wsX5_joins) := goodIn_app (goodIn_of _ (by decide +kernel)) ggX5_does_X5_joins
set_option maxRecDepth 20000 in
theorem ggX5_does_X5_addsRange : GoodIn wsX5_does wsX5_addsRange := goodIn_r _ [94, 5, 6, 7, 8, 9, 10, 11, 12, 13, 14, 15, 16, 17, 18, 19, 20, 21, 22, 23, 24, 25, 26, 27, 28, 29, 30, 31, 32, 33, 34, 35, 36, 37, 38, 39, 40, 41, 42, 43, 44, 45, 46, 47, 48, 49, 50, 51, 52, 53, 54, 55, 56, 57, 58, 107, 108, 109, 110, 111, 112, 113, 114, 115, 116, 117, 118, 119] (by decide +kernel) (by decide +kernel)
set_option maxRecDepth 20000 in
theorem gX5_does_X5_addsRange : GoodIn wsX5_does (wsV RX5 137 RX5 yX5_addsRange wsX5_addsRange) := goodIn_app (goodIn_of _ (by decide +kernel)) ggX5_does_X5_addsRange
set_option maxRecDepth 20000 in
theorem ggX5_does_X5_folds : GoodIn wsX5_does wsX5_folds := goodIn_r _ [98, 35, 36, 37, 8, 38, 24, 25, 26, 27, 18, 39, 40, 41, 42, 107, 108, 109, 110, 111, 112, 113, 114, 115, 116, 117, 118, 119] (by decide +kernel) (by decide +kernel)
set_option maxRecDepth 20000 in
theorem gX5_does_X5_folds : GoodIn wsX5_does (wsV RX5 150 RX5 yX5_folds wsX5_folds) := goodIn_app (goodIn_of _ (by decide +kernel)) ggX5_does_X5_folds
set_option maxRecDepth 20000 in
theorem ggX5_does_X5_empties : GoodIn wsX5_does wsX5_empties := goodIn_r _ [102, 103, 104, 105, 8, 106, 35, 36, 37, 38, 24, 25, 26, 27, 18, 39, 40, 41, 42, 107, 108, 109, 110, 111, 112, 113, 114, 115, 116, 117, 118, 119] (by decide +kernel) (by decide +kernel)
set_option maxRecDepth 20000 in
theorem gX5_does_X5_empties : GoodIn wsX5_does (wsV RX5 121 RX5 yX5_empties wsX5_empties) := goodIn_app (goodIn_of _ (by decide +kernel)) ggX5_does_X5_empties
theorem dX5_does_0 : decode cX5_does 0 = .ok (.aload_n 0, 1) := by decide +kernel
theorem dX5_does_1 : decode cX5_does 1 = .ok (.getfield 196, 3) := by decide +kernel
theorem dX5_does_4 : decode cX5_does 4 = .ok (.lookupswitch 132 #[(38, 78), (42, 96), (47, 120), (58, 44)], 44) := by decide +kernel
theorem dX5_does_48 : decode cX5_does 48 = .ok (.iconst 0, 1) := by decide +kernel
theorem dX5_does_49 : decode cX5_does 49 = .ok (.istore_n 1, 1) := by decide +kernel
theorem dX5_does_50 : decode cX5_does 50 = .ok (.iload_n 1, 1) := by decide +kernel
theorem dX5_does_51 : decode cX5_does 51 = .ok (.aload_n 0, 1) := by decide +kernel
theorem dX5_does_52 : decode cX5_does 52 = .ok (.getfield 193, 3) := by decide +kernel
theorem dX5_does_55 : decode cX5_does 55 = .ok (.if_icmp .ge 24, 3) := by decide +kernel
theorem dX5_does_58 : decode cX5_does 58 = .ok (.aload_n 0, 1) := by decide +kernel
theorem dX5_does_59 : decode cX5_does 59 = .ok (.aload_n 0, 1) := by decide +kernel
theorem dX5_does_60 : decode cX5_does 60 = .ok (.getfield 206, 3) := by decide +kernel
theorem dX5_does_63 : decode cX5_does 63 = .ok (.aload_n 0, 1) := by decide +kernel
theorem dX5_does_64 : decode cX5_does 64 = .ok (.getfield 28, 3) := by decide +kernel
theorem dX5_does_67 : decode cX5_does 67 = .ok (.iload_n 1, 1) := by decide +kernel
theorem dX5_does_68 : decode cX5_does 68 = .ok (.iaload, 1) := by decide +kernel
theorem dX5_does_69 : decode cX5_does 69 = .ok (.invokevirtual 130, 3) := by decide +kernel
theorem dX5_does_72 : decode cX5_does 72 = .ok (.pop, 1) := by decide +kernel
theorem dX5_does_73 : decode cX5_does 73 = .ok (.iinc 1 1, 3) := by decide +kernel
theorem dX5_does_76 : decode cX5_does 76 = .ok (.goto (-26), 3) := by decide +kernel
theorem dX5_does_79 : decode cX5_does 79 = .ok (.goto 66, 3) := by decide +kernel
theorem dX5_does_82 : decode cX5_does 82 = .ok (.aload_n 0, 1) := by decide +kernel
theorem dX5_does_83 : decode cX5_does 83 = .ok (.aload_n 0, 1) := by decide +kernel
theorem dX5_does_84 : decode cX5_does 84 = .ok (.getfield 206, 3) := by decide +kernel
theorem dX5_does_87 : decode cX5_does 87 = .ok (.aload_n 0, 1) := by decide +kernel
theorem dX5_does_88 : decode cX5_does 88 = .ok (.getfield 28, 3) := by decide +kernel
theorem dX5_does_91 : decode cX5_does 91 = .ok (.iconst 0, 1) := by decide +kernel
theorem dX5_does_92 : decode cX5_does 92 = .ok (.iaload, 1) := by decide +kernel
theorem dX5_does_93 : decode cX5_does 93 = .ok (.invokevirtual 144, 3) := by decide +kernel
theorem dX5_does_96 : decode cX5_does 96 = .ok (.pop, 1) := by decide +kernel
theorem dX5_does_97 : decode cX5_does 97 = .ok (.goto 48, 3) := by decide +kernel
theorem dX5_does_100 : decode cX5_does 100 = .ok (.aload_n 0, 1) := by decide +kernel
theorem dX5_does_101 : decode cX5_does 101 = .ok (.aload_n 0, 1) := by decide +kernel
theorem dX5_does_102 : decode cX5_does 102 = .ok (.getfield 206, 3) := by decide +kernel
theorem dX5_does_105 : decode cX5_does 105 = .ok (.aload_n 0, 1) := by decide +kernel
theorem dX5_does_106 : decode cX5_does 106 = .ok (.getfield 28, 3) := by decide +kernel
theorem dX5_does_109 : decode cX5_does 109 = .ok (.iconst 0, 1) := by decide +kernel
theorem dX5_does_110 : decode cX5_does 110 = .ok (.iaload, 1) := by decide +kernel
theorem dX5_does_111 : decode cX5_does 111 = .ok (.aload_n 0, 1) := by decide +kernel
theorem dX5_does_112 : decode cX5_does 112 = .ok (.getfield 28, 3) := by decide +kernel
theorem dX5_does_115 : decode cX5_does 115 = .ok (.iconst 1, 1) := by decide +kernel
theorem dX5_does_116 : decode cX5_does 116 = .ok (.iaload, 1) := by decide +kernel
theorem dX5_does_117 : decode cX5_does 117 = .ok (.invokevirtual 137, 3) := by decide +kernel
theorem dX5_does_120 : decode cX5_does 120 = .ok (.pop, 1) := by decide +kernel
theorem dX5_does_121 : decode cX5_does 121 = .ok (.goto 24, 3) := by decide +kernel
theorem dX5_does_124 : decode cX5_does 124 = .ok (.aload_n 0, 1) := by decide +kernel
theorem dX5_does_125 : decode cX5_does 125 = .ok (.aload_n 0, 1) := by decide +kernel
theorem dX5_does_126 : decode cX5_does 126 = .ok (.getfield 206, 3) := by decide +kernel
theorem dX5_does_129 : decode cX5_does 129 = .ok (.invokevirtual 150, 3) := by decide +kernel
theorem dX5_does_132 : decode cX5_does 132 = .ok (.pop, 1) := by decide +kernel
theorem dX5_does_133 : decode cX5_does 133 = .ok (.goto 12, 3) := by decide +kernel
theorem dX5_does_136 : decode cX5_does 136 = .ok (.aload_n 0, 1) := by decide +kernel
theorem dX5_does_137 : decode cX5_does 137 = .ok (.aload_n 0, 1) := by decide +kernel
theorem dX5_does_138 : decode cX5_does 138 = .ok (.getfield 206, 3) := by decide +kernel
theorem dX5_does_141 : decode cX5_does 141 = .ok (.invokevirtual 121, 3) := by decide +kernel
theorem dX5_does_144 : decode cX5_does 144 = .ok (.pop, 1) := by decide +kernel
theorem dX5_does_145 : decode cX5_does 145 = .ok (.return_, 1) := by decide +kernel
set_option maxRecDepth 20000 in
theorem ggX5_carryOut_X5_findFault : GoodIn wsX5_carryOut wsX5_findFault := goodIn_r _ [7, 1, 2, 8, 9, 10, 6, 11, 12, 13, 14, 15, 16, 17, 18, 19, 20, 21, 22, 23, 24, 25, 26, 27, 28, 29, 30, 31, 32, 33, 34, 35, 36, 37, 38, 39, 177, 178, 179, 180, 181, 182, 183, 184, 185, 186, 187, 188, 189] (by decide +kernel) (by decide +kernel)
set_option maxRecDepth 20000 in
theorem gX5_carryOut_X5_findFault : GoodIn wsX5_carryOut (wsV RX5 215 RX5 yX5_findFault wsX5_findFault) := goodIn_app (goodIn_of _ (by decide +kernel)) ggX5_carryOut_X5_findFault
set_option maxRecDepth 20000 in
theorem ggX5_carryOut_X5_record : GoodIn wsX5_carryOut wsX5_record := goodIn_r _ [43, 44, 45, 46, 47, 48, 6, 49, 177, 178, 179, 180, 181, 182, 183, 184, 185, 186, 187, 188, 189] (by decide +kernel) (by decide +kernel)
set_option maxRecDepth 20000 in
theorem gX5_carryOut_X5_record : GoodIn wsX5_carryOut (wsV RX5 118 RX5 yX5_record wsX5_record) := goodIn_app (goodIn_of _ (by decide +kernel)) ggX5_carryOut_X5_record
set_option maxRecDepth 20000 in
theorem ggX5_carryOut_X5_readsOrder : GoodIn wsX5_carryOut wsX5_readsOrder := goodIn_r _ [11, 12, 13, 1, 14, 15, 16, 17, 6, 18, 19, 20, 21, 22, 2, 23, 24, 25, 26, 27, 28, 29, 30, 31, 32, 33, 34, 35, 36, 37, 38, 39, 177, 178, 179, 180, 181, 182, 183, 184, 185, 186, 187, 188, 189] (by decide +kernel) (by decide +kernel)
set_option maxRecDepth 20000 in
theorem gX5_carryOut_X5_readsOrder : GoodIn wsX5_carryOut (wsV RX5 212 RX5 yX5_readsOrder wsX5_readsOrder) := goodIn_app (goodIn_of _ (by decide +kernel)) ggX5_carryOut_X5_readsOrder
set_option maxRecDepth 20000 in
theorem ggX5_carryOut_X5_isNext : GoodIn wsX5_carryOut wsX5_isNext := goodIn_r _ [39, 1, 19, 20, 21, 6, 22, 2, 23, 177, 178, 179, 180, 181, 182, 183, 184, 185, 186, 187, 188, 189] (by decide +kernel) (by decide +kernel)
set_option maxRecDepth 20000 in
theorem gX5_carryOut_X5_isNext : GoodIn wsX5_carryOut (wsV RX5 203 RX5 yX5_isNext wsX5_isNext) := goodIn_app (goodIn_of _ (by decide +kernel)) ggX5_carryOut_X5_isNext
set_option maxRecDepth 20000 in
theorem ggX5_carryOut_X5_canDo : GoodIn wsX5_carryOut wsX5_canDo := goodIn_r _ [53, 14, 13, 31, 54, 55, 56, 6, 57, 58, 59, 60, 24, 25, 26, 61, 62, 63, 64, 46, 65, 66, 67, 68, 69, 70, 71, 72, 73, 74, 75, 76, 177, 178, 179, 180, 181, 182, 183, 184, 185, 186, 187, 188, 189] (by decide +kernel) (by decide +kernel)
set_option maxRecDepth 20000 in
theorem gX5_carryOut_X5_canDo : GoodIn wsX5_carryOut (wsV RX5 218 RX5 yX5_canDo wsX5_canDo) := goodIn_app (goodIn_of _ (by decide +kernel)) ggX5_carryOut_X5_canDo
set_option maxRecDepth 20000 in
theorem ggX5_carryOut_X5_does : GoodIn wsX5_carryOut wsX5_does := goodIn_r _ [80, 14, 12, 13, 31, 81, 82, 83, 6, 84, 85, 86, 87, 88, 89, 90, 91, 92, 46, 93, 94, 95, 96, 97, 61, 62, 63, 64, 98, 99, 100, 101, 102, 103, 104, 105, 106, 107, 108, 109, 110, 111, 112, 113, 114, 115, 116, 117, 118, 119, 120, 121, 122, 123, 124, 125, 126, 127, 128, 129, 130, 131, 132, 133, 134, 135, 136, 137, 138, 139, 140, 141, 142, 143, 144, 145, 146, 147, 148, 149, 150, 151, 152, 153, 154, 155, 156, 157, 158, 159, 160, 161, 162, 163, 164, 165, 166, 167, 168, 169, 170, 171, 172, 173, 174, 175, 176, 177, 178, 179, 180, 181, 182, 183, 184, 185, 186, 187, 188, 189] (by decide +kernel) (by decide +kernel)
set_option maxRecDepth 20000 in
theorem gX5_carryOut_X5_does : GoodIn wsX5_carryOut (wsV RX5 221 RX5 yX5_does wsX5_does) := goodIn_app (goodIn_of _ (by decide +kernel)) ggX5_carryOut_X5_does
theorem dX5_carryOut_0 : decode cX5_carryOut 0 = .ok (.aload_n 0, 1) := by decide +kernel
theorem dX5_carryOut_1 : decode cX5_carryOut 1 = .ok (.invokevirtual 215, 3) := by decide +kernel
theorem dX5_carryOut_4 : decode cX5_carryOut 4 = .ok (.bipush (-6), 2) := by decide +kernel
theorem dX5_carryOut_6 : decode cX5_carryOut 6 = .ok (.if_icmp .eq 6, 3) := by decide +kernel
theorem dX5_carryOut_9 : decode cX5_carryOut 9 = .ok (.bipush (-3), 2) := by decide +kernel
theorem dX5_carryOut_11 : decode cX5_carryOut 11 = .ok (.ireturn, 1) := by decide +kernel
theorem dX5_carryOut_12 : decode cX5_carryOut 12 = .ok (.aload_n 0, 1) := by decide +kernel
theorem dX5_carryOut_13 : decode cX5_carryOut 13 = .ok (.invokevirtual 118, 3) := by decide +kernel
theorem dX5_carryOut_16 : decode cX5_carryOut 16 = .ok (.iconst 0, 1) := by decide +kernel
theorem dX5_carryOut_17 : decode cX5_carryOut 17 = .ok (.istore_n 1, 1) := by decide +kernel
theorem dX5_carryOut_18 : decode cX5_carryOut 18 = .ok (.aload_n 0, 1) := by decide +kernel
theorem dX5_carryOut_19 : decode cX5_carryOut 19 = .ok (.iconst 0, 1) := by decide +kernel
theorem dX5_carryOut_20 : decode cX5_carryOut 20 = .ok (.putfield 184, 3) := by decide +kernel
theorem dX5_carryOut_23 : decode cX5_carryOut 23 = .ok (.iconst 1, 1) := by decide +kernel
theorem dX5_carryOut_24 : decode cX5_carryOut 24 = .ok (.istore_n 2, 1) := by decide +kernel
theorem dX5_carryOut_25 : decode cX5_carryOut 25 = .ok (.iload_n 2, 1) := by decide +kernel
theorem dX5_carryOut_26 : decode cX5_carryOut 26 = .ok (.ifCond .eq 45, 3) := by decide +kernel
theorem dX5_carryOut_29 : decode cX5_carryOut 29 = .ok (.aload_n 0, 1) := by decide +kernel
theorem dX5_carryOut_30 : decode cX5_carryOut 30 = .ok (.getfield 184, 3) := by decide +kernel
theorem dX5_carryOut_33 : decode cX5_carryOut 33 = .ok (.aload_n 0, 1) := by decide +kernel
theorem dX5_carryOut_34 : decode cX5_carryOut 34 = .ok (.getfield 173, 3) := by decide +kernel
theorem dX5_carryOut_37 : decode cX5_carryOut 37 = .ok (.if_icmp .ge 34, 3) := by decide +kernel
theorem dX5_carryOut_40 : decode cX5_carryOut 40 = .ok (.aload_n 0, 1) := by decide +kernel
theorem dX5_carryOut_41 : decode cX5_carryOut 41 = .ok (.invokevirtual 212, 3) := by decide +kernel
theorem dX5_carryOut_44 : decode cX5_carryOut 44 = .ok (.pop, 1) := by decide +kernel
theorem dX5_carryOut_45 : decode cX5_carryOut 45 = .ok (.aload_n 0, 1) := by decide +kernel
theorem dX5_carryOut_46 : decode cX5_carryOut 46 = .ok (.bipush 59, 2) := by decide +kernel
theorem dX5_carryOut_48 : decode cX5_carryOut 48 = .ok (.invokevirtual 203, 3) := by decide +kernel
theorem dX5_carryOut_51 : decode cX5_carryOut 51 = .ok (.pop, 1) := by decide +kernel
theorem dX5_carryOut_52 : decode cX5_carryOut 52 = .ok (.aload_n 0, 1) := by decide +kernel
theorem dX5_carryOut_53 : decode cX5_carryOut 53 = .ok (.invokevirtual 218, 3) := by decide +kernel
theorem dX5_carryOut_56 : decode cX5_carryOut 56 = .ok (.istore_n 2, 1) := by decide +kernel
theorem dX5_carryOut_57 : decode cX5_carryOut 57 = .ok (.iload_n 2, 1) := by decide +kernel
theorem dX5_carryOut_58 : decode cX5_carryOut 58 = .ok (.ifCond .eq (-33), 3) := by decide +kernel
theorem dX5_carryOut_61 : decode cX5_carryOut 61 = .ok (.aload_n 0, 1) := by decide +kernel
theorem dX5_carryOut_62 : decode cX5_carryOut 62 = .ok (.invokevirtual 221, 3) := by decide +kernel
theorem dX5_carryOut_65 : decode cX5_carryOut 65 = .ok (.iinc 1 1, 3) := by decide +kernel
theorem dX5_carryOut_68 : decode cX5_carryOut 68 = .ok (.goto (-43), 3) := by decide +kernel
theorem dX5_carryOut_71 : decode cX5_carryOut 71 = .ok (.aload_n 0, 1) := by decide +kernel
theorem dX5_carryOut_72 : decode cX5_carryOut 72 = .ok (.iconst 0, 1) := by decide +kernel
theorem dX5_carryOut_73 : decode cX5_carryOut 73 = .ok (.putfield 173, 3) := by decide +kernel
theorem dX5_carryOut_76 : decode cX5_carryOut 76 = .ok (.iload_n 1, 1) := by decide +kernel
theorem dX5_carryOut_77 : decode cX5_carryOut 77 = .ok (.ireturn, 1) := by decide +kernel
set_option maxRecDepth 20000 in
theorem ggX5_undo_X5_moves : GoodIn wsX5_undo wsX5_moves := goodIn_r _ [7] (by decide +kernel) (by decide +kernel)
set_option maxRecDepth 20000 in
theorem gX5_undo_X5_moves : GoodIn wsX5_undo (va_wsS RX5 39 yX5_moves wsX5_moves) := goodIn_app (goodIn_of _ (by decide +kernel)) ggX5_undo_X5_moves
theorem dX5_undo_0 : decode cX5_undo 0 = .ok (.aload_n 0, 1) := by decide +kernel
theorem dX5_undo_1 : decode cX5_undo 1 = .ok (.getfield 35, 3) := by decide +kernel
theorem dX5_undo_4 : decode cX5_undo 4 = .ok (.ifCond .ne 6, 3) := by decide +kernel
theorem dX5_undo_7 : decode cX5_undo 7 = .ok (.bipush (-5), 2) := by decide +kernel
theorem dX5_undo_9 : decode cX5_undo 9 = .ok (.ireturn, 1) := by decide +kernel
theorem dX5_undo_10 : decode cX5_undo 10 = .ok (.aload_n 0, 1) := by decide +kernel
theorem dX5_undo_11 : decode cX5_undo 11 = .ok (.dup, 1) := by decide +kernel
theorem dX5_undo_12 : decode cX5_undo 12 = .ok (.getfield 35, 3) := by decide +kernel
theorem dX5_undo_15 : decode cX5_undo 15 = .ok (.iconst 1, 1) := by decide +kernel
theorem dX5_undo_16 : decode cX5_undo 16 = .ok (.isub, 1) := by decide +kernel
theorem dX5_undo_17 : decode cX5_undo 17 = .ok (.putfield 35, 3) := by decide +kernel
theorem dX5_undo_20 : decode cX5_undo 20 = .ok (.aload_n 0, 1) := by decide +kernel
theorem dX5_undo_21 : decode cX5_undo 21 = .ok (.getfield 13, 3) := by decide +kernel
theorem dX5_undo_24 : decode cX5_undo 24 = .ok (.aload_n 0, 1) := by decide +kernel
theorem dX5_undo_25 : decode cX5_undo 25 = .ok (.getfield 35, 3) := by decide +kernel
theorem dX5_undo_28 : decode cX5_undo 28 = .ok (.sipush 637, 3) := by decide +kernel
theorem dX5_undo_31 : decode cX5_undo 31 = .ok (.imul, 1) := by decide +kernel
theorem dX5_undo_32 : decode cX5_undo 32 = .ok (.aload_n 0, 1) := by decide +kernel
theorem dX5_undo_33 : decode cX5_undo 33 = .ok (.getfield 7, 3) := by decide +kernel
theorem dX5_undo_36 : decode cX5_undo 36 = .ok (.iconst 0, 1) := by decide +kernel
theorem dX5_undo_37 : decode cX5_undo 37 = .ok (.invokestatic 39, 3) := by decide +kernel
theorem dX5_undo_40 : decode cX5_undo 40 = .ok (.aload_n 0, 1) := by decide +kernel
theorem dX5_undo_41 : decode cX5_undo 41 = .ok (.getfield 35, 3) := by decide +kernel
theorem dX5_undo_44 : decode cX5_undo 44 = .ok (.ireturn, 1) := by decide +kernel
set_option maxRecDepth 20000 in
theorem ggX5_save_X5_within : GoodIn wsX5_save wsX5_within := goodIn_r _ [7] (by decide +kernel) (by decide +kernel)
set_option maxRecDepth 20000 in
theorem gX5_save_X5_within : GoodIn wsX5_save (va_wsS RX5 43 yX5_within wsX5_within) := goodIn_app (goodIn_of _ (by decide +kernel)) ggX5_save_X5_within
set_option maxRecDepth 20000 in
theorem ggX5_save_X5_moves : GoodIn wsX5_save wsX5_moves := goodIn_r _ [10] (by decide +kernel) (by decide +kernel)
set_option maxRecDepth 20000 in
theorem gX5_save_X5_moves : GoodIn wsX5_save (va_wsS RX5 39 yX5_moves wsX5_moves) := goodIn_app (goodIn_of _ (by decide +kernel)) ggX5_save_X5_moves
set_option maxRecDepth 20000 in
theorem ggX5_save_X5_allFilled : GoodIn wsX5_save wsX5_allFilled := goodIn_r _ [14, 15, 16, 17, 6, 18, 19, 20, 21, 22, 23, 24, 25, 26, 1, 27, 28, 29, 30, 31, 32, 33, 34, 35, 36, 37, 38, 39] (by decide +kernel) (by decide +kernel)
set_option maxRecDepth 20000 in
theorem gX5_save_X5_allFilled : GoodIn wsX5_save (wsV RX5 167 RX5 yX5_allFilled wsX5_allFilled) := goodIn_app (goodIn_of _ (by decide +kernel)) ggX5_save_X5_allFilled
theorem dX5_save_0 : decode cX5_save 0 = .ok (.iload_n 1, 1) := by decide +kernel
theorem dX5_save_1 : decode cX5_save 1 = .ok (.iconst 0, 1) := by decide +kernel
theorem dX5_save_2 : decode cX5_save 2 = .ok (.iconst 1, 1) := by decide +kernel
theorem dX5_save_3 : decode cX5_save 3 = .ok (.invokestatic 43, 3) := by decide +kernel
theorem dX5_save_6 : decode cX5_save 6 = .ok (.ifCond .ne 6, 3) := by decide +kernel
theorem dX5_save_9 : decode cX5_save 9 = .ok (.bipush (-2), 2) := by decide +kernel
theorem dX5_save_11 : decode cX5_save 11 = .ok (.ireturn, 1) := by decide +kernel
theorem dX5_save_12 : decode cX5_save 12 = .ok (.aload_n 0, 1) := by decide +kernel
theorem dX5_save_13 : decode cX5_save 13 = .ok (.getfield 7, 3) := by decide +kernel
theorem dX5_save_16 : decode cX5_save 16 = .ok (.iconst 0, 1) := by decide +kernel
theorem dX5_save_17 : decode cX5_save 17 = .ok (.aload_n 0, 1) := by decide +kernel
theorem dX5_save_18 : decode cX5_save 18 = .ok (.getfield 16, 3) := by decide +kernel
theorem dX5_save_21 : decode cX5_save 21 = .ok (.sipush 637, 3) := by decide +kernel
theorem dX5_save_24 : decode cX5_save 24 = .ok (.iload_n 1, 1) := by decide +kernel
theorem dX5_save_25 : decode cX5_save 25 = .ok (.imul, 1) := by decide +kernel
theorem dX5_save_26 : decode cX5_save 26 = .ok (.invokestatic 39, 3) := by decide +kernel
theorem dX5_save_29 : decode cX5_save 29 = .ok (.aload_n 0, 1) := by decide +kernel
theorem dX5_save_30 : decode cX5_save 30 = .ok (.getfield 19, 3) := by decide +kernel
theorem dX5_save_33 : decode cX5_save 33 = .ok (.iload_n 1, 1) := by decide +kernel
theorem dX5_save_34 : decode cX5_save 34 = .ok (.iconst 1, 1) := by decide +kernel
theorem dX5_save_35 : decode cX5_save 35 = .ok (.iastore, 1) := by decide +kernel
theorem dX5_save_36 : decode cX5_save 36 = .ok (.aload_n 0, 1) := by decide +kernel
theorem dX5_save_37 : decode cX5_save 37 = .ok (.invokevirtual 167, 3) := by decide +kernel
theorem dX5_save_40 : decode cX5_save 40 = .ok (.ireturn, 1) := by decide +kernel
set_option maxRecDepth 20000 in
theorem ggX5_restore_X5_within : GoodIn wsX5_restore wsX5_within := goodIn_r _ [7] (by decide +kernel) (by decide +kernel)
set_option maxRecDepth 20000 in
theorem gX5_restore_X5_within : GoodIn wsX5_restore (va_wsS RX5 43 yX5_within wsX5_within) := goodIn_app (goodIn_of _ (by decide +kernel)) ggX5_restore_X5_within
set_option maxRecDepth 20000 in
theorem ggX5_restore_X5_record : GoodIn wsX5_restore wsX5_record := goodIn_r _ [11, 12, 13, 3, 14, 15, 6, 16, 33, 34, 35, 36, 37, 38, 39, 40, 41, 42, 43, 44, 45] (by decide +kernel) (by decide +kernel)
set_option maxRecDepth 20000 in
theorem gX5_restore_X5_record : GoodIn wsX5_restore (wsV RX5 118 RX5 yX5_record wsX5_record) := goodIn_app (goodIn_of _ (by decide +kernel)) ggX5_restore_X5_record
set_option maxRecDepth 20000 in
theorem ggX5_restore_X5_moves : GoodIn wsX5_restore wsX5_moves := goodIn_r _ [16] (by decide +kernel) (by decide +kernel)
set_option maxRecDepth 20000 in
theorem gX5_restore_X5_moves : GoodIn wsX5_restore (va_wsS RX5 39 yX5_moves wsX5_moves) := goodIn_app (goodIn_of _ (by decide +kernel)) ggX5_restore_X5_moves
set_option maxRecDepth 20000 in
theorem ggX5_restore_X5_allFilled : GoodIn wsX5_restore wsX5_allFilled := goodIn_r _ [20, 21, 22, 23, 6, 24, 25, 26, 27, 28, 29, 30, 31, 32, 3, 33, 34, 35, 36, 37, 38, 39, 40, 41, 42, 43, 44, 45] (by decide +kernel) (by decide +kernel)
set_option maxRecDepth 20000 in
theorem gX5_restore_X5_allFilled : GoodIn wsX5_restore (wsV RX5 167 RX5 yX5_allFilled wsX5_allFilled) := goodIn_app (goodIn_of _ (by decide +kernel)) ggX5_restore_X5_allFilled
theorem dX5_restore_0 : decode cX5_restore 0 = .ok (.iload_n 1, 1) := by decide +kernel
theorem dX5_restore_1 : decode cX5_restore 1 = .ok (.iconst 0, 1) := by decide +kernel
theorem dX5_restore_2 : decode cX5_restore 2 = .ok (.iconst 1, 1) := by decide +kernel
theorem dX5_restore_3 : decode cX5_restore 3 = .ok (.invokestatic 43, 3) := by decide +kernel
theorem dX5_restore_6 : decode cX5_restore 6 = .ok (.ifCond .ne 6, 3) := by decide +kernel
theorem dX5_restore_9 : decode cX5_restore 9 = .ok (.bipush (-2), 2) := by decide +kernel
theorem dX5_restore_11 : decode cX5_restore 11 = .ok (.ireturn, 1) := by decide +kernel
theorem dX5_restore_12 : decode cX5_restore 12 = .ok (.aload_n 0, 1) := by decide +kernel
theorem dX5_restore_13 : decode cX5_restore 13 = .ok (.getfield 19, 3) := by decide +kernel
theorem dX5_restore_16 : decode cX5_restore 16 = .ok (.iload_n 1, 1) := by decide +kernel
theorem dX5_restore_17 : decode cX5_restore 17 = .ok (.iaload, 1) := by decide +kernel
theorem dX5_restore_18 : decode cX5_restore 18 = .ok (.ifCond .ne 6, 3) := by decide +kernel
theorem dX5_restore_21 : decode cX5_restore 21 = .ok (.bipush (-5), 2) := by decide +kernel
theorem dX5_restore_23 : decode cX5_restore 23 = .ok (.ireturn, 1) := by decide +kernel
theorem dX5_restore_24 : decode cX5_restore 24 = .ok (.aload_n 0, 1) := by decide +kernel
theorem dX5_restore_25 : decode cX5_restore 25 = .ok (.invokevirtual 118, 3) := by decide +kernel
theorem dX5_restore_28 : decode cX5_restore 28 = .ok (.aload_n 0, 1) := by decide +kernel
theorem dX5_restore_29 : decode cX5_restore 29 = .ok (.getfield 16, 3) := by decide +kernel
theorem dX5_restore_32 : decode cX5_restore 32 = .ok (.sipush 637, 3) := by decide +kernel
theorem dX5_restore_35 : decode cX5_restore 35 = .ok (.iload_n 1, 1) := by decide +kernel
theorem dX5_restore_36 : decode cX5_restore 36 = .ok (.imul, 1) := by decide +kernel
theorem dX5_restore_37 : decode cX5_restore 37 = .ok (.aload_n 0, 1) := by decide +kernel
theorem dX5_restore_38 : decode cX5_restore 38 = .ok (.getfield 7, 3) := by decide +kernel
theorem dX5_restore_41 : decode cX5_restore 41 = .ok (.iconst 0, 1) := by decide +kernel
theorem dX5_restore_42 : decode cX5_restore 42 = .ok (.invokestatic 39, 3) := by decide +kernel
theorem dX5_restore_45 : decode cX5_restore 45 = .ok (.aload_n 0, 1) := by decide +kernel
theorem dX5_restore_46 : decode cX5_restore 46 = .ok (.invokevirtual 167, 3) := by decide +kernel
theorem dX5_restore_49 : decode cX5_restore 49 = .ok (.ireturn, 1) := by decide +kernel
theorem dJ6_bitCount_0f7a4_0 : decode cJ6_bitCount_0f7a4 0 = .ok (.iload_n 0, 1) := by decide +kernel
theorem dJ6_bitCount_0f7a4_1 : decode cJ6_bitCount_0f7a4 1 = .ok (.iload_n 0, 1) := by decide +kernel
theorem dJ6_bitCount_0f7a4_2 : decode cJ6_bitCount_0f7a4 2 = .ok (.iconst 1, 1) := by decide +kernel
theorem dJ6_bitCount_0f7a4_3 : decode cJ6_bitCount_0f7a4 3 = .ok (.iushr, 1) := by decide +kernel
theorem dJ6_bitCount_0f7a4_4 : decode cJ6_bitCount_0f7a4 4 = .ok (.ldc_w 265, 3) := by decide +kernel
theorem dJ6_bitCount_0f7a4_7 : decode cJ6_bitCount_0f7a4 7 = .ok (.iand, 1) := by decide +kernel
theorem dJ6_bitCount_0f7a4_8 : decode cJ6_bitCount_0f7a4 8 = .ok (.isub, 1) := by decide +kernel
theorem dJ6_bitCount_0f7a4_9 : decode cJ6_bitCount_0f7a4 9 = .ok (.istore_n 0, 1) := by decide +kernel
theorem dJ6_bitCount_0f7a4_10 : decode cJ6_bitCount_0f7a4 10 = .ok (.iload_n 0, 1) := by decide +kernel
theorem dJ6_bitCount_0f7a4_11 : decode cJ6_bitCount_0f7a4 11 = .ok (.ldc_w 266, 3) := by decide +kernel
theorem dJ6_bitCount_0f7a4_14 : decode cJ6_bitCount_0f7a4 14 = .ok (.iand, 1) := by decide +kernel
theorem dJ6_bitCount_0f7a4_15 : decode cJ6_bitCount_0f7a4 15 = .ok (.iload_n 0, 1) := by decide +kernel
theorem dJ6_bitCount_0f7a4_16 : decode cJ6_bitCount_0f7a4 16 = .ok (.iconst 2, 1) := by decide +kernel
theorem dJ6_bitCount_0f7a4_17 : decode cJ6_bitCount_0f7a4 17 = .ok (.iushr, 1) := by decide +kernel
theorem dJ6_bitCount_0f7a4_18 : decode cJ6_bitCount_0f7a4 18 = .ok (.ldc_w 266, 3) := by decide +kernel
theorem dJ6_bitCount_0f7a4_21 : decode cJ6_bitCount_0f7a4 21 = .ok (.iand, 1) := by decide +kernel
theorem dJ6_bitCount_0f7a4_22 : decode cJ6_bitCount_0f7a4 22 = .ok (.iadd, 1) := by decide +kernel
theorem dJ6_bitCount_0f7a4_23 : decode cJ6_bitCount_0f7a4 23 = .ok (.istore_n 0, 1) := by decide +kernel
theorem dJ6_bitCount_0f7a4_24 : decode cJ6_bitCount_0f7a4 24 = .ok (.iload_n 0, 1) := by decide +kernel
theorem dJ6_bitCount_0f7a4_25 : decode cJ6_bitCount_0f7a4 25 = .ok (.iload_n 0, 1) := by decide +kernel
theorem dJ6_bitCount_0f7a4_26 : decode cJ6_bitCount_0f7a4 26 = .ok (.iconst 4, 1) := by decide +kernel
theorem dJ6_bitCount_0f7a4_27 : decode cJ6_bitCount_0f7a4 27 = .ok (.iushr, 1) := by decide +kernel
theorem dJ6_bitCount_0f7a4_28 : decode cJ6_bitCount_0f7a4 28 = .ok (.iadd, 1) := by decide +kernel
theorem dJ6_bitCount_0f7a4_29 : decode cJ6_bitCount_0f7a4 29 = .ok (.ldc_w 267, 3) := by decide +kernel
theorem dJ6_bitCount_0f7a4_32 : decode cJ6_bitCount_0f7a4 32 = .ok (.iand, 1) := by decide +kernel
theorem dJ6_bitCount_0f7a4_33 : decode cJ6_bitCount_0f7a4 33 = .ok (.istore_n 0, 1) := by decide +kernel
theorem dJ6_bitCount_0f7a4_34 : decode cJ6_bitCount_0f7a4 34 = .ok (.iload_n 0, 1) := by decide +kernel
theorem dJ6_bitCount_0f7a4_35 : decode cJ6_bitCount_0f7a4 35 = .ok (.iload_n 0, 1) := by decide +kernel
theorem dJ6_bitCount_0f7a4_36 : decode cJ6_bitCount_0f7a4 36 = .ok (.bipush 8, 2) := by decide +kernel
theorem dJ6_bitCount_0f7a4_38 : decode cJ6_bitCount_0f7a4 38 = .ok (.iushr, 1) := by decide +kernel
theorem dJ6_bitCount_0f7a4_39 : decode cJ6_bitCount_0f7a4 39 = .ok (.iadd, 1) := by decide +kernel
theorem dJ6_bitCount_0f7a4_40 : decode cJ6_bitCount_0f7a4 40 = .ok (.istore_n 0, 1) := by decide +kernel
theorem dJ6_bitCount_0f7a4_41 : decode cJ6_bitCount_0f7a4 41 = .ok (.iload_n 0, 1) := by decide +kernel
theorem dJ6_bitCount_0f7a4_42 : decode cJ6_bitCount_0f7a4 42 = .ok (.iload_n 0, 1) := by decide +kernel
theorem dJ6_bitCount_0f7a4_43 : decode cJ6_bitCount_0f7a4 43 = .ok (.bipush 16, 2) := by decide +kernel
theorem dJ6_bitCount_0f7a4_45 : decode cJ6_bitCount_0f7a4 45 = .ok (.iushr, 1) := by decide +kernel
theorem dJ6_bitCount_0f7a4_46 : decode cJ6_bitCount_0f7a4 46 = .ok (.iadd, 1) := by decide +kernel
theorem dJ6_bitCount_0f7a4_47 : decode cJ6_bitCount_0f7a4 47 = .ok (.istore_n 0, 1) := by decide +kernel
theorem dJ6_bitCount_0f7a4_48 : decode cJ6_bitCount_0f7a4 48 = .ok (.iload_n 0, 1) := by decide +kernel
theorem dJ6_bitCount_0f7a4_49 : decode cJ6_bitCount_0f7a4 49 = .ok (.bipush 63, 2) := by decide +kernel
theorem dJ6_bitCount_0f7a4_51 : decode cJ6_bitCount_0f7a4 51 = .ok (.iand, 1) := by decide +kernel
theorem dJ6_bitCount_0f7a4_52 : decode cJ6_bitCount_0f7a4 52 = .ok (.ireturn, 1) := by decide +kernel
theorem dJ9_floorMod_7cf53_0 : decode cJ9_floorMod_7cf53 0 = .ok (.iload_n 0, 1) := by decide +kernel
theorem dJ9_floorMod_7cf53_1 : decode cJ9_floorMod_7cf53 1 = .ok (.iload_n 1, 1) := by decide +kernel
theorem dJ9_floorMod_7cf53_2 : decode cJ9_floorMod_7cf53 2 = .ok (.irem, 1) := by decide +kernel
theorem dJ9_floorMod_7cf53_3 : decode cJ9_floorMod_7cf53 3 = .ok (.istore_n 2, 1) := by decide +kernel
theorem dJ9_floorMod_7cf53_4 : decode cJ9_floorMod_7cf53 4 = .ok (.iload_n 0, 1) := by decide +kernel
theorem dJ9_floorMod_7cf53_5 : decode cJ9_floorMod_7cf53 5 = .ok (.iload_n 1, 1) := by decide +kernel
theorem dJ9_floorMod_7cf53_6 : decode cJ9_floorMod_7cf53 6 = .ok (.ixor, 1) := by decide +kernel
theorem dJ9_floorMod_7cf53_7 : decode cJ9_floorMod_7cf53 7 = .ok (.ifCond .ge 11, 3) := by decide +kernel
theorem dJ9_floorMod_7cf53_10 : decode cJ9_floorMod_7cf53 10 = .ok (.iload_n 2, 1) := by decide +kernel
theorem dJ9_floorMod_7cf53_11 : decode cJ9_floorMod_7cf53 11 = .ok (.ifCond .eq 7, 3) := by decide +kernel
theorem dJ9_floorMod_7cf53_14 : decode cJ9_floorMod_7cf53 14 = .ok (.iload_n 2, 1) := by decide +kernel
theorem dJ9_floorMod_7cf53_15 : decode cJ9_floorMod_7cf53 15 = .ok (.iload_n 1, 1) := by decide +kernel
theorem dJ9_floorMod_7cf53_16 : decode cJ9_floorMod_7cf53 16 = .ok (.iadd, 1) := by decide +kernel
theorem dJ9_floorMod_7cf53_17 : decode cJ9_floorMod_7cf53 17 = .ok (.ireturn, 1) := by decide +kernel
theorem dJ9_floorMod_7cf53_18 : decode cJ9_floorMod_7cf53 18 = .ok (.iload_n 2, 1) := by decide +kernel
theorem dJ9_floorMod_7cf53_19 : decode cJ9_floorMod_7cf53 19 = .ok (.ireturn, 1) := by decide +kernel
theorem dJ9_abs_0f7a4_0 : decode cJ9_abs_0f7a4 0 = .ok (.iload_n 0, 1) := by decide +kernel
theorem dJ9_abs_0f7a4_1 : decode cJ9_abs_0f7a4 1 = .ok (.ifCond .ge 8, 3) := by decide +kernel
theorem dJ9_abs_0f7a4_4 : decode cJ9_abs_0f7a4 4 = .ok (.iload_n 0, 1) := by decide +kernel
theorem dJ9_abs_0f7a4_5 : decode cJ9_abs_0f7a4 5 = .ok (.ineg, 1) := by decide +kernel
theorem dJ9_abs_0f7a4_6 : decode cJ9_abs_0f7a4 6 = .ok (.goto 4, 3) := by decide +kernel
theorem dJ9_abs_0f7a4_9 : decode cJ9_abs_0f7a4 9 = .ok (.iload_n 0, 1) := by decide +kernel
theorem dJ9_abs_0f7a4_10 : decode cJ9_abs_0f7a4 10 = .ok (.ireturn, 1) := by decide +kernel
theorem dJ9_max_7cf53_0 : decode cJ9_max_7cf53 0 = .ok (.iload_n 0, 1) := by decide +kernel
theorem dJ9_max_7cf53_1 : decode cJ9_max_7cf53 1 = .ok (.iload_n 1, 1) := by decide +kernel
theorem dJ9_max_7cf53_2 : decode cJ9_max_7cf53 2 = .ok (.if_icmp .lt 7, 3) := by decide +kernel
theorem dJ9_max_7cf53_5 : decode cJ9_max_7cf53 5 = .ok (.iload_n 0, 1) := by decide +kernel
theorem dJ9_max_7cf53_6 : decode cJ9_max_7cf53 6 = .ok (.goto 4, 3) := by decide +kernel
theorem dJ9_max_7cf53_9 : decode cJ9_max_7cf53 9 = .ok (.iload_n 1, 1) := by decide +kernel
theorem dJ9_max_7cf53_10 : decode cJ9_max_7cf53 10 = .ok (.ireturn, 1) := by decide +kernel
end
section
theorem dJ7_fill_53178_0 : decode cJ7_fill_53178 0 = .ok (.iconst 0, 1) := by decide +kernel
theorem dJ7_fill_53178_1 : decode cJ7_fill_53178 1 = .ok (.istore_n 2, 1) := by decide +kernel
theorem dJ7_fill_53178_2 : decode cJ7_fill_53178 2 = .ok (.aload_n 0, 1) := by decide +kernel
theorem dJ7_fill_53178_3 : decode cJ7_fill_53178 3 = .ok (.arraylength, 1) := by decide +kernel
theorem dJ7_fill_53178_4 : decode cJ7_fill_53178 4 = .ok (.istore_n 3, 1) := by decide +kernel
theorem dJ7_fill_53178_5 : decode cJ7_fill_53178 5 = .ok (.iload_n 2, 1) := by decide +kernel
theorem dJ7_fill_53178_6 : decode cJ7_fill_53178 6 = .ok (.iload_n 3, 1) := by decide +kernel
theorem dJ7_fill_53178_7 : decode cJ7_fill_53178 7 = .ok (.if_icmp .ge 13, 3) := by decide +kernel
theorem dJ7_fill_53178_10 : decode cJ7_fill_53178 10 = .ok (.aload_n 0, 1) := by decide +kernel
theorem dJ7_fill_53178_11 : decode cJ7_fill_53178 11 = .ok (.iload_n 2, 1) := by decide +kernel
theorem dJ7_fill_53178_12 : decode cJ7_fill_53178 12 = .ok (.iload_n 1, 1) := by decide +kernel
theorem dJ7_fill_53178_13 : decode cJ7_fill_53178 13 = .ok (.iastore, 1) := by decide +kernel
theorem dJ7_fill_53178_14 : decode cJ7_fill_53178 14 = .ok (.iinc 2 1, 3) := by decide +kernel
theorem dJ7_fill_53178_17 : decode cJ7_fill_53178 17 = .ok (.goto (-12), 3) := by decide +kernel
theorem dJ7_fill_53178_20 : decode cJ7_fill_53178 20 = .ok (.return_, 1) := by decide +kernel
set_option maxRecDepth 20000 in
theorem ggL_law_X4_init : GoodIn wsL_law wsX4_init := goodIn_r _ [9, 10, 11, 12, 13, 14, 15, 16, 17, 18, 19, 20, 21, 22, 23, 24, 25, 26, 27, 28, 29, 30, 31, 32, 33, 34, 35, 36, 37, 38, 39, 40, 41, 42, 43, 44, 45, 46, 47, 48, 49, 50, 51, 52, 53, 54, 55, 56, 57, 58, 59, 60, 61, 62, 63, 64, 65, 66, 67, 808, 809, 789, 790, 791, 792, 793, 794, 810, 811, 812, 813, 814, 815, 816, 817, 818, 819, 820, 821, 822, 823, 824] (by decide +kernel) (by decide +kernel)
set_option maxRecDepth 20000 in
theorem gL_law_X4_init : GoodIn wsL_law (wsX4_init) := ggL_law_X4_init
set_option maxRecDepth 20000 in
theorem ggL_law_X5_init : GoodIn wsL_law wsX5_init := goodIn_r _ [70, 71, 11, 12, 43, 72, 73, 74, 75, 76, 77, 78, 79, 80, 81, 5, 82, 795, 796, 797, 798, 799, 800, 801, 802, 803, 804, 805, 806, 807] (by decide +kernel) (by decide +kernel)
set_option maxRecDepth 20000 in
theorem gL_law_X5_init : GoodIn wsL_law (wsX5_init) := ggL_law_X5_init
set_option maxRecDepth 20000 in
theorem ggL_law_X4_salt : GoodIn wsL_law wsX4_salt := goodIn_r _ [86, 87, 20, 16, 88, 89, 90, 19, 91, 55, 54, 53, 92, 93, 94, 95, 96, 97, 98, 15, 99, 36, 38, 100, 101, 102, 30, 103, 42, 44, 104, 105, 106, 107, 45, 46, 47, 108, 109, 110, 111, 112, 113, 114, 115, 116, 117, 118, 119, 789, 790, 791, 792, 793, 794, 808, 809, 810, 811, 812, 820, 821, 822, 823, 824] (by decide +kernel) (by decide +kernel)
set_option maxRecDepth 20000 in
theorem gL_law_X4_salt : GoodIn wsL_law (wsV RL 13 RX4 yX4_salt wsX4_salt) := goodIn_app (goodIn_of _ (by decide +kernel)) ggL_law_X4_salt
set_option maxRecDepth 20000 in
theorem ggL_law_X5_salt : GoodIn wsL_law wsX5_salt := goodIn_r _ [123, 124, 72, 125, 126, 5, 127, 128, 129, 130, 131, 132, 73, 133, 134, 135, 136, 137, 138, 139, 140, 141, 142, 143, 144, 145, 146, 147, 148, 149, 150, 151, 79, 80, 81, 82, 795, 796, 797, 798, 799, 800, 801, 802, 803, 804, 805, 806, 807] (by decide +kernel) (by decide +kernel)
set_option maxRecDepth 20000 in
theorem gL_law_X5_salt : GoodIn wsL_law (wsV RL 17 RX5 yX5_salt wsX5_salt) := goodIn_app (goodIn_of _ (by decide +kernel)) ggL_law_X5_salt
set_option maxRecDepth 20000 in
theorem ggL_law_X4_bits : GoodIn wsL_law wsX4_bits := goodIn_r _ [155, 16, 20, 156, 157, 158, 15, 159, 38, 88, 89, 90, 19, 91, 55, 54, 53, 92, 93, 94, 95, 96, 97, 98, 99, 36, 100, 101, 102, 30, 103, 42, 44, 104, 105, 106, 107, 45, 46, 47, 160, 113, 114, 115, 116, 117, 118, 119, 789, 790, 791, 792, 793, 794, 820, 821, 822, 823, 824, 808, 809, 810, 811, 812] (by decide +kernel) (by decide +kernel)
set_option maxRecDepth 20000 in
theorem gL_law_X4_bits : GoodIn wsL_law (wsV RL 18 RX4 yX4_bits wsX4_bits) := goodIn_app (goodIn_of _ (by decide +kernel)) ggL_law_X4_bits
set_option maxRecDepth 20000 in
theorem ggL_law_X5_bits : GoodIn wsL_law wsX5_bits := goodIn_r _ [164, 165, 166, 5, 167, 125, 126, 127, 128, 129, 130, 131, 132, 73, 72, 133, 134, 135, 148, 149, 150, 151, 136, 137, 138, 139, 140, 141, 142, 143, 144, 145, 146, 147, 79, 80, 81, 82, 795, 796, 797, 798, 799, 800, 801, 802, 803, 804, 805, 806, 807] (by decide +kernel) (by decide +kernel)
set_option maxRecDepth 20000 in
theorem gL_law_X5_bits : GoodIn wsL_law (wsV RL 22 RX5 yX5_bits wsX5_bits) := goodIn_app (goodIn_of _ (by decide +kernel)) ggL_law_X5_bits
set_option maxRecDepth 20000 in
theorem ggL_law_X4_add : GoodIn wsL_law wsX4_add := goodIn_r _ [171, 16, 20, 156, 157, 158, 15, 159, 38, 172, 173, 2, 174, 175, 88, 89, 90, 19, 91, 55, 54, 53, 92, 93, 94, 95, 96, 97, 98, 99, 36, 100, 101, 102, 30, 103, 42, 44, 104, 105, 106, 107, 45, 46, 47, 176, 177, 178, 179, 180, 181, 182, 183, 184, 185, 186, 187, 188, 189, 190, 191, 192, 193, 194, 195, 196, 197, 198, 199, 200, 201, 202, 203, 204, 205, 206, 207, 208, 209, 210, 211, 212, 213, 214, 215, 216, 217, 218, 219, 220, 221, 222, 223, 224, 225, 226, 227, 789, 790, 791, 792, 793, 794, 808, 809, 810, 811, 812, 820, 821, 822, 823, 824] (by decide +kernel) (by decide +kernel)
set_option maxRecDepth 20000 in
theorem gL_law_X4_add : GoodIn wsL_law (wsV RL 23 RX4 yX4_add wsX4_add) := goodIn_app (goodIn_of _ (by decide +kernel)) ggL_law_X4_add
set_option maxRecDepth 20000 in
theorem ggL_law_X5_add : GoodIn wsL_law wsX5_add := goodIn_r _ [231, 165, 166, 5, 167, 125, 126, 127, 232, 233, 234, 235, 128, 129, 130, 131, 132, 73, 72, 133, 134, 135, 236, 237, 238, 239, 240, 241, 242, 243, 244, 245, 246, 247, 248, 249, 250, 251, 252, 148, 149, 150, 151, 253, 254, 255, 256, 257, 258, 259, 144, 145, 146, 147, 79, 80, 81, 82, 260, 261, 262, 263, 264, 265, 266, 267, 268, 269, 270, 271, 272, 273, 274, 275, 795, 796, 797, 798, 799, 800, 801, 802, 803, 804, 805, 806, 807] (by decide +kernel) (by decide +kernel)
set_option maxRecDepth 20000 in
theorem gL_law_X5_add : GoodIn wsL_law (wsV RL 26 RX5 yX5_add wsX5_add) := goodIn_app (goodIn_of _ (by decide +kernel)) ggL_law_X5_add
set_option maxRecDepth 20000 in
theorem ggL_law_X4_addRange : GoodIn wsL_law wsX4_addRange := goodIn_r _ [279, 16, 20, 156, 157, 158, 15, 159, 38, 280, 281, 2, 282, 175, 172, 173, 174, 88, 89, 90, 19, 91, 55, 54, 53, 92, 93, 94, 95, 96, 97, 98, 99, 36, 100, 101, 102, 30, 103, 42, 44, 104, 105, 106, 107, 45, 46, 47, 176, 177, 178, 179, 180, 181, 182, 183, 184, 185, 186, 187, 188, 189, 190, 191, 192, 193, 194, 195, 196, 197, 198, 199, 200, 201, 202, 203, 204, 205, 206, 207, 208, 209, 210, 211, 212, 213, 214, 215, 216, 217, 218, 219, 220, 221, 222, 223, 224, 225, 226, 227, 789, 790, 791, 792, 793, 794, 808, 809, 810, 811, 812, 820, 821, 822, 823, 824] (by decide +kernel) (by decide +kernel)
set_option maxRecDepth 20000 in
theorem gL_law_X4_addRange : GoodIn wsL_law (wsV RL 27 RX4 yX4_addRange wsX4_addRange) := goodIn_app (goodIn_of _ (by decide +kernel)) ggL_law_X4_addRange
set_option maxRecDepth 20000 in
theorem ggL_law_X5_addRange : GoodIn wsL_law wsX5_addRange := goodIn_r _ [286, 165, 166, 5, 167, 125, 126, 127, 287, 288, 289, 290, 232, 233, 234, 235, 128, 129, 130, 131, 132, 73, 72, 133, 134, 135, 291, 292, 293, 294, 236, 237, 238, 239, 240, 241, 242, 243, 244, 245, 246, 247, 248, 249, 250, 251, 252, 148, 149, 150, 151, 253, 254, 255, 256, 257, 258, 259, 144, 145, 146, 147, 79, 80, 81, 82, 260, 261, 262, 263, 264, 265, 266, 267, 268, 269, 270, 271, 272, 273, 274, 275, 795, 796, 797, 798, 799, 800, 801, 802, 803, 804, 805, 806, 807] (by decide +kernel) (by decide +kernel)
set_option maxRecDepth 20000 in
theorem gL_law_X5_addRange : GoodIn wsL_law (wsV RL 31 RX5 yX5_addRange wsX5_addRange) := goodIn_app (goodIn_of _ (by decide +kernel)) ggL_law_X5_addRange
set_option maxRecDepth 20000 in
theorem ggL_law_X4_join : GoodIn wsL_law wsX4_join := goodIn_r _ [298, 16, 20, 156, 157, 158, 15, 159, 38, 299, 300, 2, 301, 88, 89, 90, 19, 91, 55, 54, 53, 92, 93, 94, 95, 96, 97, 98, 99, 36, 100, 101, 102, 30, 103, 42, 44, 104, 105, 106, 107, 45, 46, 47, 302, 303, 304, 305, 193, 194, 195, 196, 306, 307, 308, 309, 212, 213, 214, 215, 208, 209, 210, 211, 224, 225, 226, 227, 310, 311, 312, 313, 314, 315, 316, 317, 318, 217, 218, 219, 220, 221, 222, 223, 319, 320, 321, 322, 323, 324, 325, 326, 327, 328, 329, 330, 331, 332, 333, 334, 335, 336, 337, 338, 339, 340, 341, 342, 343, 344, 345, 346, 347, 348, 349, 350, 789, 790, 791, 792, 793, 794, 808, 809, 820, 821, 822, 823, 824, 810, 811, 812] (by decide +kernel) (by decide +kernel)
set_option maxRecDepth 20000 in
theorem gL_law_X4_join : GoodIn wsL_law (wsV RL 32 RX4 yX4_join wsX4_join) := goodIn_app (goodIn_of _ (by decide +kernel)) ggL_law_X4_join
set_option maxRecDepth 20000 in
theorem ggL_law_X5_join : GoodIn wsL_law wsX5_join := goodIn_r _ [354, 355, 356, 357, 5, 358, 165, 166, 167, 125, 126, 127, 148, 149, 150, 151, 72, 128, 129, 130, 131, 132, 73, 133, 134, 135, 359, 360, 361, 362, 144, 145, 146, 147, 79, 80, 81, 82, 264, 265, 266, 267, 272, 273, 274, 275, 260, 261, 262, 263, 268, 269, 270, 271, 363, 364, 365, 366, 367, 368, 369, 370, 77, 371, 372, 373, 374, 375, 376, 377, 378, 252, 379, 380, 381, 382, 383, 384, 385, 386, 387, 388, 389, 795, 796, 797, 798, 799, 800, 801, 802, 803, 804, 805, 806, 807] (by decide +kernel) (by decide +kernel)
set_option maxRecDepth 20000 in
theorem gL_law_X5_join : GoodIn wsL_law (wsV RL 35 RX5 yX5_join wsX5_join) := goodIn_app (goodIn_of _ (by decide +kernel)) ggL_law_X5_join
set_option maxRecDepth 20000 in
theorem ggL_law_X4_fold : GoodIn wsL_law wsX4_fold := goodIn_r _ [393, 16, 20, 156, 157, 158, 15, 159, 38, 394, 395, 2, 396, 88, 89, 90, 19, 91, 55, 54, 53, 92, 93, 94, 95, 96, 97, 98, 99, 36, 100, 101, 102, 30, 103, 42, 44, 104, 105, 106, 107, 45, 46, 47, 397, 398, 399, 400, 347, 348, 349, 350, 193, 194, 195, 196, 306, 307, 308, 309, 212, 213, 214, 215, 401, 789, 790, 791, 792, 793, 794, 808, 809, 820, 821, 822, 823, 824, 810, 811, 812] (by decide +kernel) (by decide +kernel)
set_option maxRecDepth 20000 in
theorem gL_law_X4_fold : GoodIn wsL_law (wsV RL 36 RX4 yX4_fold wsX4_fold) := goodIn_app (goodIn_of _ (by decide +kernel)) ggL_law_X4_fold
set_option maxRecDepth 20000 in
theorem ggL_law_X5_fold : GoodIn wsL_law wsX5_fold := goodIn_r _ [405, 406, 407, 408, 5, 409, 165, 166, 167, 125, 126, 127, 148, 149, 150, 151, 72, 128, 129, 130, 131, 132, 73, 133, 134, 135, 410, 411, 412, 413, 144, 145, 146, 147, 79, 80, 81, 82, 795, 796, 797, 798, 799, 800, 801, 802, 803, 804, 805, 806, 807] (by decide +kernel) (by decide +kernel)
set_option maxRecDepth 20000 in
theorem gL_law_X5_fold : GoodIn wsL_law (wsV RL 39 RX5 yX5_fold wsX5_fold) := goodIn_app (goodIn_of _ (by decide +kernel)) ggL_law_X5_fold
set_option maxRecDepth 20000 in
theorem ggL_law_X4_empty : GoodIn wsL_law wsX4_empty := goodIn_r _ [417, 16, 20, 156, 157, 158, 15, 159, 38, 88, 89, 90, 19, 91, 55, 54, 53, 92, 93, 94, 95, 96, 97, 98, 99, 36, 100, 101, 102, 30, 103, 42, 44, 104, 105, 106, 107, 45, 46, 47, 418, 340, 341, 342, 193, 194, 195, 196, 306, 307, 308, 309, 212, 213, 214, 215, 160, 113, 114, 115, 116, 117, 118, 119, 789, 790, 791, 792, 793, 794, 820, 821, 822, 823, 824, 808, 809, 810, 811, 812] (by decide +kernel) (by decide +kernel)
set_option maxRecDepth 20000 in
theorem gL_law_X4_empty : GoodIn wsL_law (wsV RL 40 RX4 yX4_empty wsX4_empty) := goodIn_app (goodIn_of _ (by decide +kernel)) ggL_law_X4_empty
set_option maxRecDepth 20000 in
theorem ggL_law_X5_empty : GoodIn wsL_law wsX5_empty := goodIn_r _ [422, 165, 166, 5, 167, 125, 126, 127, 128, 129, 130, 131, 132, 73, 72, 133, 134, 135, 136, 137, 138, 139, 140, 141, 142, 143, 144, 145, 146, 147, 148, 149, 150, 151, 79, 80, 81, 82, 795, 796, 797, 798, 799, 800, 801, 802, 803, 804, 805, 806, 807] (by decide +kernel) (by decide +kernel)
set_option maxRecDepth 20000 in
theorem gL_law_X5_empty : GoodIn wsL_law (wsV RL 43 RX5 yX5_empty wsX5_empty) := goodIn_app (goodIn_of _ (by decide +kernel)) ggL_law_X5_empty
set_option maxRecDepth 20000 in
theorem ggL_law_X4_thing : GoodIn wsL_law wsX4_thing := goodIn_r _ [426, 16, 156, 157, 158, 15, 159, 38, 172, 173, 2, 174, 175, 180, 181, 182, 183, 184, 427, 190, 191, 30, 192, 193, 194, 195, 196, 42, 428, 198, 199, 200, 201, 202, 203, 204, 205, 206, 207, 429, 430, 431, 432, 197, 189, 306, 307, 308, 309, 44, 212, 213, 214, 215, 789, 790, 791, 792, 793, 794, 808, 809, 820, 821, 822, 823, 824] (by decide +kernel) (by decide +kernel)
set_option maxRecDepth 20000 in
theorem gL_law_X4_thing : GoodIn wsL_law (wsV RL 44 RX4 yX4_thing wsX4_thing) := goodIn_app (goodIn_of _ (by decide +kernel)) ggL_law_X4_thing
set_option maxRecDepth 20000 in
theorem ggL_law_X5_thing : GoodIn wsL_law wsX5_thing := goodIn_r _ [436, 72, 165, 166, 5, 167, 125, 126, 127, 232, 233, 234, 235, 248, 249, 250, 251, 252, 256, 257, 258, 259, 144, 145, 146, 147, 148, 149, 150, 151, 244, 245, 246, 247, 253, 254, 255, 240, 241, 242, 243, 795, 796, 797, 798, 799, 800, 801, 802, 803, 804, 805, 806, 807] (by decide +kernel) (by decide +kernel)
set_option maxRecDepth 20000 in
theorem gL_law_X5_thing : GoodIn wsL_law (wsV RL 47 RX5 yX5_thing wsX5_thing) := goodIn_app (goodIn_of _ (by decide +kernel)) ggL_law_X5_thing
set_option maxRecDepth 20000 in
theorem ggL_law_X4_bucket : GoodIn wsL_law wsX4_bucket := goodIn_r _ [440, 16, 156, 157, 158, 15, 159, 38, 441, 213, 214, 30, 215, 42, 44, 442, 307, 308, 309, 212, 789, 790, 791, 792, 793, 794, 808, 809, 820, 821, 822, 823, 824] (by decide +kernel) (by decide +kernel)
set_option maxRecDepth 20000 in
theorem gL_law_X4_bucket : GoodIn wsL_law (wsV RL 48 RX4 yX4_bucket wsX4_bucket) := goodIn_app (goodIn_of _ (by decide +kernel)) ggL_law_X4_bucket
set_option maxRecDepth 20000 in
theorem ggL_law_X5_bucket : GoodIn wsL_law wsX5_bucket := goodIn_r _ [446, 165, 166, 5, 167, 125, 126, 127, 144, 145, 146, 147, 148, 149, 150, 151, 72, 795, 796, 797, 798, 799, 800, 801, 802, 803, 804, 805, 806, 807] (by decide +kernel) (by decide +kernel)
set_option maxRecDepth 20000 in
theorem gL_law_X5_bucket : GoodIn wsL_law (wsV RL 51 RX5 yX5_bucket wsX5_bucket) := goodIn_app (goodIn_of _ (by decide +kernel)) ggL_law_X5_bucket
set_option maxRecDepth 20000 in
theorem ggL_law_X4_ofSketch : GoodIn wsL_law wsX4_ofSketch := goodIn_r _ [450, 16, 156, 157, 158, 15, 159, 38, 401, 194, 195, 30, 196, 42, 451, 336, 337, 338, 193, 339, 340, 341, 342, 306, 307, 308, 309, 44, 212, 213, 214, 215, 452, 453, 454, 455, 347, 348, 349, 350, 456, 331, 332, 333, 334, 457, 324, 325, 326, 327, 328, 329, 330, 319, 320, 321, 322, 323, 335, 343, 344, 345, 346, 458, 459, 460, 461, 462, 463, 464, 465, 466, 467, 468, 789, 790, 791, 792, 793, 794, 820, 821, 822, 823, 824, 808, 809] (by decide +kernel) (by decide +kernel)
set_option maxRecDepth 20000 in
theorem gL_law_X4_ofSketch : GoodIn wsL_law (wsV RL 52 RX4 yX4_ofSketch wsX4_ofSketch) := goodIn_app (goodIn_of _ (by decide +kernel)) ggL_law_X4_ofSketch
set_option maxRecDepth 20000 in
theorem ggL_law_X5_ofSketch : GoodIn wsL_law wsX5_ofSketch := goodIn_r _ [472, 165, 166, 5, 167, 125, 126, 127, 144, 145, 146, 147, 148, 149, 150, 151, 72, 367, 368, 369, 370, 77, 386, 387, 388, 389, 473, 474, 475, 476, 381, 382, 383, 384, 385, 375, 376, 377, 378, 252, 379, 380, 371, 372, 373, 374, 477, 478, 479, 480, 363, 364, 365, 366, 795, 796, 797, 798, 799, 800, 801, 802, 803, 804, 805, 806, 807] (by decide +kernel) (by decide +kernel)
set_option maxRecDepth 20000 in
theorem gL_law_X5_ofSketch : GoodIn wsL_law (wsV RL 55 RX5 yX5_ofSketch wsX5_ofSketch) := goodIn_app (goodIn_of _ (by decide +kernel)) ggL_law_X5_ofSketch
set_option maxRecDepth 20000 in
theorem ggL_law_X4_withRank : GoodIn wsL_law wsX4_withRank := goodIn_r _ [484, 16, 485, 486, 156, 157, 158, 15, 159, 38, 487, 488, 489, 30, 490, 193, 194, 195, 196, 42, 306, 307, 308, 309, 44, 212, 213, 214, 215, 789, 790, 791, 792, 793, 794, 808, 809, 820, 821, 822, 823, 824] (by decide +kernel) (by decide +kernel)
set_option maxRecDepth 20000 in
theorem gL_law_X4_withRank : GoodIn wsL_law (wsV RL 56 RX4 yX4_withRank wsX4_withRank) := goodIn_app (goodIn_of _ (by decide +kernel)) ggL_law_X4_withRank
set_option maxRecDepth 20000 in
theorem ggL_law_X5_withRank : GoodIn wsL_law wsX5_withRank := goodIn_r _ [494, 495, 496, 165, 166, 5, 167, 125, 126, 127, 144, 145, 146, 147, 148, 149, 150, 151, 72, 795, 796, 797, 798, 799, 800, 801, 802, 803, 804, 805, 806, 807] (by decide +kernel) (by decide +kernel)
set_option maxRecDepth 20000 in
theorem gL_law_X5_withRank : GoodIn wsL_law (wsV RL 60 RX5 yX5_withRank wsX5_withRank) := goodIn_app (goodIn_of _ (by decide +kernel)) ggL_law_X5_withRank
set_option maxRecDepth 20000 in
theorem ggL_law_X4_listed : GoodIn wsL_law wsX4_listed := goodIn_r _ [500, 16, 156, 157, 158, 15, 159, 38, 501, 315, 316, 30, 317, 46, 45, 502, 311, 312, 313, 314, 789, 790, 791, 792, 793, 794, 808, 809, 820, 821, 822, 823, 824] (by decide +kernel) (by decide +kernel)
set_option maxRecDepth 20000 in
theorem gL_law_X4_listed : GoodIn wsL_law (wsV RL 61 RX4 yX4_listed wsX4_listed) := goodIn_app (goodIn_of _ (by decide +kernel)) ggL_law_X4_listed
set_option maxRecDepth 20000 in
theorem ggL_law_X5_listed : GoodIn wsL_law wsX5_listed := goodIn_r _ [506, 165, 166, 5, 167, 125, 126, 127, 148, 149, 150, 151, 72, 795, 796, 797, 798, 799, 800, 801, 802, 803, 804, 805, 806, 807] (by decide +kernel) (by decide +kernel)
set_option maxRecDepth 20000 in
theorem gL_law_X5_listed : GoodIn wsL_law (wsV RL 64 RX5 yX5_listed wsX5_listed) := goodIn_app (goodIn_of _ (by decide +kernel)) ggL_law_X5_listed
set_option maxRecDepth 20000 in
theorem ggL_law_X4_count : GoodIn wsL_law wsX4_count := goodIn_r _ [510, 16, 27, 20, 511, 512, 513, 15, 514, 38, 515, 340, 341, 30, 342, 193, 194, 195, 196, 42, 306, 307, 308, 309, 44, 212, 213, 214, 215, 516, 517, 518, 519, 520, 521, 522, 523, 789, 790, 791, 792, 793, 794, 808, 809, 813, 814, 815, 816, 817, 818, 819, 810, 811, 812, 820, 821, 822, 823, 824] (by decide +kernel) (by decide +kernel)
set_option maxRecDepth 20000 in
theorem gL_law_X4_count : GoodIn wsL_law (wsV RL 65 RX4 yX4_count wsX4_count) := goodIn_app (goodIn_of _ (by decide +kernel)) ggL_law_X4_count
set_option maxRecDepth 20000 in
theorem ggL_law_X5_count : GoodIn wsL_law wsX5_count := goodIn_r _ [527, 72, 528, 132, 529, 530, 531, 5, 532, 140, 141, 142, 143, 144, 145, 146, 147, 148, 149, 150, 151, 533, 534, 535, 536, 537, 538, 539, 540, 264, 265, 266, 267, 795, 796, 797, 798, 799, 800, 801, 802, 803, 804, 805, 806, 807] (by decide +kernel) (by decide +kernel)
set_option maxRecDepth 20000 in
theorem gL_law_X5_count : GoodIn wsL_law (wsV RL 68 RX5 yX5_count wsX5_count) := goodIn_app (goodIn_of _ (by decide +kernel)) ggL_law_X5_count
set_option maxRecDepth 20000 in
theorem ggL_law_X4_together : GoodIn wsL_law wsX4_together := goodIn_r _ [544, 16, 31, 156, 157, 158, 15, 159, 38, 545, 101, 102, 30, 103, 42, 44, 104, 105, 106, 107, 45, 46, 47, 302, 303, 304, 305, 193, 194, 195, 196, 306, 307, 308, 309, 212, 213, 214, 215, 208, 209, 210, 211, 224, 225, 226, 227, 310, 311, 312, 313, 314, 315, 316, 317, 318, 217, 218, 219, 220, 221, 222, 223, 319, 320, 321, 322, 323, 324, 325, 326, 327, 328, 329, 330, 331, 332, 333, 334, 335, 336, 337, 338, 339, 340, 341, 342, 343, 344, 345, 346, 347, 348, 349, 350, 789, 790, 791, 792, 793, 794, 820, 821, 822, 823, 824, 808, 809] (by decide +kernel) (by decide +kernel)
set_option maxRecDepth 20000 in
theorem gL_law_X4_together : GoodIn wsL_law (wsV RL 69 RX4 yX4_together wsX4_together) := goodIn_app (goodIn_of _ (by decide +kernel)) ggL_law_X4_together
set_option maxRecDepth 20000 in
theorem ggL_law_X5_together : GoodIn wsL_law wsX5_together := goodIn_r _ [549, 77, 355, 356, 357, 5, 358, 165, 166, 167, 125, 126, 127, 148, 149, 150, 151, 72, 367, 368, 369, 370, 144, 145, 146, 147, 371, 372, 373, 374, 375, 376, 377, 378, 252, 379, 380, 381, 382, 383, 384, 385, 386, 387, 388, 389, 795, 796, 797, 798, 799, 800, 801, 802, 803, 804, 805, 806, 807] (by decide +kernel) (by decide +kernel)
set_option maxRecDepth 20000 in
theorem gL_law_X5_together : GoodIn wsL_law (wsV RL 72 RX5 yX5_together wsX5_together) := goodIn_app (goodIn_of _ (by decide +kernel)) ggL_law_X5_together
set_option maxRecDepth 20000 in
theorem ggL_law_X4_alike : GoodIn wsL_law wsX4_alike := goodIn_r _ [553, 16, 156, 157, 158, 15, 159, 38, 554, 555, 556, 30, 557, 193, 194, 195, 196, 42, 306, 307, 308, 309, 44, 212, 213, 214, 215, 558, 559, 2, 560, 561, 789, 790, 791, 792, 793, 794, 820, 821, 822, 823, 824, 808, 809] (by decide +kernel) (by decide +kernel)
set_option maxRecDepth 20000 in
theorem gL_law_X4_alike : GoodIn wsL_law (wsV RL 73 RX4 yX4_alike wsX4_alike) := goodIn_app (goodIn_of _ (by decide +kernel)) ggL_law_X4_alike
set_option maxRecDepth 20000 in
theorem ggL_law_X5_alike : GoodIn wsL_law wsX5_alike := goodIn_r _ [565, 355, 356, 357, 5, 358, 165, 166, 167, 125, 126, 127, 148, 149, 150, 151, 72, 144, 145, 146, 147, 566, 567, 568, 795, 796, 797, 798, 799, 800, 801, 802, 803, 804, 805, 806, 807] (by decide +kernel) (by decide +kernel)
set_option maxRecDepth 20000 in
theorem gL_law_X5_alike : GoodIn wsL_law (wsV RL 76 RX5 yX5_alike wsX5_alike) := goodIn_app (goodIn_of _ (by decide +kernel)) ggL_law_X5_alike
set_option maxRecDepth 20000 in
theorem ggL_law_X4_off : GoodIn wsL_law wsX4_off := goodIn_r _ [572, 16, 175, 156, 157, 158, 15, 159, 38, 319, 320, 321, 30, 322, 323, 324, 325, 326, 327, 328, 329, 330, 331, 332, 333, 334, 193, 194, 195, 196, 42, 306, 307, 308, 309, 44, 212, 213, 214, 215, 335, 336, 337, 338, 339, 340, 341, 342, 343, 344, 345, 346, 347, 348, 349, 350, 789, 790, 791, 792, 793, 794, 820, 821, 822, 823, 824, 808, 809] (by decide +kernel) (by decide +kernel)
set_option maxRecDepth 20000 in
theorem gL_law_X4_off : GoodIn wsL_law (wsV RL 77 RX4 yX4_off wsX4_off) := goodIn_app (goodIn_of _ (by decide +kernel)) ggL_law_X4_off
set_option maxRecDepth 20000 in
theorem ggL_law_X5_off : GoodIn wsL_law wsX5_off := goodIn_r _ [576, 290, 165, 166, 5, 167, 125, 126, 127, 264, 265, 266, 267, 148, 149, 150, 151, 72, 363, 364, 365, 366, 367, 368, 369, 370, 77, 144, 145, 146, 147, 371, 372, 373, 374, 375, 376, 377, 378, 252, 379, 380, 381, 382, 383, 384, 385, 386, 387, 388, 389, 795, 796, 797, 798, 799, 800, 801, 802, 803, 804, 805, 806, 807] (by decide +kernel) (by decide +kernel)
set_option maxRecDepth 20000 in
theorem gL_law_X5_off : GoodIn wsL_law (wsV RL 80 RX5 yX5_off wsX5_off) := goodIn_app (goodIn_of _ (by decide +kernel)) ggL_law_X5_off
set_option maxRecDepth 20000 in
theorem ggL_law_X4_nextNew : GoodIn wsL_law wsX4_nextNew := goodIn_r _ [580, 16, 175, 156, 157, 158, 15, 159, 38, 172, 173, 2, 174, 180, 181, 182, 183, 184, 429, 430, 431, 30, 432, 197, 198, 199, 200, 42, 201, 202, 203, 204, 205, 206, 207, 189, 190, 191, 192, 193, 194, 195, 196, 306, 307, 308, 309, 44, 212, 213, 214, 215, 789, 790, 791, 792, 793, 794, 808, 809, 820, 821, 822, 823, 824] (by decide +kernel) (by decide +kernel)
set_option maxRecDepth 20000 in
theorem gL_law_X4_nextNew : GoodIn wsL_law (wsV RL 81 RX4 yX4_nextNew wsX4_nextNew) := goodIn_app (goodIn_of _ (by decide +kernel)) ggL_law_X4_nextNew
set_option maxRecDepth 20000 in
theorem ggL_law_X5_nextNew : GoodIn wsL_law wsX5_nextNew := goodIn_r _ [584, 290, 165, 166, 5, 167, 125, 126, 127, 232, 233, 234, 235, 240, 241, 242, 243, 244, 245, 246, 247, 72, 248, 249, 250, 251, 252, 148, 149, 150, 151, 253, 254, 255, 256, 257, 258, 259, 144, 145, 146, 147, 795, 796, 797, 798, 799, 800, 801, 802, 803, 804, 805, 806, 807] (by decide +kernel) (by decide +kernel)
set_option maxRecDepth 20000 in
theorem gL_law_X5_nextNew : GoodIn wsL_law (wsV RL 84 RX5 yX5_nextNew wsX5_nextNew) := goodIn_app (goodIn_of _ (by decide +kernel)) ggL_law_X5_nextNew
set_option maxRecDepth 20000 in
theorem ggL_law_X4_bestSalt : GoodIn wsL_law wsX4_bestSalt := goodIn_r _ [588, 16, 156, 157, 158, 15, 159, 38, 589, 590, 591, 2, 592, 31, 593, 594, 349, 595, 160, 113, 114, 30, 115, 42, 44, 46, 47, 116, 117, 118, 119, 502, 311, 312, 313, 45, 314, 315, 316, 317, 180, 181, 182, 183, 184, 185, 186, 187, 188, 189, 190, 191, 192, 193, 194, 195, 196, 197, 198, 199, 200, 201, 202, 203, 204, 205, 206, 207, 208, 209, 210, 211, 212, 213, 214, 215, 319, 320, 321, 322, 323, 324, 325, 326, 327, 328, 329, 330, 331, 332, 333, 334, 306, 307, 308, 309, 335, 336, 337, 338, 339, 340, 341, 342, 343, 344, 345, 346, 347, 348, 350, 789, 790, 791, 792, 793, 794, 820, 821, 822, 823, 824, 808, 809] (by decide +kernel) (by decide +kernel)
set_option maxRecDepth 20000 in
theorem gL_law_X4_bestSalt : GoodIn wsL_law (wsV RL 85 RX4 yX4_bestSalt wsX4_bestSalt) := goodIn_app (goodIn_of _ (by decide +kernel)) ggL_law_X4_bestSalt
set_option maxRecDepth 20000 in
theorem ggL_law_X5_bestSalt : GoodIn wsL_law wsX5_bestSalt := goodIn_r _ [599, 165, 166, 5, 167, 125, 126, 127, 264, 265, 266, 267, 148, 149, 150, 151, 72, 600, 601, 602, 603, 77, 248, 249, 250, 251, 252, 144, 145, 146, 147, 253, 254, 255, 371, 372, 373, 374, 375, 376, 377, 378, 379, 380, 381, 382, 383, 384, 385, 386, 387, 388, 389, 795, 796, 797, 798, 799, 800, 801, 802, 803, 804, 805, 806, 807] (by decide +kernel) (by decide +kernel)
set_option maxRecDepth 20000 in
theorem gL_law_X5_bestSalt : GoodIn wsL_law (wsV RL 88 RX5 yX5_bestSalt wsX5_bestSalt) := goodIn_app (goodIn_of _ (by decide +kernel)) ggL_law_X5_bestSalt
set_option maxRecDepth 20000 in
theorem ggL_law_X4_put : GoodIn wsL_law wsX4_put := goodIn_r _ [607, 27, 608, 609, 610, 2, 611, 612, 613, 614, 26, 615, 62, 61, 789, 790, 791, 792, 793, 794, 813, 814, 815, 816, 817, 818, 819] (by decide +kernel) (by decide +kernel)
set_option maxRecDepth 20000 in
theorem gL_law_X4_put : GoodIn wsL_law (wsV RL 91 RX4 yX4_put wsX4_put) := goodIn_app (goodIn_of _ (by decide +kernel)) ggL_law_X4_put
set_option maxRecDepth 20000 in
theorem ggL_law_X5_put : GoodIn wsL_law wsX5_put := goodIn_r _ [619, 620, 528, 76, 125, 126, 5, 127, 795, 796, 797, 798, 799, 800, 801, 802, 803, 804, 805, 806, 807] (by decide +kernel) (by decide +kernel)
set_option maxRecDepth 20000 in
theorem gL_law_X5_put : GoodIn wsL_law (wsV RL 95 RX5 yX5_put wsX5_put) := goodIn_app (goodIn_of _ (by decide +kernel)) ggL_law_X5_put
set_option maxRecDepth 20000 in
theorem ggL_law_X4_wipe : GoodIn wsL_law wsX4_wipe := goodIn_r _ [624, 27, 625, 626, 627, 26, 628, 62, 789, 790, 791, 792, 793, 794, 813, 814, 815, 816, 817, 818, 819] (by decide +kernel) (by decide +kernel)
set_option maxRecDepth 20000 in
theorem gL_law_X4_wipe : GoodIn wsL_law (wsV RL 96 RX4 yX4_wipe wsX4_wipe) := goodIn_app (goodIn_of _ (by decide +kernel)) ggL_law_X4_wipe
set_option maxRecDepth 20000 in
theorem ggL_law_X5_wipe : GoodIn wsL_law wsX5_wipe := goodIn_r _ [632, 528, 795, 796, 797, 798, 799, 800, 801, 802, 803, 804, 805, 806, 807] (by decide +kernel) (by decide +kernel)
set_option maxRecDepth 20000 in
theorem gL_law_X5_wipe : GoodIn wsL_law (wsV RL 100 RX5 yX5_wipe wsX5_wipe) := goodIn_app (goodIn_of _ (by decide +kernel)) ggL_law_X5_wipe
set_option maxRecDepth 20000 in
theorem ggL_law_X4_fault : GoodIn wsL_law wsX4_fault := goodIn_r _ [636, 27, 637, 638, 639, 26, 640, 63, 62, 641, 642, 643, 644, 645, 646, 647, 648, 67, 64, 65, 649, 650, 651, 652, 653, 654, 655, 656, 657, 658, 659, 660, 61, 661, 662, 663, 664, 665, 666, 667, 668, 669, 670, 671, 672, 673, 66, 674, 675, 676, 677, 678, 679, 680, 681, 789, 790, 791, 792, 793, 794, 813, 814, 815, 816, 817, 818, 819] (by decide +kernel) (by decide +kernel)
set_option maxRecDepth 20000 in
theorem gL_law_X4_fault : GoodIn wsL_law (wsV RL 101 RX4 yX4_fault wsX4_fault) := goodIn_app (goodIn_of _ (by decide +kernel)) ggL_law_X4_fault
set_option maxRecDepth 20000 in
theorem ggL_law_X5_fault : GoodIn wsL_law wsX5_fault := goodIn_r _ [685, 686, 687, 688, 5, 689, 690, 528, 691, 692, 693, 694, 695, 696, 697, 698, 699, 700, 701, 702, 703, 704, 705, 76, 125, 126, 127, 706, 707, 708, 709, 78, 710, 711, 712, 713, 714, 715, 716, 717, 795, 796, 797, 798, 799, 800, 801, 802, 803, 804, 805, 806, 807] (by decide +kernel) (by decide +kernel)
set_option maxRecDepth 20000 in
theorem gL_law_X5_fault : GoodIn wsL_law (wsV RL 104 RX5 yX5_fault wsX5_fault) := goodIn_app (goodIn_of _ (by decide +kernel)) ggL_law_X5_fault
set_option maxRecDepth 20000 in
theorem ggL_law_X4_carryOut : GoodIn wsL_law wsX4_carryOut := goodIn_r _ [721, 27, 20, 16, 637, 638, 639, 26, 640, 63, 62, 641, 642, 643, 644, 645, 646, 647, 648, 67, 64, 65, 649, 650, 651, 652, 653, 654, 655, 656, 657, 658, 659, 660, 61, 661, 662, 663, 664, 665, 666, 667, 668, 669, 670, 671, 672, 673, 66, 674, 675, 676, 677, 678, 679, 680, 681, 88, 89, 90, 19, 91, 55, 54, 53, 92, 93, 94, 95, 96, 97, 98, 15, 99, 36, 38, 100, 101, 102, 30, 103, 42, 44, 104, 105, 106, 107, 45, 46, 47, 722, 723, 724, 725, 726, 2, 727, 156, 157, 158, 159, 728, 729, 730, 731, 732, 733, 734, 735, 176, 177, 178, 179, 180, 181, 182, 183, 184, 185, 186, 187, 188, 189, 190, 191, 192, 193, 194, 195, 196, 197, 198, 199, 200, 201, 202, 203, 204, 205, 206, 207, 208, 209, 210, 211, 212, 213, 214, 215, 216, 217, 218, 219, 220, 221, 222, 223, 224, 225, 226, 227, 736, 737, 738, 739, 299, 300, 301, 302, 303, 304, 305, 306, 307, 308, 309, 310, 311, 312, 313, 314, 315, 316, 317, 318, 740, 741, 742, 743, 280, 281, 282, 175, 172, 173, 174, 744, 745, 746, 394, 395, 396, 397, 398, 399, 400, 347, 348, 349, 350, 160, 113, 114, 115, 116, 117, 118, 119, 747, 625, 626, 627, 628, 789, 790, 791, 792, 793, 794, 813, 814, 815, 816, 817, 818, 819, 810, 811, 812, 808, 809, 820, 821, 822, 823, 824] (by decide +kernel) (by decide +kernel)
set_option maxRecDepth 20000 in
theorem gL_law_X4_carryOut : GoodIn wsL_law (wsV RL 105 RX4 yX4_carryOut wsX4_carryOut) := goodIn_app (goodIn_of _ (by decide +kernel)) ggL_law_X4_carryOut
set_option maxRecDepth 20000 in
theorem ggL_law_X5_carryOut : GoodIn wsL_law wsX5_carryOut := goodIn_r _ [751, 690, 528, 686, 687, 688, 5, 689, 691, 692, 693, 694, 695, 696, 697, 698, 699, 700, 701, 702, 703, 704, 705, 76, 125, 126, 127, 706, 707, 708, 709, 78, 710, 711, 712, 713, 714, 715, 716, 717, 128, 129, 130, 131, 132, 73, 72, 133, 134, 135, 752, 753, 754, 755, 355, 356, 357, 358, 165, 166, 167, 148, 149, 150, 151, 287, 288, 289, 290, 232, 233, 234, 235, 406, 407, 408, 409, 756, 757, 758, 759, 236, 237, 238, 239, 240, 241, 242, 243, 244, 245, 246, 247, 248, 249, 250, 251, 252, 253, 254, 255, 256, 257, 258, 259, 144, 145, 146, 147, 79, 80, 81, 82, 260, 261, 262, 263, 264, 265, 266, 267, 268, 269, 270, 271, 272, 273, 274, 275, 359, 360, 361, 362, 363, 364, 365, 366, 367, 368, 369, 370, 77, 371, 372, 373, 374, 375, 376, 377, 378, 379, 380, 381, 382, 383, 384, 385, 386, 387, 388, 389, 291, 292, 293, 294, 410, 411, 412, 413, 136, 137, 138, 139, 140, 141, 142, 143, 795, 796, 797, 798, 799, 800, 801, 802, 803, 804, 805, 806, 807] (by decide +kernel) (by decide +kernel)
set_option maxRecDepth 20000 in
theorem gL_law_X5_carryOut : GoodIn wsL_law (wsV RL 108 RX5 yX5_carryOut wsX5_carryOut) := goodIn_app (goodIn_of _ (by decide +kernel)) ggL_law_X5_carryOut
set_option maxRecDepth 20000 in
theorem ggL_law_X4_undo : GoodIn wsL_law wsX4_undo := goodIn_r _ [763, 20, 16, 764, 765, 766, 19, 767, 55, 53, 54, 92, 93, 94, 95, 96, 97, 98, 15, 99, 36, 38, 100, 101, 102, 30, 103, 42, 44, 104, 105, 106, 107, 45, 46, 47, 789, 790, 791, 792, 793, 794, 810, 811, 812, 808, 809, 820, 821, 822, 823, 824] (by decide +kernel) (by decide +kernel)
set_option maxRecDepth 20000 in
theorem gL_law_X4_undo : GoodIn wsL_law (wsV RL 109 RX4 yX4_undo wsX4_undo) := goodIn_app (goodIn_of _ (by decide +kernel)) ggL_law_X4_undo
set_option maxRecDepth 20000 in
theorem ggL_law_X5_undo : GoodIn wsL_law wsX5_undo := goodIn_r _ [771, 132, 73, 72, 133, 134, 5, 135, 795, 796, 797, 798, 799, 800, 801, 802, 803, 804, 805, 806, 807] (by decide +kernel) (by decide +kernel)
set_option maxRecDepth 20000 in
theorem gL_law_X5_undo : GoodIn wsL_law (wsV RL 112 RX5 yX5_undo wsX5_undo) := goodIn_app (goodIn_of _ (by decide +kernel)) ggL_law_X5_undo
set_option maxRecDepth 20000 in
theorem ggL_law_X4_save : GoodIn wsL_law wsX4_save := goodIn_r _ [775, 21, 16, 23, 776, 97, 98, 15, 99, 36, 38, 100, 101, 102, 30, 103, 42, 44, 104, 105, 106, 107, 45, 46, 47, 516, 517, 518, 519, 515, 340, 341, 342, 193, 194, 195, 196, 306, 307, 308, 309, 212, 213, 214, 215, 789, 790, 791, 792, 793, 794, 808, 809, 820, 821, 822, 823, 824] (by decide +kernel) (by decide +kernel)
set_option maxRecDepth 20000 in
theorem gL_law_X4_save : GoodIn wsL_law (wsV RL 113 RX4 yX4_save wsX4_save) := goodIn_app (goodIn_of _ (by decide +kernel)) ggL_law_X4_save
set_option maxRecDepth 20000 in
theorem ggL_law_X5_save : GoodIn wsL_law wsX5_save := goodIn_r _ [780, 72, 74, 75, 125, 126, 5, 127, 133, 134, 135, 533, 534, 535, 536, 140, 141, 142, 143, 144, 145, 146, 147, 148, 149, 150, 151, 795, 796, 797, 798, 799, 800, 801, 802, 803, 804, 805, 806, 807] (by decide +kernel) (by decide +kernel)
set_option maxRecDepth 20000 in
theorem gL_law_X5_save : GoodIn wsL_law (wsV RL 116 RX5 yX5_save wsX5_save) := goodIn_app (goodIn_of _ (by decide +kernel)) ggL_law_X5_save
set_option maxRecDepth 20000 in
theorem ggL_law_X4_restore : GoodIn wsL_law wsX4_restore := goodIn_r _ [784, 23, 20, 16, 21, 88, 89, 90, 19, 91, 55, 54, 53, 92, 93, 94, 95, 96, 97, 98, 15, 99, 36, 38, 100, 101, 102, 30, 103, 42, 44, 104, 105, 106, 107, 45, 46, 47, 776, 516, 517, 518, 519, 515, 340, 341, 342, 193, 194, 195, 196, 306, 307, 308, 309, 212, 213, 214, 215, 789, 790, 791, 792, 793, 794, 810, 811, 812, 808, 809, 820, 821, 822, 823, 824] (by decide +kernel) (by decide +kernel)
set_option maxRecDepth 20000 in
theorem gL_law_X4_restore : GoodIn wsL_law (wsV RL 117 RX4 yX4_restore wsX4_restore) := goodIn_app (goodIn_of _ (by decide +kernel)) ggL_law_X4_restore
set_option maxRecDepth 20000 in
theorem ggL_law_X5_restore : GoodIn wsL_law wsX5_restore := goodIn_r _ [788, 75, 74, 72, 125, 126, 5, 127, 128, 129, 130, 131, 132, 73, 133, 134, 135, 533, 534, 535, 536, 140, 141, 142, 143, 144, 145, 146, 147, 148, 149, 150, 151, 795, 796, 797, 798, 799, 800, 801, 802, 803, 804, 805, 806, 807] (by decide +kernel) (by decide +kernel)
set_option maxRecDepth 20000 in
theorem gL_law_X5_restore : GoodIn wsL_law (wsV RL 120 RX5 yX5_restore wsX5_restore) := goodIn_app (goodIn_of _ (by decide +kernel)) ggL_law_X5_restore
theorem dL_law_0 : decode cL_law 0 = .ok (.new 7, 3) := by decide +kernel
theorem dL_law_3 : decode cL_law 3 = .ok (.dup, 1) := by decide +kernel
theorem dL_law_4 : decode cL_law 4 = .ok (.invokespecial 9, 3) := by decide +kernel
theorem dL_law_7 : decode cL_law 7 = .ok (.astore_n 1, 1) := by decide +kernel
theorem dL_law_8 : decode cL_law 8 = .ok (.new 10, 3) := by decide +kernel
theorem dL_law_11 : decode cL_law 11 = .ok (.dup, 1) := by decide +kernel
theorem dL_law_12 : decode cL_law 12 = .ok (.invokespecial 12, 3) := by decide +kernel
theorem dL_law_15 : decode cL_law 15 = .ok (.astore_n 2, 1) := by decide +kernel
theorem dL_law_16 : decode cL_law 16 = .ok (.iconst 0, 1) := by decide +kernel
theorem dL_law_17 : decode cL_law 17 = .ok (.istore_n 3, 1) := by decide +kernel
theorem dL_law_18 : decode cL_law 18 = .ok (.iload_n 3, 1) := by decide +kernel
theorem dL_law_19 : decode cL_law 19 = .ok (.aload_n 0, 1) := by decide +kernel
theorem dL_law_20 : decode cL_law 20 = .ok (.arraylength, 1) := by decide +kernel
theorem dL_law_21 : decode cL_law 21 = .ok (.iconst 4, 1) := by decide +kernel
theorem dL_law_22 : decode cL_law 22 = .ok (.isub, 1) := by decide +kernel
theorem dL_law_23 : decode cL_law 23 = .ok (.if_icmp .gt 837, 3) := by decide +kernel
theorem dL_law_26 : decode cL_law 26 = .ok (.aload_n 0, 1) := by decide +kernel
theorem dL_law_27 : decode cL_law 27 = .ok (.iload_n 3, 1) := by decide +kernel
theorem dL_law_28 : decode cL_law 28 = .ok (.iaload, 1) := by decide +kernel
theorem dL_law_29 : decode cL_law 29 = .ok (.bipush 31, 2) := by decide +kernel
theorem dL_law_31 : decode cL_law 31 = .ok (.iand, 1) := by decide +kernel
theorem dL_law_32 : decode cL_law 32 = .ok (.tableswitch 822 0 24 #[116, 139, 172, 205, 248, 281, 304, 327, 370, 403, 436, 470, 503, 526, 559, 592, 615, 648, 671, 724, 737, 750, 763, 776, 799], 116) := by decide +kernel
theorem dL_law_148 : decode cL_law 148 = .ok (.aload_n 1, 1) := by decide +kernel
theorem dL_law_149 : decode cL_law 149 = .ok (.aload_n 0, 1) := by decide +kernel
theorem dL_law_150 : decode cL_law 150 = .ok (.iload_n 3, 1) := by decide +kernel
theorem dL_law_151 : decode cL_law 151 = .ok (.iconst 1, 1) := by decide +kernel
theorem dL_law_152 : decode cL_law 152 = .ok (.iadd, 1) := by decide +kernel
theorem dL_law_153 : decode cL_law 153 = .ok (.iaload, 1) := by decide +kernel
theorem dL_law_154 : decode cL_law 154 = .ok (.invokevirtual 13, 3) := by decide +kernel
theorem dL_law_157 : decode cL_law 157 = .ok (.aload_n 2, 1) := by decide +kernel
theorem dL_law_158 : decode cL_law 158 = .ok (.aload_n 0, 1) := by decide +kernel
theorem dL_law_159 : decode cL_law 159 = .ok (.iload_n 3, 1) := by decide +kernel
theorem dL_law_160 : decode cL_law 160 = .ok (.iconst 1, 1) := by decide +kernel
theorem dL_law_161 : decode cL_law 161 = .ok (.iadd, 1) := by decide +kernel
theorem dL_law_162 : decode cL_law 162 = .ok (.iaload, 1) := by decide +kernel
theorem dL_law_163 : decode cL_law 163 = .ok (.invokevirtual 17, 3) := by decide +kernel
theorem dL_law_166 : decode cL_law 166 = .ok (.if_icmp .eq 688, 3) := by decide +kernel
theorem dL_law_169 : decode cL_law 169 = .ok (.iconst 0, 1) := by decide +kernel
theorem dL_law_170 : decode cL_law 170 = .ok (.ireturn, 1) := by decide +kernel
theorem dL_law_171 : decode cL_law 171 = .ok (.aload_n 1, 1) := by decide +kernel
theorem dL_law_172 : decode cL_law 172 = .ok (.aload_n 0, 1) := by decide +kernel
theorem dL_law_173 : decode cL_law 173 = .ok (.iload_n 3, 1) := by decide +kernel
theorem dL_law_174 : decode cL_law 174 = .ok (.iconst 1, 1) := by decide +kernel
theorem dL_law_175 : decode cL_law 175 = .ok (.iadd, 1) := by decide +kernel
theorem dL_law_176 : decode cL_law 176 = .ok (.iaload, 1) := by decide +kernel
theorem dL_law_177 : decode cL_law 177 = .ok (.aload_n 0, 1) := by decide +kernel
theorem dL_law_178 : decode cL_law 178 = .ok (.iload_n 3, 1) := by decide +kernel
theorem dL_law_179 : decode cL_law 179 = .ok (.iconst 2, 1) := by decide +kernel
theorem dL_law_180 : decode cL_law 180 = .ok (.iadd, 1) := by decide +kernel
theorem dL_law_181 : decode cL_law 181 = .ok (.iaload, 1) := by decide +kernel
theorem dL_law_182 : decode cL_law 182 = .ok (.invokevirtual 18, 3) := by decide +kernel
theorem dL_law_185 : decode cL_law 185 = .ok (.aload_n 2, 1) := by decide +kernel
theorem dL_law_186 : decode cL_law 186 = .ok (.aload_n 0, 1) := by decide +kernel
theorem dL_law_187 : decode cL_law 187 = .ok (.iload_n 3, 1) := by decide +kernel
theorem dL_law_188 : decode cL_law 188 = .ok (.iconst 1, 1) := by decide +kernel
theorem dL_law_189 : decode cL_law 189 = .ok (.iadd, 1) := by decide +kernel
theorem dL_law_190 : decode cL_law 190 = .ok (.iaload, 1) := by decide +kernel
theorem dL_law_191 : decode cL_law 191 = .ok (.aload_n 0, 1) := by decide +kernel
theorem dL_law_192 : decode cL_law 192 = .ok (.iload_n 3, 1) := by decide +kernel
theorem dL_law_193 : decode cL_law 193 = .ok (.iconst 2, 1) := by decide +kernel
theorem dL_law_194 : decode cL_law 194 = .ok (.iadd, 1) := by decide +kernel
theorem dL_law_195 : decode cL_law 195 = .ok (.iaload, 1) := by decide +kernel
theorem dL_law_196 : decode cL_law 196 = .ok (.invokevirtual 22, 3) := by decide +kernel
theorem dL_law_199 : decode cL_law 199 = .ok (.if_icmp .eq 655, 3) := by decide +kernel
theorem dL_law_202 : decode cL_law 202 = .ok (.iconst 0, 1) := by decide +kernel
theorem dL_law_203 : decode cL_law 203 = .ok (.ireturn, 1) := by decide +kernel
theorem dL_law_204 : decode cL_law 204 = .ok (.aload_n 1, 1) := by decide +kernel
theorem dL_law_205 : decode cL_law 205 = .ok (.aload_n 0, 1) := by decide +kernel
theorem dL_law_206 : decode cL_law 206 = .ok (.iload_n 3, 1) := by decide +kernel
theorem dL_law_207 : decode cL_law 207 = .ok (.iconst 1, 1) := by decide +kernel
theorem dL_law_208 : decode cL_law 208 = .ok (.iadd, 1) := by decide +kernel
theorem dL_law_209 : decode cL_law 209 = .ok (.iaload, 1) := by decide +kernel
theorem dL_law_210 : decode cL_law 210 = .ok (.aload_n 0, 1) := by decide +kernel
theorem dL_law_211 : decode cL_law 211 = .ok (.iload_n 3, 1) := by decide +kernel
theorem dL_law_212 : decode cL_law 212 = .ok (.iconst 2, 1) := by decide +kernel
theorem dL_law_213 : decode cL_law 213 = .ok (.iadd, 1) := by decide +kernel
theorem dL_law_214 : decode cL_law 214 = .ok (.iaload, 1) := by decide +kernel
theorem dL_law_215 : decode cL_law 215 = .ok (.invokevirtual 23, 3) := by decide +kernel
theorem dL_law_218 : decode cL_law 218 = .ok (.aload_n 2, 1) := by decide +kernel
theorem dL_law_219 : decode cL_law 219 = .ok (.aload_n 0, 1) := by decide +kernel
theorem dL_law_220 : decode cL_law 220 = .ok (.iload_n 3, 1) := by decide +kernel
theorem dL_law_221 : decode cL_law 221 = .ok (.iconst 1, 1) := by decide +kernel
theorem dL_law_222 : decode cL_law 222 = .ok (.iadd, 1) := by decide +kernel
theorem dL_law_223 : decode cL_law 223 = .ok (.iaload, 1) := by decide +kernel
theorem dL_law_224 : decode cL_law 224 = .ok (.aload_n 0, 1) := by decide +kernel
theorem dL_law_225 : decode cL_law 225 = .ok (.iload_n 3, 1) := by decide +kernel
theorem dL_law_226 : decode cL_law 226 = .ok (.iconst 2, 1) := by decide +kernel
theorem dL_law_227 : decode cL_law 227 = .ok (.iadd, 1) := by decide +kernel
theorem dL_law_228 : decode cL_law 228 = .ok (.iaload, 1) := by decide +kernel
theorem dL_law_229 : decode cL_law 229 = .ok (.invokevirtual 26, 3) := by decide +kernel
theorem dL_law_232 : decode cL_law 232 = .ok (.if_icmp .eq 622, 3) := by decide +kernel
theorem dL_law_235 : decode cL_law 235 = .ok (.iconst 0, 1) := by decide +kernel
theorem dL_law_236 : decode cL_law 236 = .ok (.ireturn, 1) := by decide +kernel
theorem dL_law_237 : decode cL_law 237 = .ok (.aload_n 1, 1) := by decide +kernel
theorem dL_law_238 : decode cL_law 238 = .ok (.aload_n 0, 1) := by decide +kernel
theorem dL_law_239 : decode cL_law 239 = .ok (.iload_n 3, 1) := by decide +kernel
theorem dL_law_240 : decode cL_law 240 = .ok (.iconst 1, 1) := by decide +kernel
theorem dL_law_241 : decode cL_law 241 = .ok (.iadd, 1) := by decide +kernel
theorem dL_law_242 : decode cL_law 242 = .ok (.iaload, 1) := by decide +kernel
theorem dL_law_243 : decode cL_law 243 = .ok (.aload_n 0, 1) := by decide +kernel
theorem dL_law_244 : decode cL_law 244 = .ok (.iload_n 3, 1) := by decide +kernel
theorem dL_law_245 : decode cL_law 245 = .ok (.iconst 2, 1) := by decide +kernel
theorem dL_law_246 : decode cL_law 246 = .ok (.iadd, 1) := by decide +kernel
theorem dL_law_247 : decode cL_law 247 = .ok (.iaload, 1) := by decide +kernel
theorem dL_law_248 : decode cL_law 248 = .ok (.aload_n 0, 1) := by decide +kernel
theorem dL_law_249 : decode cL_law 249 = .ok (.iload_n 3, 1) := by decide +kernel
theorem dL_law_250 : decode cL_law 250 = .ok (.iconst 3, 1) := by decide +kernel
theorem dL_law_251 : decode cL_law 251 = .ok (.iadd, 1) := by decide +kernel
theorem dL_law_252 : decode cL_law 252 = .ok (.iaload, 1) := by decide +kernel
theorem dL_law_253 : decode cL_law 253 = .ok (.invokevirtual 27, 3) := by decide +kernel
theorem dL_law_256 : decode cL_law 256 = .ok (.aload_n 2, 1) := by decide +kernel
theorem dL_law_257 : decode cL_law 257 = .ok (.aload_n 0, 1) := by decide +kernel
theorem dL_law_258 : decode cL_law 258 = .ok (.iload_n 3, 1) := by decide +kernel
theorem dL_law_259 : decode cL_law 259 = .ok (.iconst 1, 1) := by decide +kernel
theorem dL_law_260 : decode cL_law 260 = .ok (.iadd, 1) := by decide +kernel
theorem dL_law_261 : decode cL_law 261 = .ok (.iaload, 1) := by decide +kernel
theorem dL_law_262 : decode cL_law 262 = .ok (.aload_n 0, 1) := by decide +kernel
theorem dL_law_263 : decode cL_law 263 = .ok (.iload_n 3, 1) := by decide +kernel
theorem dL_law_264 : decode cL_law 264 = .ok (.iconst 2, 1) := by decide +kernel
theorem dL_law_265 : decode cL_law 265 = .ok (.iadd, 1) := by decide +kernel
theorem dL_law_266 : decode cL_law 266 = .ok (.iaload, 1) := by decide +kernel
theorem dL_law_267 : decode cL_law 267 = .ok (.aload_n 0, 1) := by decide +kernel
theorem dL_law_268 : decode cL_law 268 = .ok (.iload_n 3, 1) := by decide +kernel
theorem dL_law_269 : decode cL_law 269 = .ok (.iconst 3, 1) := by decide +kernel
theorem dL_law_270 : decode cL_law 270 = .ok (.iadd, 1) := by decide +kernel
theorem dL_law_271 : decode cL_law 271 = .ok (.iaload, 1) := by decide +kernel
theorem dL_law_272 : decode cL_law 272 = .ok (.invokevirtual 31, 3) := by decide +kernel
theorem dL_law_275 : decode cL_law 275 = .ok (.if_icmp .eq 579, 3) := by decide +kernel
theorem dL_law_278 : decode cL_law 278 = .ok (.iconst 0, 1) := by decide +kernel
theorem dL_law_279 : decode cL_law 279 = .ok (.ireturn, 1) := by decide +kernel
theorem dL_law_280 : decode cL_law 280 = .ok (.aload_n 1, 1) := by decide +kernel
theorem dL_law_281 : decode cL_law 281 = .ok (.aload_n 0, 1) := by decide +kernel
theorem dL_law_282 : decode cL_law 282 = .ok (.iload_n 3, 1) := by decide +kernel
theorem dL_law_283 : decode cL_law 283 = .ok (.iconst 1, 1) := by decide +kernel
theorem dL_law_284 : decode cL_law 284 = .ok (.iadd, 1) := by decide +kernel
theorem dL_law_285 : decode cL_law 285 = .ok (.iaload, 1) := by decide +kernel
theorem dL_law_286 : decode cL_law 286 = .ok (.aload_n 0, 1) := by decide +kernel
theorem dL_law_287 : decode cL_law 287 = .ok (.iload_n 3, 1) := by decide +kernel
theorem dL_law_288 : decode cL_law 288 = .ok (.iconst 2, 1) := by decide +kernel
theorem dL_law_289 : decode cL_law 289 = .ok (.iadd, 1) := by decide +kernel
theorem dL_law_290 : decode cL_law 290 = .ok (.iaload, 1) := by decide +kernel
theorem dL_law_291 : decode cL_law 291 = .ok (.invokevirtual 32, 3) := by decide +kernel
theorem dL_law_294 : decode cL_law 294 = .ok (.aload_n 2, 1) := by decide +kernel
theorem dL_law_295 : decode cL_law 295 = .ok (.aload_n 0, 1) := by decide +kernel
theorem dL_law_296 : decode cL_law 296 = .ok (.iload_n 3, 1) := by decide +kernel
theorem dL_law_297 : decode cL_law 297 = .ok (.iconst 1, 1) := by decide +kernel
theorem dL_law_298 : decode cL_law 298 = .ok (.iadd, 1) := by decide +kernel
theorem dL_law_299 : decode cL_law 299 = .ok (.iaload, 1) := by decide +kernel
theorem dL_law_300 : decode cL_law 300 = .ok (.aload_n 0, 1) := by decide +kernel
theorem dL_law_301 : decode cL_law 301 = .ok (.iload_n 3, 1) := by decide +kernel
theorem dL_law_302 : decode cL_law 302 = .ok (.iconst 2, 1) := by decide +kernel
theorem dL_law_303 : decode cL_law 303 = .ok (.iadd, 1) := by decide +kernel
theorem dL_law_304 : decode cL_law 304 = .ok (.iaload, 1) := by decide +kernel
theorem dL_law_305 : decode cL_law 305 = .ok (.invokevirtual 35, 3) := by decide +kernel
theorem dL_law_308 : decode cL_law 308 = .ok (.if_icmp .eq 546, 3) := by decide +kernel
theorem dL_law_311 : decode cL_law 311 = .ok (.iconst 0, 1) := by decide +kernel
theorem dL_law_312 : decode cL_law 312 = .ok (.ireturn, 1) := by decide +kernel
theorem dL_law_313 : decode cL_law 313 = .ok (.aload_n 1, 1) := by decide +kernel
theorem dL_law_314 : decode cL_law 314 = .ok (.aload_n 0, 1) := by decide +kernel
theorem dL_law_315 : decode cL_law 315 = .ok (.iload_n 3, 1) := by decide +kernel
theorem dL_law_316 : decode cL_law 316 = .ok (.iconst 1, 1) := by decide +kernel
theorem dL_law_317 : decode cL_law 317 = .ok (.iadd, 1) := by decide +kernel
theorem dL_law_318 : decode cL_law 318 = .ok (.iaload, 1) := by decide +kernel
theorem dL_law_319 : decode cL_law 319 = .ok (.invokevirtual 36, 3) := by decide +kernel
theorem dL_law_322 : decode cL_law 322 = .ok (.aload_n 2, 1) := by decide +kernel
theorem dL_law_323 : decode cL_law 323 = .ok (.aload_n 0, 1) := by decide +kernel
theorem dL_law_324 : decode cL_law 324 = .ok (.iload_n 3, 1) := by decide +kernel
theorem dL_law_325 : decode cL_law 325 = .ok (.iconst 1, 1) := by decide +kernel
theorem dL_law_326 : decode cL_law 326 = .ok (.iadd, 1) := by decide +kernel
theorem dL_law_327 : decode cL_law 327 = .ok (.iaload, 1) := by decide +kernel
theorem dL_law_328 : decode cL_law 328 = .ok (.invokevirtual 39, 3) := by decide +kernel
theorem dL_law_331 : decode cL_law 331 = .ok (.if_icmp .eq 523, 3) := by decide +kernel
theorem dL_law_334 : decode cL_law 334 = .ok (.iconst 0, 1) := by decide +kernel
theorem dL_law_335 : decode cL_law 335 = .ok (.ireturn, 1) := by decide +kernel
theorem dL_law_336 : decode cL_law 336 = .ok (.aload_n 1, 1) := by decide +kernel
theorem dL_law_337 : decode cL_law 337 = .ok (.aload_n 0, 1) := by decide +kernel
theorem dL_law_338 : decode cL_law 338 = .ok (.iload_n 3, 1) := by decide +kernel
theorem dL_law_339 : decode cL_law 339 = .ok (.iconst 1, 1) := by decide +kernel
theorem dL_law_340 : decode cL_law 340 = .ok (.iadd, 1) := by decide +kernel
theorem dL_law_341 : decode cL_law 341 = .ok (.iaload, 1) := by decide +kernel
theorem dL_law_342 : decode cL_law 342 = .ok (.invokevirtual 40, 3) := by decide +kernel
theorem dL_law_345 : decode cL_law 345 = .ok (.aload_n 2, 1) := by decide +kernel
theorem dL_law_346 : decode cL_law 346 = .ok (.aload_n 0, 1) := by decide +kernel
theorem dL_law_347 : decode cL_law 347 = .ok (.iload_n 3, 1) := by decide +kernel
theorem dL_law_348 : decode cL_law 348 = .ok (.iconst 1, 1) := by decide +kernel
theorem dL_law_349 : decode cL_law 349 = .ok (.iadd, 1) := by decide +kernel
theorem dL_law_350 : decode cL_law 350 = .ok (.iaload, 1) := by decide +kernel
theorem dL_law_351 : decode cL_law 351 = .ok (.invokevirtual 43, 3) := by decide +kernel
theorem dL_law_354 : decode cL_law 354 = .ok (.if_icmp .eq 500, 3) := by decide +kernel
theorem dL_law_357 : decode cL_law 357 = .ok (.iconst 0, 1) := by decide +kernel
theorem dL_law_358 : decode cL_law 358 = .ok (.ireturn, 1) := by decide +kernel
theorem dL_law_359 : decode cL_law 359 = .ok (.aload_n 1, 1) := by decide +kernel
theorem dL_law_360 : decode cL_law 360 = .ok (.aload_n 0, 1) := by decide +kernel
theorem dL_law_361 : decode cL_law 361 = .ok (.iload_n 3, 1) := by decide +kernel
theorem dL_law_362 : decode cL_law 362 = .ok (.iconst 1, 1) := by decide +kernel
theorem dL_law_363 : decode cL_law 363 = .ok (.iadd, 1) := by decide +kernel
theorem dL_law_364 : decode cL_law 364 = .ok (.iaload, 1) := by decide +kernel
theorem dL_law_365 : decode cL_law 365 = .ok (.aload_n 0, 1) := by decide +kernel
theorem dL_law_366 : decode cL_law 366 = .ok (.iload_n 3, 1) := by decide +kernel
theorem dL_law_367 : decode cL_law 367 = .ok (.iconst 2, 1) := by decide +kernel
theorem dL_law_368 : decode cL_law 368 = .ok (.iadd, 1) := by decide +kernel
theorem dL_law_369 : decode cL_law 369 = .ok (.iaload, 1) := by decide +kernel
theorem dL_law_370 : decode cL_law 370 = .ok (.aload_n 0, 1) := by decide +kernel
theorem dL_law_371 : decode cL_law 371 = .ok (.iload_n 3, 1) := by decide +kernel
theorem dL_law_372 : decode cL_law 372 = .ok (.iconst 3, 1) := by decide +kernel
theorem dL_law_373 : decode cL_law 373 = .ok (.iadd, 1) := by decide +kernel
theorem dL_law_374 : decode cL_law 374 = .ok (.iaload, 1) := by decide +kernel
theorem dL_law_375 : decode cL_law 375 = .ok (.invokevirtual 44, 3) := by decide +kernel
theorem dL_law_378 : decode cL_law 378 = .ok (.aload_n 2, 1) := by decide +kernel
theorem dL_law_379 : decode cL_law 379 = .ok (.aload_n 0, 1) := by decide +kernel
theorem dL_law_380 : decode cL_law 380 = .ok (.iload_n 3, 1) := by decide +kernel
theorem dL_law_381 : decode cL_law 381 = .ok (.iconst 1, 1) := by decide +kernel
theorem dL_law_382 : decode cL_law 382 = .ok (.iadd, 1) := by decide +kernel
theorem dL_law_383 : decode cL_law 383 = .ok (.iaload, 1) := by decide +kernel
theorem dL_law_384 : decode cL_law 384 = .ok (.aload_n 0, 1) := by decide +kernel
theorem dL_law_385 : decode cL_law 385 = .ok (.iload_n 3, 1) := by decide +kernel
theorem dL_law_386 : decode cL_law 386 = .ok (.iconst 2, 1) := by decide +kernel
theorem dL_law_387 : decode cL_law 387 = .ok (.iadd, 1) := by decide +kernel
theorem dL_law_388 : decode cL_law 388 = .ok (.iaload, 1) := by decide +kernel
theorem dL_law_389 : decode cL_law 389 = .ok (.aload_n 0, 1) := by decide +kernel
theorem dL_law_390 : decode cL_law 390 = .ok (.iload_n 3, 1) := by decide +kernel
theorem dL_law_391 : decode cL_law 391 = .ok (.iconst 3, 1) := by decide +kernel
theorem dL_law_392 : decode cL_law 392 = .ok (.iadd, 1) := by decide +kernel
theorem dL_law_393 : decode cL_law 393 = .ok (.iaload, 1) := by decide +kernel
theorem dL_law_394 : decode cL_law 394 = .ok (.invokevirtual 47, 3) := by decide +kernel
theorem dL_law_397 : decode cL_law 397 = .ok (.if_icmp .eq 457, 3) := by decide +kernel
theorem dL_law_400 : decode cL_law 400 = .ok (.iconst 0, 1) := by decide +kernel
theorem dL_law_401 : decode cL_law 401 = .ok (.ireturn, 1) := by decide +kernel
theorem dL_law_402 : decode cL_law 402 = .ok (.aload_n 1, 1) := by decide +kernel
theorem dL_law_403 : decode cL_law 403 = .ok (.aload_n 0, 1) := by decide +kernel
theorem dL_law_404 : decode cL_law 404 = .ok (.iload_n 3, 1) := by decide +kernel
theorem dL_law_405 : decode cL_law 405 = .ok (.iconst 1, 1) := by decide +kernel
theorem dL_law_406 : decode cL_law 406 = .ok (.iadd, 1) := by decide +kernel
theorem dL_law_407 : decode cL_law 407 = .ok (.iaload, 1) := by decide +kernel
theorem dL_law_408 : decode cL_law 408 = .ok (.aload_n 0, 1) := by decide +kernel
theorem dL_law_409 : decode cL_law 409 = .ok (.iload_n 3, 1) := by decide +kernel
theorem dL_law_410 : decode cL_law 410 = .ok (.iconst 2, 1) := by decide +kernel
theorem dL_law_411 : decode cL_law 411 = .ok (.iadd, 1) := by decide +kernel
theorem dL_law_412 : decode cL_law 412 = .ok (.iaload, 1) := by decide +kernel
theorem dL_law_413 : decode cL_law 413 = .ok (.invokevirtual 48, 3) := by decide +kernel
theorem dL_law_416 : decode cL_law 416 = .ok (.aload_n 2, 1) := by decide +kernel
theorem dL_law_417 : decode cL_law 417 = .ok (.aload_n 0, 1) := by decide +kernel
theorem dL_law_418 : decode cL_law 418 = .ok (.iload_n 3, 1) := by decide +kernel
theorem dL_law_419 : decode cL_law 419 = .ok (.iconst 1, 1) := by decide +kernel
theorem dL_law_420 : decode cL_law 420 = .ok (.iadd, 1) := by decide +kernel
theorem dL_law_421 : decode cL_law 421 = .ok (.iaload, 1) := by decide +kernel
theorem dL_law_422 : decode cL_law 422 = .ok (.aload_n 0, 1) := by decide +kernel
theorem dL_law_423 : decode cL_law 423 = .ok (.iload_n 3, 1) := by decide +kernel
theorem dL_law_424 : decode cL_law 424 = .ok (.iconst 2, 1) := by decide +kernel
theorem dL_law_425 : decode cL_law 425 = .ok (.iadd, 1) := by decide +kernel
theorem dL_law_426 : decode cL_law 426 = .ok (.iaload, 1) := by decide +kernel
theorem dL_law_427 : decode cL_law 427 = .ok (.invokevirtual 51, 3) := by decide +kernel
theorem dL_law_430 : decode cL_law 430 = .ok (.if_icmp .eq 424, 3) := by decide +kernel
theorem dL_law_433 : decode cL_law 433 = .ok (.iconst 0, 1) := by decide +kernel
theorem dL_law_434 : decode cL_law 434 = .ok (.ireturn, 1) := by decide +kernel
theorem dL_law_435 : decode cL_law 435 = .ok (.aload_n 1, 1) := by decide +kernel
theorem dL_law_436 : decode cL_law 436 = .ok (.aload_n 0, 1) := by decide +kernel
theorem dL_law_437 : decode cL_law 437 = .ok (.iload_n 3, 1) := by decide +kernel
theorem dL_law_438 : decode cL_law 438 = .ok (.iconst 1, 1) := by decide +kernel
theorem dL_law_439 : decode cL_law 439 = .ok (.iadd, 1) := by decide +kernel
theorem dL_law_440 : decode cL_law 440 = .ok (.iaload, 1) := by decide +kernel
theorem dL_law_441 : decode cL_law 441 = .ok (.aload_n 0, 1) := by decide +kernel
theorem dL_law_442 : decode cL_law 442 = .ok (.iload_n 3, 1) := by decide +kernel
theorem dL_law_443 : decode cL_law 443 = .ok (.iconst 2, 1) := by decide +kernel
theorem dL_law_444 : decode cL_law 444 = .ok (.iadd, 1) := by decide +kernel
theorem dL_law_445 : decode cL_law 445 = .ok (.iaload, 1) := by decide +kernel
theorem dL_law_446 : decode cL_law 446 = .ok (.invokevirtual 52, 3) := by decide +kernel
theorem dL_law_449 : decode cL_law 449 = .ok (.aload_n 2, 1) := by decide +kernel
theorem dL_law_450 : decode cL_law 450 = .ok (.aload_n 0, 1) := by decide +kernel
theorem dL_law_451 : decode cL_law 451 = .ok (.iload_n 3, 1) := by decide +kernel
theorem dL_law_452 : decode cL_law 452 = .ok (.iconst 1, 1) := by decide +kernel
theorem dL_law_453 : decode cL_law 453 = .ok (.iadd, 1) := by decide +kernel
theorem dL_law_454 : decode cL_law 454 = .ok (.iaload, 1) := by decide +kernel
theorem dL_law_455 : decode cL_law 455 = .ok (.aload_n 0, 1) := by decide +kernel
theorem dL_law_456 : decode cL_law 456 = .ok (.iload_n 3, 1) := by decide +kernel
theorem dL_law_457 : decode cL_law 457 = .ok (.iconst 2, 1) := by decide +kernel
theorem dL_law_458 : decode cL_law 458 = .ok (.iadd, 1) := by decide +kernel
theorem dL_law_459 : decode cL_law 459 = .ok (.iaload, 1) := by decide +kernel
theorem dL_law_460 : decode cL_law 460 = .ok (.invokevirtual 55, 3) := by decide +kernel
theorem dL_law_463 : decode cL_law 463 = .ok (.if_icmp .eq 391, 3) := by decide +kernel
theorem dL_law_466 : decode cL_law 466 = .ok (.iconst 0, 1) := by decide +kernel
theorem dL_law_467 : decode cL_law 467 = .ok (.ireturn, 1) := by decide +kernel
theorem dL_law_468 : decode cL_law 468 = .ok (.aload_n 1, 1) := by decide +kernel
theorem dL_law_469 : decode cL_law 469 = .ok (.aload_n 0, 1) := by decide +kernel
theorem dL_law_470 : decode cL_law 470 = .ok (.iload_n 3, 1) := by decide +kernel
theorem dL_law_471 : decode cL_law 471 = .ok (.iconst 1, 1) := by decide +kernel
theorem dL_law_472 : decode cL_law 472 = .ok (.iadd, 1) := by decide +kernel
theorem dL_law_473 : decode cL_law 473 = .ok (.iaload, 1) := by decide +kernel
theorem dL_law_474 : decode cL_law 474 = .ok (.aload_n 0, 1) := by decide +kernel
theorem dL_law_475 : decode cL_law 475 = .ok (.iload_n 3, 1) := by decide +kernel
theorem dL_law_476 : decode cL_law 476 = .ok (.iconst 2, 1) := by decide +kernel
theorem dL_law_477 : decode cL_law 477 = .ok (.iadd, 1) := by decide +kernel
theorem dL_law_478 : decode cL_law 478 = .ok (.iaload, 1) := by decide +kernel
theorem dL_law_479 : decode cL_law 479 = .ok (.invokevirtual 56, 3) := by decide +kernel
theorem dL_law_482 : decode cL_law 482 = .ok (.aload_n 2, 1) := by decide +kernel
theorem dL_law_483 : decode cL_law 483 = .ok (.aload_n 0, 1) := by decide +kernel
theorem dL_law_484 : decode cL_law 484 = .ok (.iload_n 3, 1) := by decide +kernel
theorem dL_law_485 : decode cL_law 485 = .ok (.iconst 1, 1) := by decide +kernel
theorem dL_law_486 : decode cL_law 486 = .ok (.iadd, 1) := by decide +kernel
theorem dL_law_487 : decode cL_law 487 = .ok (.iaload, 1) := by decide +kernel
theorem dL_law_488 : decode cL_law 488 = .ok (.aload_n 0, 1) := by decide +kernel
theorem dL_law_489 : decode cL_law 489 = .ok (.iload_n 3, 1) := by decide +kernel
theorem dL_law_490 : decode cL_law 490 = .ok (.iconst 2, 1) := by decide +kernel
theorem dL_law_491 : decode cL_law 491 = .ok (.iadd, 1) := by decide +kernel
theorem dL_law_492 : decode cL_law 492 = .ok (.iaload, 1) := by decide +kernel
theorem dL_law_493 : decode cL_law 493 = .ok (.invokevirtual 60, 3) := by decide +kernel
theorem dL_law_496 : decode cL_law 496 = .ok (.lcmp, 1) := by decide +kernel
theorem dL_law_497 : decode cL_law 497 = .ok (.ifCond .eq 357, 3) := by decide +kernel
theorem dL_law_500 : decode cL_law 500 = .ok (.iconst 0, 1) := by decide +kernel
theorem dL_law_501 : decode cL_law 501 = .ok (.ireturn, 1) := by decide +kernel
theorem dL_law_502 : decode cL_law 502 = .ok (.aload_n 1, 1) := by decide +kernel
theorem dL_law_503 : decode cL_law 503 = .ok (.aload_n 0, 1) := by decide +kernel
theorem dL_law_504 : decode cL_law 504 = .ok (.iload_n 3, 1) := by decide +kernel
theorem dL_law_505 : decode cL_law 505 = .ok (.iconst 1, 1) := by decide +kernel
theorem dL_law_506 : decode cL_law 506 = .ok (.iadd, 1) := by decide +kernel
theorem dL_law_507 : decode cL_law 507 = .ok (.iaload, 1) := by decide +kernel
theorem dL_law_508 : decode cL_law 508 = .ok (.aload_n 0, 1) := by decide +kernel
theorem dL_law_509 : decode cL_law 509 = .ok (.iload_n 3, 1) := by decide +kernel
theorem dL_law_510 : decode cL_law 510 = .ok (.iconst 2, 1) := by decide +kernel
theorem dL_law_511 : decode cL_law 511 = .ok (.iadd, 1) := by decide +kernel
theorem dL_law_512 : decode cL_law 512 = .ok (.iaload, 1) := by decide +kernel
theorem dL_law_513 : decode cL_law 513 = .ok (.invokevirtual 61, 3) := by decide +kernel
theorem dL_law_516 : decode cL_law 516 = .ok (.aload_n 2, 1) := by decide +kernel
theorem dL_law_517 : decode cL_law 517 = .ok (.aload_n 0, 1) := by decide +kernel
theorem dL_law_518 : decode cL_law 518 = .ok (.iload_n 3, 1) := by decide +kernel
theorem dL_law_519 : decode cL_law 519 = .ok (.iconst 1, 1) := by decide +kernel
theorem dL_law_520 : decode cL_law 520 = .ok (.iadd, 1) := by decide +kernel
theorem dL_law_521 : decode cL_law 521 = .ok (.iaload, 1) := by decide +kernel
theorem dL_law_522 : decode cL_law 522 = .ok (.aload_n 0, 1) := by decide +kernel
theorem dL_law_523 : decode cL_law 523 = .ok (.iload_n 3, 1) := by decide +kernel
theorem dL_law_524 : decode cL_law 524 = .ok (.iconst 2, 1) := by decide +kernel
theorem dL_law_525 : decode cL_law 525 = .ok (.iadd, 1) := by decide +kernel
theorem dL_law_526 : decode cL_law 526 = .ok (.iaload, 1) := by decide +kernel
theorem dL_law_527 : decode cL_law 527 = .ok (.invokevirtual 64, 3) := by decide +kernel
theorem dL_law_530 : decode cL_law 530 = .ok (.if_icmp .eq 324, 3) := by decide +kernel
theorem dL_law_533 : decode cL_law 533 = .ok (.iconst 0, 1) := by decide +kernel
theorem dL_law_534 : decode cL_law 534 = .ok (.ireturn, 1) := by decide +kernel
theorem dL_law_535 : decode cL_law 535 = .ok (.aload_n 1, 1) := by decide +kernel
theorem dL_law_536 : decode cL_law 536 = .ok (.aload_n 0, 1) := by decide +kernel
theorem dL_law_537 : decode cL_law 537 = .ok (.iload_n 3, 1) := by decide +kernel
theorem dL_law_538 : decode cL_law 538 = .ok (.iconst 1, 1) := by decide +kernel
theorem dL_law_539 : decode cL_law 539 = .ok (.iadd, 1) := by decide +kernel
theorem dL_law_540 : decode cL_law 540 = .ok (.iaload, 1) := by decide +kernel
theorem dL_law_541 : decode cL_law 541 = .ok (.invokevirtual 65, 3) := by decide +kernel
theorem dL_law_544 : decode cL_law 544 = .ok (.aload_n 2, 1) := by decide +kernel
theorem dL_law_545 : decode cL_law 545 = .ok (.aload_n 0, 1) := by decide +kernel
theorem dL_law_546 : decode cL_law 546 = .ok (.iload_n 3, 1) := by decide +kernel
theorem dL_law_547 : decode cL_law 547 = .ok (.iconst 1, 1) := by decide +kernel
theorem dL_law_548 : decode cL_law 548 = .ok (.iadd, 1) := by decide +kernel
theorem dL_law_549 : decode cL_law 549 = .ok (.iaload, 1) := by decide +kernel
theorem dL_law_550 : decode cL_law 550 = .ok (.invokevirtual 68, 3) := by decide +kernel
theorem dL_law_553 : decode cL_law 553 = .ok (.if_icmp .eq 301, 3) := by decide +kernel
theorem dL_law_556 : decode cL_law 556 = .ok (.iconst 0, 1) := by decide +kernel
theorem dL_law_557 : decode cL_law 557 = .ok (.ireturn, 1) := by decide +kernel
theorem dL_law_558 : decode cL_law 558 = .ok (.aload_n 1, 1) := by decide +kernel
theorem dL_law_559 : decode cL_law 559 = .ok (.aload_n 0, 1) := by decide +kernel
theorem dL_law_560 : decode cL_law 560 = .ok (.iload_n 3, 1) := by decide +kernel
theorem dL_law_561 : decode cL_law 561 = .ok (.iconst 1, 1) := by decide +kernel
theorem dL_law_562 : decode cL_law 562 = .ok (.iadd, 1) := by decide +kernel
theorem dL_law_563 : decode cL_law 563 = .ok (.iaload, 1) := by decide +kernel
theorem dL_law_564 : decode cL_law 564 = .ok (.aload_n 0, 1) := by decide +kernel
theorem dL_law_565 : decode cL_law 565 = .ok (.iload_n 3, 1) := by decide +kernel
theorem dL_law_566 : decode cL_law 566 = .ok (.iconst 2, 1) := by decide +kernel
theorem dL_law_567 : decode cL_law 567 = .ok (.iadd, 1) := by decide +kernel
theorem dL_law_568 : decode cL_law 568 = .ok (.iaload, 1) := by decide +kernel
theorem dL_law_569 : decode cL_law 569 = .ok (.invokevirtual 69, 3) := by decide +kernel
theorem dL_law_572 : decode cL_law 572 = .ok (.aload_n 2, 1) := by decide +kernel
theorem dL_law_573 : decode cL_law 573 = .ok (.aload_n 0, 1) := by decide +kernel
theorem dL_law_574 : decode cL_law 574 = .ok (.iload_n 3, 1) := by decide +kernel
theorem dL_law_575 : decode cL_law 575 = .ok (.iconst 1, 1) := by decide +kernel
theorem dL_law_576 : decode cL_law 576 = .ok (.iadd, 1) := by decide +kernel
theorem dL_law_577 : decode cL_law 577 = .ok (.iaload, 1) := by decide +kernel
theorem dL_law_578 : decode cL_law 578 = .ok (.aload_n 0, 1) := by decide +kernel
theorem dL_law_579 : decode cL_law 579 = .ok (.iload_n 3, 1) := by decide +kernel
theorem dL_law_580 : decode cL_law 580 = .ok (.iconst 2, 1) := by decide +kernel
theorem dL_law_581 : decode cL_law 581 = .ok (.iadd, 1) := by decide +kernel
theorem dL_law_582 : decode cL_law 582 = .ok (.iaload, 1) := by decide +kernel
theorem dL_law_583 : decode cL_law 583 = .ok (.invokevirtual 72, 3) := by decide +kernel
theorem dL_law_586 : decode cL_law 586 = .ok (.if_icmp .eq 268, 3) := by decide +kernel
theorem dL_law_589 : decode cL_law 589 = .ok (.iconst 0, 1) := by decide +kernel
theorem dL_law_590 : decode cL_law 590 = .ok (.ireturn, 1) := by decide +kernel
theorem dL_law_591 : decode cL_law 591 = .ok (.aload_n 1, 1) := by decide +kernel
theorem dL_law_592 : decode cL_law 592 = .ok (.aload_n 0, 1) := by decide +kernel
theorem dL_law_593 : decode cL_law 593 = .ok (.iload_n 3, 1) := by decide +kernel
theorem dL_law_594 : decode cL_law 594 = .ok (.iconst 1, 1) := by decide +kernel
theorem dL_law_595 : decode cL_law 595 = .ok (.iadd, 1) := by decide +kernel
theorem dL_law_596 : decode cL_law 596 = .ok (.iaload, 1) := by decide +kernel
theorem dL_law_597 : decode cL_law 597 = .ok (.aload_n 0, 1) := by decide +kernel
theorem dL_law_598 : decode cL_law 598 = .ok (.iload_n 3, 1) := by decide +kernel
theorem dL_law_599 : decode cL_law 599 = .ok (.iconst 2, 1) := by decide +kernel
theorem dL_law_600 : decode cL_law 600 = .ok (.iadd, 1) := by decide +kernel
theorem dL_law_601 : decode cL_law 601 = .ok (.iaload, 1) := by decide +kernel
theorem dL_law_602 : decode cL_law 602 = .ok (.invokevirtual 73, 3) := by decide +kernel
theorem dL_law_605 : decode cL_law 605 = .ok (.aload_n 2, 1) := by decide +kernel
theorem dL_law_606 : decode cL_law 606 = .ok (.aload_n 0, 1) := by decide +kernel
theorem dL_law_607 : decode cL_law 607 = .ok (.iload_n 3, 1) := by decide +kernel
theorem dL_law_608 : decode cL_law 608 = .ok (.iconst 1, 1) := by decide +kernel
theorem dL_law_609 : decode cL_law 609 = .ok (.iadd, 1) := by decide +kernel
theorem dL_law_610 : decode cL_law 610 = .ok (.iaload, 1) := by decide +kernel
theorem dL_law_611 : decode cL_law 611 = .ok (.aload_n 0, 1) := by decide +kernel
theorem dL_law_612 : decode cL_law 612 = .ok (.iload_n 3, 1) := by decide +kernel
theorem dL_law_613 : decode cL_law 613 = .ok (.iconst 2, 1) := by decide +kernel
theorem dL_law_614 : decode cL_law 614 = .ok (.iadd, 1) := by decide +kernel
theorem dL_law_615 : decode cL_law 615 = .ok (.iaload, 1) := by decide +kernel
theorem dL_law_616 : decode cL_law 616 = .ok (.invokevirtual 76, 3) := by decide +kernel
theorem dL_law_619 : decode cL_law 619 = .ok (.if_icmp .eq 235, 3) := by decide +kernel
theorem dL_law_622 : decode cL_law 622 = .ok (.iconst 0, 1) := by decide +kernel
theorem dL_law_623 : decode cL_law 623 = .ok (.ireturn, 1) := by decide +kernel
theorem dL_law_624 : decode cL_law 624 = .ok (.aload_n 1, 1) := by decide +kernel
theorem dL_law_625 : decode cL_law 625 = .ok (.aload_n 0, 1) := by decide +kernel
theorem dL_law_626 : decode cL_law 626 = .ok (.iload_n 3, 1) := by decide +kernel
theorem dL_law_627 : decode cL_law 627 = .ok (.iconst 1, 1) := by decide +kernel
theorem dL_law_628 : decode cL_law 628 = .ok (.iadd, 1) := by decide +kernel
theorem dL_law_629 : decode cL_law 629 = .ok (.iaload, 1) := by decide +kernel
theorem dL_law_630 : decode cL_law 630 = .ok (.invokevirtual 77, 3) := by decide +kernel
theorem dL_law_633 : decode cL_law 633 = .ok (.aload_n 2, 1) := by decide +kernel
theorem dL_law_634 : decode cL_law 634 = .ok (.aload_n 0, 1) := by decide +kernel
theorem dL_law_635 : decode cL_law 635 = .ok (.iload_n 3, 1) := by decide +kernel
theorem dL_law_636 : decode cL_law 636 = .ok (.iconst 1, 1) := by decide +kernel
theorem dL_law_637 : decode cL_law 637 = .ok (.iadd, 1) := by decide +kernel
theorem dL_law_638 : decode cL_law 638 = .ok (.iaload, 1) := by decide +kernel
theorem dL_law_639 : decode cL_law 639 = .ok (.invokevirtual 80, 3) := by decide +kernel
theorem dL_law_642 : decode cL_law 642 = .ok (.if_icmp .eq 212, 3) := by decide +kernel
theorem dL_law_645 : decode cL_law 645 = .ok (.iconst 0, 1) := by decide +kernel
theorem dL_law_646 : decode cL_law 646 = .ok (.ireturn, 1) := by decide +kernel
theorem dL_law_647 : decode cL_law 647 = .ok (.aload_n 1, 1) := by decide +kernel
theorem dL_law_648 : decode cL_law 648 = .ok (.aload_n 0, 1) := by decide +kernel
theorem dL_law_649 : decode cL_law 649 = .ok (.iload_n 3, 1) := by decide +kernel
theorem dL_law_650 : decode cL_law 650 = .ok (.iconst 1, 1) := by decide +kernel
theorem dL_law_651 : decode cL_law 651 = .ok (.iadd, 1) := by decide +kernel
theorem dL_law_652 : decode cL_law 652 = .ok (.iaload, 1) := by decide +kernel
theorem dL_law_653 : decode cL_law 653 = .ok (.aload_n 0, 1) := by decide +kernel
theorem dL_law_654 : decode cL_law 654 = .ok (.iload_n 3, 1) := by decide +kernel
theorem dL_law_655 : decode cL_law 655 = .ok (.iconst 2, 1) := by decide +kernel
theorem dL_law_656 : decode cL_law 656 = .ok (.iadd, 1) := by decide +kernel
theorem dL_law_657 : decode cL_law 657 = .ok (.iaload, 1) := by decide +kernel
theorem dL_law_658 : decode cL_law 658 = .ok (.invokevirtual 81, 3) := by decide +kernel
theorem dL_law_661 : decode cL_law 661 = .ok (.aload_n 2, 1) := by decide +kernel
theorem dL_law_662 : decode cL_law 662 = .ok (.aload_n 0, 1) := by decide +kernel
theorem dL_law_663 : decode cL_law 663 = .ok (.iload_n 3, 1) := by decide +kernel
theorem dL_law_664 : decode cL_law 664 = .ok (.iconst 1, 1) := by decide +kernel
theorem dL_law_665 : decode cL_law 665 = .ok (.iadd, 1) := by decide +kernel
theorem dL_law_666 : decode cL_law 666 = .ok (.iaload, 1) := by decide +kernel
theorem dL_law_667 : decode cL_law 667 = .ok (.aload_n 0, 1) := by decide +kernel
theorem dL_law_668 : decode cL_law 668 = .ok (.iload_n 3, 1) := by decide +kernel
theorem dL_law_669 : decode cL_law 669 = .ok (.iconst 2, 1) := by decide +kernel
theorem dL_law_670 : decode cL_law 670 = .ok (.iadd, 1) := by decide +kernel
theorem dL_law_671 : decode cL_law 671 = .ok (.iaload, 1) := by decide +kernel
theorem dL_law_672 : decode cL_law 672 = .ok (.invokevirtual 84, 3) := by decide +kernel
theorem dL_law_675 : decode cL_law 675 = .ok (.if_icmp .eq 179, 3) := by decide +kernel
theorem dL_law_678 : decode cL_law 678 = .ok (.iconst 0, 1) := by decide +kernel
theorem dL_law_679 : decode cL_law 679 = .ok (.ireturn, 1) := by decide +kernel
theorem dL_law_680 : decode cL_law 680 = .ok (.aload_n 1, 1) := by decide +kernel
theorem dL_law_681 : decode cL_law 681 = .ok (.aload_n 0, 1) := by decide +kernel
theorem dL_law_682 : decode cL_law 682 = .ok (.iload_n 3, 1) := by decide +kernel
theorem dL_law_683 : decode cL_law 683 = .ok (.iconst 1, 1) := by decide +kernel
theorem dL_law_684 : decode cL_law 684 = .ok (.iadd, 1) := by decide +kernel
theorem dL_law_685 : decode cL_law 685 = .ok (.iaload, 1) := by decide +kernel
theorem dL_law_686 : decode cL_law 686 = .ok (.invokevirtual 85, 3) := by decide +kernel
theorem dL_law_689 : decode cL_law 689 = .ok (.aload_n 2, 1) := by decide +kernel
theorem dL_law_690 : decode cL_law 690 = .ok (.aload_n 0, 1) := by decide +kernel
theorem dL_law_691 : decode cL_law 691 = .ok (.iload_n 3, 1) := by decide +kernel
theorem dL_law_692 : decode cL_law 692 = .ok (.iconst 1, 1) := by decide +kernel
theorem dL_law_693 : decode cL_law 693 = .ok (.iadd, 1) := by decide +kernel
theorem dL_law_694 : decode cL_law 694 = .ok (.iaload, 1) := by decide +kernel
theorem dL_law_695 : decode cL_law 695 = .ok (.invokevirtual 88, 3) := by decide +kernel
theorem dL_law_698 : decode cL_law 698 = .ok (.if_icmp .eq 156, 3) := by decide +kernel
theorem dL_law_701 : decode cL_law 701 = .ok (.iconst 0, 1) := by decide +kernel
theorem dL_law_702 : decode cL_law 702 = .ok (.ireturn, 1) := by decide +kernel
theorem dL_law_703 : decode cL_law 703 = .ok (.aload_n 1, 1) := by decide +kernel
theorem dL_law_704 : decode cL_law 704 = .ok (.aload_n 0, 1) := by decide +kernel
theorem dL_law_705 : decode cL_law 705 = .ok (.iload_n 3, 1) := by decide +kernel
theorem dL_law_706 : decode cL_law 706 = .ok (.iconst 1, 1) := by decide +kernel
theorem dL_law_707 : decode cL_law 707 = .ok (.iadd, 1) := by decide +kernel
theorem dL_law_708 : decode cL_law 708 = .ok (.iaload, 1) := by decide +kernel
theorem dL_law_709 : decode cL_law 709 = .ok (.i2l, 1) := by decide +kernel
theorem dL_law_710 : decode cL_law 710 = .ok (.bipush 32, 2) := by decide +kernel
theorem dL_law_712 : decode cL_law 712 = .ok (.lshl, 1) := by decide +kernel
theorem dL_law_713 : decode cL_law 713 = .ok (.aload_n 0, 1) := by decide +kernel
theorem dL_law_714 : decode cL_law 714 = .ok (.iload_n 3, 1) := by decide +kernel
theorem dL_law_715 : decode cL_law 715 = .ok (.iconst 2, 1) := by decide +kernel
theorem dL_law_716 : decode cL_law 716 = .ok (.iadd, 1) := by decide +kernel
theorem dL_law_717 : decode cL_law 717 = .ok (.iaload, 1) := by decide +kernel
theorem dL_law_718 : decode cL_law 718 = .ok (.i2l, 1) := by decide +kernel
theorem dL_law_719 : decode cL_law 719 = .ok (.ldc2_w 89, 3) := by decide +kernel
theorem dL_law_722 : decode cL_law 722 = .ok (.land, 1) := by decide +kernel
theorem dL_law_723 : decode cL_law 723 = .ok (.lor, 1) := by decide +kernel
theorem dL_law_724 : decode cL_law 724 = .ok (.invokevirtual 91, 3) := by decide +kernel
theorem dL_law_727 : decode cL_law 727 = .ok (.aload_n 2, 1) := by decide +kernel
theorem dL_law_728 : decode cL_law 728 = .ok (.aload_n 0, 1) := by decide +kernel
theorem dL_law_729 : decode cL_law 729 = .ok (.iload_n 3, 1) := by decide +kernel
theorem dL_law_730 : decode cL_law 730 = .ok (.iconst 1, 1) := by decide +kernel
theorem dL_law_731 : decode cL_law 731 = .ok (.iadd, 1) := by decide +kernel
theorem dL_law_732 : decode cL_law 732 = .ok (.iaload, 1) := by decide +kernel
theorem dL_law_733 : decode cL_law 733 = .ok (.i2l, 1) := by decide +kernel
theorem dL_law_734 : decode cL_law 734 = .ok (.bipush 32, 2) := by decide +kernel
theorem dL_law_736 : decode cL_law 736 = .ok (.lshl, 1) := by decide +kernel
theorem dL_law_737 : decode cL_law 737 = .ok (.aload_n 0, 1) := by decide +kernel
theorem dL_law_738 : decode cL_law 738 = .ok (.iload_n 3, 1) := by decide +kernel
theorem dL_law_739 : decode cL_law 739 = .ok (.iconst 2, 1) := by decide +kernel
theorem dL_law_740 : decode cL_law 740 = .ok (.iadd, 1) := by decide +kernel
theorem dL_law_741 : decode cL_law 741 = .ok (.iaload, 1) := by decide +kernel
theorem dL_law_742 : decode cL_law 742 = .ok (.i2l, 1) := by decide +kernel
theorem dL_law_743 : decode cL_law 743 = .ok (.ldc2_w 89, 3) := by decide +kernel
theorem dL_law_746 : decode cL_law 746 = .ok (.land, 1) := by decide +kernel
theorem dL_law_747 : decode cL_law 747 = .ok (.lor, 1) := by decide +kernel
theorem dL_law_748 : decode cL_law 748 = .ok (.invokevirtual 95, 3) := by decide +kernel
theorem dL_law_751 : decode cL_law 751 = .ok (.if_icmp .eq 103, 3) := by decide +kernel
theorem dL_law_754 : decode cL_law 754 = .ok (.iconst 0, 1) := by decide +kernel
theorem dL_law_755 : decode cL_law 755 = .ok (.ireturn, 1) := by decide +kernel
theorem dL_law_756 : decode cL_law 756 = .ok (.aload_n 1, 1) := by decide +kernel
theorem dL_law_757 : decode cL_law 757 = .ok (.invokevirtual 96, 3) := by decide +kernel
theorem dL_law_760 : decode cL_law 760 = .ok (.aload_n 2, 1) := by decide +kernel
theorem dL_law_761 : decode cL_law 761 = .ok (.invokevirtual 100, 3) := by decide +kernel
theorem dL_law_764 : decode cL_law 764 = .ok (.if_icmp .eq 90, 3) := by decide +kernel
theorem dL_law_767 : decode cL_law 767 = .ok (.iconst 0, 1) := by decide +kernel
theorem dL_law_768 : decode cL_law 768 = .ok (.ireturn, 1) := by decide +kernel
theorem dL_law_769 : decode cL_law 769 = .ok (.aload_n 1, 1) := by decide +kernel
theorem dL_law_770 : decode cL_law 770 = .ok (.invokevirtual 101, 3) := by decide +kernel
theorem dL_law_773 : decode cL_law 773 = .ok (.aload_n 2, 1) := by decide +kernel
theorem dL_law_774 : decode cL_law 774 = .ok (.invokevirtual 104, 3) := by decide +kernel
theorem dL_law_777 : decode cL_law 777 = .ok (.if_icmp .eq 77, 3) := by decide +kernel
theorem dL_law_780 : decode cL_law 780 = .ok (.iconst 0, 1) := by decide +kernel
theorem dL_law_781 : decode cL_law 781 = .ok (.ireturn, 1) := by decide +kernel
theorem dL_law_782 : decode cL_law 782 = .ok (.aload_n 1, 1) := by decide +kernel
theorem dL_law_783 : decode cL_law 783 = .ok (.invokevirtual 105, 3) := by decide +kernel
theorem dL_law_786 : decode cL_law 786 = .ok (.aload_n 2, 1) := by decide +kernel
theorem dL_law_787 : decode cL_law 787 = .ok (.invokevirtual 108, 3) := by decide +kernel
theorem dL_law_790 : decode cL_law 790 = .ok (.if_icmp .eq 64, 3) := by decide +kernel
theorem dL_law_793 : decode cL_law 793 = .ok (.iconst 0, 1) := by decide +kernel
theorem dL_law_794 : decode cL_law 794 = .ok (.ireturn, 1) := by decide +kernel
theorem dL_law_795 : decode cL_law 795 = .ok (.aload_n 1, 1) := by decide +kernel
theorem dL_law_796 : decode cL_law 796 = .ok (.invokevirtual 109, 3) := by decide +kernel
theorem dL_law_799 : decode cL_law 799 = .ok (.aload_n 2, 1) := by decide +kernel
theorem dL_law_800 : decode cL_law 800 = .ok (.invokevirtual 112, 3) := by decide +kernel
theorem dL_law_803 : decode cL_law 803 = .ok (.if_icmp .eq 51, 3) := by decide +kernel
theorem dL_law_806 : decode cL_law 806 = .ok (.iconst 0, 1) := by decide +kernel
theorem dL_law_807 : decode cL_law 807 = .ok (.ireturn, 1) := by decide +kernel
theorem dL_law_808 : decode cL_law 808 = .ok (.aload_n 1, 1) := by decide +kernel
theorem dL_law_809 : decode cL_law 809 = .ok (.aload_n 0, 1) := by decide +kernel
theorem dL_law_810 : decode cL_law 810 = .ok (.iload_n 3, 1) := by decide +kernel
theorem dL_law_811 : decode cL_law 811 = .ok (.iconst 1, 1) := by decide +kernel
theorem dL_law_812 : decode cL_law 812 = .ok (.iadd, 1) := by decide +kernel
theorem dL_law_813 : decode cL_law 813 = .ok (.iaload, 1) := by decide +kernel
theorem dL_law_814 : decode cL_law 814 = .ok (.invokevirtual 113, 3) := by decide +kernel
theorem dL_law_817 : decode cL_law 817 = .ok (.aload_n 2, 1) := by decide +kernel
theorem dL_law_818 : decode cL_law 818 = .ok (.aload_n 0, 1) := by decide +kernel
theorem dL_law_819 : decode cL_law 819 = .ok (.iload_n 3, 1) := by decide +kernel
theorem dL_law_820 : decode cL_law 820 = .ok (.iconst 1, 1) := by decide +kernel
theorem dL_law_821 : decode cL_law 821 = .ok (.iadd, 1) := by decide +kernel
theorem dL_law_822 : decode cL_law 822 = .ok (.iaload, 1) := by decide +kernel
theorem dL_law_823 : decode cL_law 823 = .ok (.invokevirtual 116, 3) := by decide +kernel
theorem dL_law_826 : decode cL_law 826 = .ok (.if_icmp .eq 28, 3) := by decide +kernel
theorem dL_law_829 : decode cL_law 829 = .ok (.iconst 0, 1) := by decide +kernel
theorem dL_law_830 : decode cL_law 830 = .ok (.ireturn, 1) := by decide +kernel
theorem dL_law_831 : decode cL_law 831 = .ok (.aload_n 1, 1) := by decide +kernel
theorem dL_law_832 : decode cL_law 832 = .ok (.aload_n 0, 1) := by decide +kernel
theorem dL_law_833 : decode cL_law 833 = .ok (.iload_n 3, 1) := by decide +kernel
theorem dL_law_834 : decode cL_law 834 = .ok (.iconst 1, 1) := by decide +kernel
theorem dL_law_835 : decode cL_law 835 = .ok (.iadd, 1) := by decide +kernel
theorem dL_law_836 : decode cL_law 836 = .ok (.iaload, 1) := by decide +kernel
theorem dL_law_837 : decode cL_law 837 = .ok (.invokevirtual 117, 3) := by decide +kernel
theorem dL_law_840 : decode cL_law 840 = .ok (.aload_n 2, 1) := by decide +kernel
theorem dL_law_841 : decode cL_law 841 = .ok (.aload_n 0, 1) := by decide +kernel
theorem dL_law_842 : decode cL_law 842 = .ok (.iload_n 3, 1) := by decide +kernel
theorem dL_law_843 : decode cL_law 843 = .ok (.iconst 1, 1) := by decide +kernel
theorem dL_law_844 : decode cL_law 844 = .ok (.iadd, 1) := by decide +kernel
theorem dL_law_845 : decode cL_law 845 = .ok (.iaload, 1) := by decide +kernel
theorem dL_law_846 : decode cL_law 846 = .ok (.invokevirtual 120, 3) := by decide +kernel
theorem dL_law_849 : decode cL_law 849 = .ok (.if_icmp .eq 5, 3) := by decide +kernel
theorem dL_law_852 : decode cL_law 852 = .ok (.iconst 0, 1) := by decide +kernel
theorem dL_law_853 : decode cL_law 853 = .ok (.ireturn, 1) := by decide +kernel
theorem dL_law_854 : decode cL_law 854 = .ok (.iinc 3 4, 3) := by decide +kernel
theorem dL_law_857 : decode cL_law 857 = .ok (.goto (-839), 3) := by decide +kernel
theorem dL_law_860 : decode cL_law 860 = .ok (.iconst 1, 1) := by decide +kernel
theorem dL_law_861 : decode cL_law 861 = .ok (.ireturn, 1) := by decide +kernel
abbrev vwCl : List vw_C := [(RX0, TX0, 3), (RX1, TX1, 7), (RX2, TX2, 5), (RX3, TX3, 2), (RX4, TX4, 6), (RX5, TX5, 13)]
end
section
/-! the judgement over a store: every cell of the class and of the reference by its number; what a cell holds is the store's row of that number -/
abbrev js_G : Type := Nat → Nat → Int32
abbrev js_L : Type := Nat × (Nat → Nat) × va_G × (ClassId × ClassId × ClassId × ClassId × ClassId)
def js_ad (y : js_L) (k : Nat) : Nat := y.2.1 k
def js_kS (j : Nat) : Nat := 3 * j
def js_kR (j : Nat) : Nat := 3 * j + 1
def js_kT (j : Nat) : Nat := 3 * j + 2
def js_kA (t : Nat) : Nat := 165 + 2 * t
def js_kB (t : Nat) : Nat := 166 + 2 * t
abbrev js_cI (y : js_L) : ClassId := y.2.2.2.1
abbrev js_cC (y : js_L) : ClassId := y.2.2.2.2.1
abbrev js_cZ (y : js_L) : ClassId := y.2.2.2.2.2.1
abbrev js_cK (y : js_L) : ClassId := y.2.2.2.2.2.2.1
abbrev js_cT (y : js_L) : ClassId := y.2.2.2.2.2.2.2
def js_q (f : Nat → Nat) (y : js_L) : (Nat → Int32) ⊕ (Nat → Int64) ⊕ (Nat → UInt32) ⊕ (Nat → UInt64) ⊕ (Nat → Option Nat) := .inr (.inr (.inr (.inr (fun i => some (js_ad y (f i))))))
def js_ct (y : js_L) (G : js_G) (k : Nat) : va_E :=
  if k < 165 then
    if k % 3 = 0 then .inr (2, [.int (G k 0), .ref (js_ad y (k + 1)), .ref (js_ad y (k + 2)), .int (G k 3), .int (G k 4)])
    else if k % 3 = 1 then .inl (js_cI y, 64, .inl (G k)) else .inl (js_cI y, 40, .inl (G k))
  else if k < 183 then
    if k % 2 = 1 then .inr (3, [.int (G k 0), .ref (js_ad y (k + 1))])
    else .inl (js_cK y, 6, js_q (fun i => js_kS (6 * ((k - 166) / 2) + i)) y)
  else if k = 183 then .inr (0, [.ref (js_ad y 184), .int (G k 1), .int (G k 2)])
  else if k = 184 then .inl (js_cT y, 6, js_q (fun i => js_kA (3 + i)) y)
  else if k = 185 then .inl (js_cT y, 2, js_q (fun i => js_kA (1 + i)) y)
  else if k = 186 then .inl (js_cZ y, 2, .inl (G k))
  else if k = 187 then .inr (1, [.ref (js_ad y 188), .int (G k 1), .int (G k 2), .int (G k 3), .int (G k 4), .ref (js_ad y 189), .int (G k 6)])
  else if k = 188 then .inl (js_cC y, 80, .inl (G k))
  else if k = 189 then .inl (js_cI y, 80, .inl (G k))
  else if k = 190 then .inr (4, [.ref (js_ad y (js_kA 0)), .ref (js_ad y 183), .ref (js_ad y 185), .ref (js_ad y 186), .ref (js_ad y 187), .ref (js_ad y (js_kS 54))])
  else if k = 191 then .inr (5, [.ref (js_ad y 192), .ref (js_ad y 193), .int (G k 2), .ref (js_ad y 194), .ref (js_ad y 195), .ref (js_ad y 196), .int (G k 6), .ref (js_ad y 197), .int (G k 8), .int (G k 9), .int (G k 10), .ref (js_ad y 198), .int (G k 12)])
  else if k = 192 then .inl (js_cI y, 637, .inl (G k))
  else if k = 193 then .inl (js_cI y, 3822, .inl (G k))
  else if k = 194 then .inl (js_cI y, 1274, .inl (G k))
  else if k = 195 then .inl (js_cI y, 2, .inl (G k))
  else if k = 196 then .inl (js_cI y, 80, .inl (G k))
  else if k = 197 then .inl (js_cI y, 64, .inl (G k))
  else .inl (js_cI y, 80, .inl (G k))
def js_up (G : js_G) (k : Nat) (f : Nat → Int32) : js_G := fun a => if a = k then f else G a
def js_st (G : js_G) (k i : Nat) (v : Int32) : js_G := js_up G k (upd (G k) i v)
def js_wl (y : js_L) (G : js_G) : va_W := (List.range 199).map (fun k => (js_ad y k, js_ct y G k))
def js_A (y : js_L) : Nat → Prop := fun q => y.1 ≤ q
def js_Dy (y : js_L) : Prop := (∀ i j, i < 199 → j < 199 → js_ad y i = js_ad y j → i = j) ∧ ∀ k, k < 199 → y.1 ≤ js_ad y k
def js_tys (y : js_L) : List (ClassId × FieldType) := [(js_cI y, .int), (js_cC y, .char), (js_cZ y, .boolean), (js_cK y, .object RX2), (js_cT y, .object RX3)]
theorem js_up_s {G : js_G} {k : Nat} {f : Nat → Int32} : js_up G k f k = f := by simp [js_up]
theorem js_up_n {G : js_G} {k a : Nat} {f : Nat → Int32} (h : a ≠ k) : js_up G k f a = G a := by simp [js_up, h]
theorem js_st_s {G : js_G} {k i : Nat} {v : Int32} : js_st G k i v k = upd (G k) i v := js_up_s
theorem js_st_n {G : js_G} {k a i : Nat} {v : Int32} (h : a ≠ k) : js_st G k i v a = G a := js_up_n h
theorem js_ct_S {y : js_L} {G : js_G} {j : Nat} (h : j < 55) : js_ct y G (js_kS j) = .inr (2, [.int (G (js_kS j) 0), .ref (js_ad y (js_kR j)), .ref (js_ad y (js_kT j)), .int (G (js_kS j) 3), .int (G (js_kS j) 4)]) := by
  unfold js_ct
  rw [if_pos (by unfold js_kS; omega), if_pos (by unfold js_kS; omega)]
  rfl
theorem js_ct_R {y : js_L} {G : js_G} {j : Nat} (h : j < 55) : js_ct y G (js_kR j) = .inl (js_cI y, 64, .inl (G (js_kR j))) := by
  unfold js_ct
  rw [if_pos (by unfold js_kR; omega), if_neg (by unfold js_kR; omega), if_pos (by unfold js_kR; omega)]
theorem js_ct_T {y : js_L} {G : js_G} {j : Nat} (h : j < 55) : js_ct y G (js_kT j) = .inl (js_cI y, 40, .inl (G (js_kT j))) := by
  unfold js_ct
  rw [if_pos (by unfold js_kT; omega), if_neg (by unfold js_kT; omega), if_neg (by unfold js_kT; omega)]
theorem js_ct_A {y : js_L} {G : js_G} {t : Nat} (h : t < 9) : js_ct y G (js_kA t) = .inr (3, [.int (G (js_kA t) 0), .ref (js_ad y (js_kB t))]) := by
  unfold js_ct
  rw [if_neg (by unfold js_kA; omega), if_pos (by unfold js_kA; omega), if_pos (by unfold js_kA; omega)]
  rw [show js_kA t + 1 = js_kB t by unfold js_kA js_kB; omega]
theorem js_ct_B {y : js_L} {G : js_G} {t : Nat} (h : t < 9) : js_ct y G (js_kB t) = .inl (js_cK y, 6, js_q (fun i => js_kS (6 * t + i)) y) := by
  unfold js_ct
  rw [if_neg (by unfold js_kB; omega), if_pos (by unfold js_kB; omega), if_neg (by unfold js_kB; omega)]
  rw [show (js_kB t - 166) / 2 = t by unfold js_kB; omega]
theorem js_ct_H {y : js_L} {G : js_G} : js_ct y G 183 = .inr (0, [.ref (js_ad y 184), .int (G 183 1), .int (G 183 2)]) := rfl
theorem js_ct_Ri {y : js_L} {G : js_G} : js_ct y G 184 = .inl (js_cT y, 6, js_q (fun i => js_kA (3 + i)) y) := rfl
theorem js_ct_Sl {y : js_L} {G : js_G} : js_ct y G 185 = .inl (js_cT y, 2, js_q (fun i => js_kA (1 + i)) y) := rfl
theorem js_ct_Sv {y : js_L} {G : js_G} : js_ct y G 186 = .inl (js_cZ y, 2, .inl (G 186)) := rfl
theorem js_ct_P {y : js_L} {G : js_G} : js_ct y G 187 = .inr (1, [.ref (js_ad y 188), .int (G 187 1), .int (G 187 2), .int (G 187 3), .int (G 187 4), .ref (js_ad y 189), .int (G 187 6)]) := rfl
theorem js_ct_Sg {y : js_L} {G : js_G} : js_ct y G 188 = .inl (js_cC y, 80, .inl (G 188)) := rfl
theorem js_ct_Nu {y : js_L} {G : js_G} : js_ct y G 189 = .inl (js_cI y, 80, .inl (G 189)) := rfl
theorem js_ct_X {y : js_L} {G : js_G} : js_ct y G 190 = .inr (4, [.ref (js_ad y (js_kA 0)), .ref (js_ad y 183), .ref (js_ad y 185), .ref (js_ad y 186), .ref (js_ad y 187), .ref (js_ad y (js_kS 54))]) := rfl
theorem js_ct_M {y : js_L} {G : js_G} : js_ct y G 191 = .inr (5, [.ref (js_ad y 192), .ref (js_ad y 193), .int (G 191 2), .ref (js_ad y 194), .ref (js_ad y 195), .ref (js_ad y 196), .int (G 191 6), .ref (js_ad y 197), .int (G 191 8), .int (G 191 9), .int (G 191 10), .ref (js_ad y 198), .int (G 191 12)]) := rfl
theorem js_ct_Ms {y : js_L} {G : js_G} : js_ct y G 192 = .inl (js_cI y, 637, .inl (G 192)) := rfl
theorem js_ct_Mh {y : js_L} {G : js_G} : js_ct y G 193 = .inl (js_cI y, 3822, .inl (G 193)) := rfl
theorem js_ct_Ml {y : js_L} {G : js_G} : js_ct y G 194 = .inl (js_cI y, 1274, .inl (G 194)) := rfl
theorem js_ct_Mi {y : js_L} {G : js_G} : js_ct y G 195 = .inl (js_cI y, 2, .inl (G 195)) := rfl
theorem js_ct_Mp {y : js_L} {G : js_G} : js_ct y G 196 = .inl (js_cI y, 80, .inl (G 196)) := rfl
theorem js_ct_Mr {y : js_L} {G : js_G} : js_ct y G 197 = .inl (js_cI y, 64, .inl (G 197)) := rfl
theorem js_ct_Mn {y : js_L} {G : js_G} : js_ct y G 198 = .inl (js_cI y, 80, .inl (G 198)) := rfl
theorem js_ct_c {y : js_L} {G G' : js_G} {k : Nat} (h : G' k = G k) : js_ct y G' k = js_ct y G k := by
  simp only [js_ct, h]
theorem js_wl_at {y : js_L} {G : js_G} {k : Nat} (h : k < 199) : (js_wl y G)[k]? = some (js_ad y k, js_ct y G k) := by
  simp [js_wl, h]
theorem js_wl_set {y : js_L} {G G' : js_G} {k : Nat} {e : va_E} (hk : k < 199) (he : js_ct y G' k = e) (ho : ∀ j, j ≠ k → G' j = G j) : (js_wl y G).set k (js_ad y k, e) = js_wl y G' := by
  apply List.ext_getElem?
  intro i
  by_cases hi : i = k
  · subst hi
    rw [List.getElem?_set_self (by simp [js_wl]; exact hk), js_wl_at hk, he]
  · rw [List.getElem?_set_ne (fun q => hi q.symm)]
    simp only [js_wl, List.getElem?_map]
    rcases Nat.lt_or_ge i 199 with q | q
    · simp [q, js_ct_c (y := y) (ho i hi)]
    · simp [q]
theorem js_D {y : js_L} {G : js_G} (h : js_Dy y) : va_D (js_A y) (js_wl y G) := by
  have key : ∀ (k : Nat) (q : Nat × va_E), (js_wl y G)[k]? = some q → k < 199 ∧ q.1 = js_ad y k := by
    intro k q hq
    rcases Nat.lt_or_ge k 199 with z | z
    · rw [js_wl_at z] at hq
      cases hq
      exact ⟨z, rfl⟩
    · simp [js_wl, z] at hq
  refine ⟨fun i j p q hi hj hpq => ?_, fun k q hk => ?_⟩
  · obtain ⟨a1, a2⟩ := key i p hi
    obtain ⟨b1, b2⟩ := key j q hj
    exact h.1 i j a1 b1 (by rw [← a2, ← b2, hpq])
  · obtain ⟨a1, a2⟩ := key k q hk
    show y.1 ≤ q.1
    rw [a2]
    exact h.2 k a1
abbrev js_PU (y : js_L) (G : js_G) (U : State) : Prop := va_P y.2.2.1 vwCl (js_wl y G) U.heap ∧ va_K y.2.2.1 vwCl (js_tys y) U
abbrev js_rm (f n : Nat) : Room := { frames := f, cells := 0, slots := 0, locals := n }
/-- a contract over the store: int or boolean answers, none, a long, a reference or null -/
def js_Ci (l : Launch) (y : js_L) (nm : MethodName) (ws : List Cond) (rf rl : Nat) (args : List Value) (G : js_G) (post : Int32 → js_G → Prop) : Prop :=
  Met l nm ws (js_rm rf rl) (va_Pc args (js_PU y G)) (va_Qi post (fun G' t => js_PU y G' t) (js_A y)) 0 0 (js_A y)
def js_Cv (l : Launch) (y : js_L) (nm : MethodName) (ws : List Cond) (rf rl : Nat) (args : List Value) (G : js_G) (post : js_G → Prop) : Prop :=
  Met l nm ws (js_rm rf rl) (va_Pc args (js_PU y G)) (va_Qv post (fun G' t => js_PU y G' t) (js_A y)) 0 0 (js_A y)
def js_Cl (l : Launch) (y : js_L) (nm : MethodName) (ws : List Cond) (rf rl : Nat) (args : List Value) (G : js_G) (post : Int64 → js_G → Prop) : Prop :=
  Met l nm ws (js_rm rf rl) (va_Pc args (js_PU y G)) (va_Ql post (fun G' t => js_PU y G' t) (js_A y)) 0 0 (js_A y)
def js_Cq (l : Launch) (y : js_L) (nm : MethodName) (ws : List Cond) (rf rl : Nat) (args : List Value) (G : js_G) (post : Option Nat → js_G → Prop) : Prop :=
  Met l nm ws (js_rm rf rl) (va_Pc args (js_PU y G)) (va_Qq post (fun G' t => js_PU y G' t) (js_A y)) 0 0 (js_A y)
abbrev js_X : Type := Program × Launch × Env × Room × State × MethodId × Array Value × List Frame × Method × Code × Nat × Nat
abbrev js_Xs (X : js_X) : State := X.2.2.2.2.1
abbrev js_Xm (X : js_X) : MethodId := X.2.2.2.2.2.1
abbrev js_Xa (X : js_X) : Array Value := X.2.2.2.2.2.2.1
abbrev js_Xb (X : js_X) : List Frame := X.2.2.2.2.2.2.2.1
abbrev js_Xt (X : js_X) : Method := X.2.2.2.2.2.2.2.2.1
abbrev js_Xc (X : js_X) : Code := X.2.2.2.2.2.2.2.2.2.1
abbrev js_Xn (X : js_X) : Nat := X.2.2.2.2.2.2.2.2.2.2.1
abbrev js_Xk (X : js_X) : Nat := X.2.2.2.2.2.2.2.2.2.2.2
/-- the machine at X, with the store G, at pc, with these locals and this stack, comes to Q -/
def js_W (X : js_X) (y : js_L) (nL : Nat) (Q : State → Prop) (G : js_G) (pc : Nat) (lv : List (Nat × Value)) (st : List Value) : Prop :=
  ∀ (H : Heap) (locs : List Loc) (ls : Array Slot), va_P y.2.2.1 vwCl (js_wl y G) H → va_S (js_A y) (js_Xs X).heap H locs → lv_has ls nL lv → W X.1 X.2.1 X.2.2.1 X.2.2.2.1 (js_Xs X) (js_Xm X) (js_Xa X) (js_Xb X) (js_Xt X) (js_Xc X) H locs (js_Xn X) (js_Xk X) Q (F0 (js_Xm X) pc ls st)
/-- what holds all along a method: the machine, its code, its words, its room -/
def js_F (X : js_X) (y : js_L) (cc : ByteArray) (nL : Nat) (own : String) (Ts : List Cond) (fr lo : Nat) : Prop :=
  CallFix X.1 (js_Xm X) (js_Xc X) cc nL (js_Xs X) (js_Xa X) Ts own ∧ (js_Xt X).locks = false ∧ va_K y.2.2.1 vwCl (js_tys y) (js_Xs X) ∧ js_Dy y ∧ (fr ≤ X.2.2.2.1.frames ∧ lo ≤ X.2.2.2.1.locals) ∧ (js_Xn X ≤ X.2.2.2.1.cells ∧ js_Xk X ≤ X.2.2.2.1.slots)
def js_Qi (X : js_X) (y : js_L) (post : Int32 → js_G → Prop) : State → Prop := MQ (js_Xb X) (va_Qi post (fun G' t => js_PU y G' t) (js_A y)) (js_Xa X) (js_Xs X) (js_Xn X) (js_Xk X) (js_A y)
def js_Qv (X : js_X) (y : js_L) (post : js_G → Prop) : State → Prop := MQ (js_Xb X) (va_Qv post (fun G' t => js_PU y G' t) (js_A y)) (js_Xa X) (js_Xs X) (js_Xn X) (js_Xk X) (js_A y)
def js_Ql (X : js_X) (y : js_L) (post : Int64 → js_G → Prop) : State → Prop := MQ (js_Xb X) (va_Ql post (fun G' t => js_PU y G' t) (js_A y)) (js_Xa X) (js_Xs X) (js_Xn X) (js_Xk X) (js_A y)
def js_Qq (X : js_X) (y : js_L) (post : Option Nat → js_G → Prop) : State → Prop := MQ (js_Xb X) (va_Qq post (fun G' t => js_PU y G' t) (js_A y)) (js_Xa X) (js_Xs X) (js_Xn X) (js_Xk X) (js_A y)
/-- what is said of a method once: its words begin with its code, its name is plain, how many arguments -/
def js_M (nm : MethodName) (bytes : ByteArray) (maxL : Nat) (ret : Option FieldType) (ws : List Cond) (n : Nat) : Prop :=
  (∃ ws', ws = Cond.code nm bytes maxL ret :: ws') ∧ plainName nm.cls = true ∧ nm.cls ≠ "java/lang/invoke/MethodHandle" ∧ nm.cls ≠ "java/lang/invoke/VarHandle" ∧ (parseMethodDescriptor nm.desc).map (fun d => d.parameters.length) = some n
theorem js_body {l : Launch} {y : js_L} {nm : MethodName} {bytes : ByteArray} {maxL n rf rl : Nat} {ret : Option FieldType} {ws : List Cond} {args : List Value} {G : js_G} {Qc : Array Value → State → Outcome → State → Prop} (mf : js_M nm bytes maxL ret ws n) (hsz : (lg_sl args).length ≤ maxL) (hy : js_Dy y)
    (body : ∀ X : js_X, js_F X y bytes maxL nm.cls ws rf rl → (js_Xt X).sig.returnType = ret → js_W X y maxL (MQ (js_Xb X) Qc (js_Xa X) (js_Xs X) (js_Xn X) (js_Xk X) (js_A y)) G 0 (lv_args 0 args) []) :
    Met l nm ws (js_rm rf rl) (va_Pc args (js_PU y G)) Qc 0 0 (js_A y) := by
  obtain ⟨⟨ws', hw⟩, hpl, -, -, -⟩ := mf
  refine Met.ofW (cc := bytes) (maxL := maxL) (ret := ret) hpl hw ?_
  intro p e s m as below meth c s₁ B hml hv
  obtain ⟨rfl, hP, hK⟩ := hv
  have hts := atoms_spec (ws := ws) B.pre
  have hown : s.vm.findClass nm.cls = some m.cls := findClass_of_methodNamed B.named
  have hl := lv_entry args (n := maxL) hsz
  rw [lg_entry_eq]
  exact body (p, l, e, (headSpec ws (js_rm rf rl)).room, s, m, args.toArray, below, meth, c, 0, 0) ⟨⟨B.exec, B.bytes, hml, hown, hts⟩, B.notSynchronized, hK, hy, ⟨Nat.le_refl _, Nat.le_refl _⟩, ⟨Nat.le_refl _, Nat.le_refl _⟩⟩ B.returns s.heap [] _ hP va_S.rf hl
theorem js_ofi {l : Launch} {y : js_L} {nm : MethodName} {bytes : ByteArray} {maxL n rf rl : Nat} {ret : Option FieldType} {ws : List Cond} {args : List Value} {G : js_G} {post : Int32 → js_G → Prop} (mf : js_M nm bytes maxL ret ws n) (hsz : (lg_sl args).length ≤ maxL) (hy : js_Dy y)
    (body : ∀ X : js_X, js_F X y bytes maxL nm.cls ws rf rl → (js_Xt X).sig.returnType = ret → js_W X y maxL (js_Qi X y post) G 0 (lv_args 0 args) []) : js_Ci l y nm ws rf rl args G post := js_body mf hsz hy body
theorem js_ofv {l : Launch} {y : js_L} {nm : MethodName} {bytes : ByteArray} {maxL n rf rl : Nat} {ret : Option FieldType} {ws : List Cond} {args : List Value} {G : js_G} {post : js_G → Prop} (mf : js_M nm bytes maxL ret ws n) (hsz : (lg_sl args).length ≤ maxL) (hy : js_Dy y)
    (body : ∀ X : js_X, js_F X y bytes maxL nm.cls ws rf rl → (js_Xt X).sig.returnType = ret → js_W X y maxL (js_Qv X y post) G 0 (lv_args 0 args) []) : js_Cv l y nm ws rf rl args G post := js_body mf hsz hy body
theorem js_ofl {l : Launch} {y : js_L} {nm : MethodName} {bytes : ByteArray} {maxL n rf rl : Nat} {ret : Option FieldType} {ws : List Cond} {args : List Value} {G : js_G} {post : Int64 → js_G → Prop} (mf : js_M nm bytes maxL ret ws n) (hsz : (lg_sl args).length ≤ maxL) (hy : js_Dy y)
    (body : ∀ X : js_X, js_F X y bytes maxL nm.cls ws rf rl → (js_Xt X).sig.returnType = ret → js_W X y maxL (js_Ql X y post) G 0 (lv_args 0 args) []) : js_Cl l y nm ws rf rl args G post := js_body mf hsz hy body
theorem js_ofq {l : Launch} {y : js_L} {nm : MethodName} {bytes : ByteArray} {maxL n rf rl : Nat} {ret : Option FieldType} {ws : List Cond} {args : List Value} {G : js_G} {post : Option Nat → js_G → Prop} (mf : js_M nm bytes maxL ret ws n) (hsz : (lg_sl args).length ≤ maxL) (hy : js_Dy y)
    (body : ∀ X : js_X, js_F X y bytes maxL nm.cls ws rf rl → (js_Xt X).sig.returnType = ret → js_W X y maxL (js_Qq X y post) G 0 (lv_args 0 args) []) : js_Cq l y nm ws rf rl args G post := js_body mf hsz hy body
theorem js_Ci.mono {l : Launch} {y : js_L} {nm : MethodName} {ws : List Cond} {rf rl : Nat} {args : List Value} {G : js_G} {post post' : Int32 → js_G → Prop} (h : js_Ci l y nm ws rf rl args G post) (hp : ∀ r G', post r G' → post' r G') : js_Ci l y nm ws rf rl args G post' := by
  intro p e ha hc hk s m as below hf happ hPc hT
  obtain ⟨k, o, h1, h2, h3, ⟨⟨r, u, e1, e2, e3⟩, hF⟩, hL⟩ := h p e ha hc hk s m as below hf happ hPc hT
  exact ⟨k, o, h1, h2, h3, ⟨⟨r, u, e1, hp r u e2, e3⟩, hF⟩, hL⟩
end
