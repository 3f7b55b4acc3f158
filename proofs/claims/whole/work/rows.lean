section
-- ===== PART A: goes FIRST, ahead of the names: the tables' words, and 'selects' of the private methods out of them =====
/-- a private method of a class that the tables say can be made, by its rows of tables_1 -/
def lw_okq (q : MethodName × Nat) : Prop := (q.1.cls ≠ "java/lang/invoke/MethodHandle" ∧ q.1.cls ≠ "java/lang/invoke/VarHandle") ∧ Cond.instantiable q.1.cls q.2 ∈ tables_1 ∧ Cond.privateMethod q.1 ∈ tables_1 ∧ Cond.instanceMethod q.1 ∈ tables_1
theorem lw_p0 : lw_okq (⟨"PolicyWorks", "forget", "()V"⟩, 14) := ⟨⟨by decide +kernel, by decide +kernel⟩, List.mem_of_getElem? (i := 17) (by decide +kernel), List.mem_of_getElem? (i := 295) (by decide +kernel), List.mem_of_getElem? (i := 296) (by decide +kernel)⟩
theorem lw_p1 : lw_okq (⟨"PolicyWorks$Equations", "writeRow", "(LPolicyWorks$Model;ILPolicyWorks$Action;)V"⟩, 2) := ⟨⟨by decide +kernel, by decide +kernel⟩, List.mem_of_getElem? (i := 97) (by decide +kernel), List.mem_of_getElem? (i := 349) (by decide +kernel), List.mem_of_getElem? (i := 350) (by decide +kernel)⟩
theorem lw_p2 : lw_okq (⟨"PolicyWorks$Whole", "turnNegative", "()V"⟩, 3) := ⟨⟨by decide +kernel, by decide +kernel⟩, List.mem_of_getElem? (i := 106) (by decide +kernel), List.mem_of_getElem? (i := 372) (by decide +kernel), List.mem_of_getElem? (i := 373) (by decide +kernel)⟩
theorem lw_p3 : lw_okq (⟨"PolicyWorks$Whole", "measure", "()V"⟩, 3) := ⟨⟨by decide +kernel, by decide +kernel⟩, List.mem_of_getElem? (i := 106) (by decide +kernel), List.mem_of_getElem? (i := 377) (by decide +kernel), List.mem_of_getElem? (i := 378) (by decide +kernel)⟩
theorem lw_p4 : lw_okq (⟨"PolicyWorks$Equations", "expand", "(II)V"⟩, 2) := ⟨⟨by decide +kernel, by decide +kernel⟩, List.mem_of_getElem? (i := 97) (by decide +kernel), List.mem_of_getElem? (i := 381) (by decide +kernel), List.mem_of_getElem? (i := 382) (by decide +kernel)⟩
theorem lw_p5 : lw_okq (⟨"PolicyWorks", "improve", "()Z"⟩, 14) := ⟨⟨by decide +kernel, by decide +kernel⟩, List.mem_of_getElem? (i := 17) (by decide +kernel), List.mem_of_getElem? (i := 412) (by decide +kernel), List.mem_of_getElem? (i := 413) (by decide +kernel)⟩
theorem lw_p6 : lw_okq (⟨"PolicyWorks$Chooser", "rivalIsMore", "()Z"⟩, 3) := ⟨⟨by decide +kernel, by decide +kernel⟩, List.mem_of_getElem? (i := 133) (by decide +kernel), List.mem_of_getElem? (i := 428) (by decide +kernel), List.mem_of_getElem? (i := 429) (by decide +kernel)⟩
theorem lw_p7 : lw_okq (⟨"PolicyWorks", "hold", "(LPolicyWorks$Row;I)V"⟩, 14) := ⟨⟨by decide +kernel, by decide +kernel⟩, List.mem_of_getElem? (i := 17) (by decide +kernel), List.mem_of_getElem? (i := 448) (by decide +kernel), List.mem_of_getElem? (i := 449) (by decide +kernel)⟩
theorem lw_p8 : lw_okq (⟨"PolicyWorks$Fraction", "reduce", "()V"⟩, 5) := ⟨⟨by decide +kernel, by decide +kernel⟩, List.mem_of_getElem? (i := 219) (by decide +kernel), List.mem_of_getElem? (i := 457) (by decide +kernel), List.mem_of_getElem? (i := 458) (by decide +kernel)⟩
theorem lw_p9 : lw_okq (⟨"PolicyWorks$Fraction", "commonDivisor", "()LPolicyWorks$Whole;"⟩, 5) := ⟨⟨by decide +kernel, by decide +kernel⟩, List.mem_of_getElem? (i := 219) (by decide +kernel), List.mem_of_getElem? (i := 465) (by decide +kernel), List.mem_of_getElem? (i := 466) (by decide +kernel)⟩
theorem lw_p10 : lw_okq (⟨"PolicyWorks$Whole", "reaches", "(LPolicyWorks$Whole;I)Z"⟩, 3) := ⟨⟨by decide +kernel, by decide +kernel⟩, List.mem_of_getElem? (i := 106) (by decide +kernel), List.mem_of_getElem? (i := 474) (by decide +kernel), List.mem_of_getElem? (i := 475) (by decide +kernel)⟩
theorem lw_p11 : lw_okq (⟨"PolicyWorks$Whole", "guess", "(LPolicyWorks$Whole;I)J"⟩, 3) := ⟨⟨by decide +kernel, by decide +kernel⟩, List.mem_of_getElem? (i := 106) (by decide +kernel), List.mem_of_getElem? (i := 478) (by decide +kernel), List.mem_of_getElem? (i := 479) (by decide +kernel)⟩
theorem lw_p12 : lw_okq (⟨"PolicyWorks$Whole", "limbAt", "(I)J"⟩, 3) := ⟨⟨by decide +kernel, by decide +kernel⟩, List.mem_of_getElem? (i := 106) (by decide +kernel), List.mem_of_getElem? (i := 482) (by decide +kernel), List.mem_of_getElem? (i := 483) (by decide +kernel)⟩
theorem lw_p13 : lw_okq (⟨"PolicyWorks$Whole", "takeAway", "(LPolicyWorks$Whole;IJ)V"⟩, 3) := ⟨⟨by decide +kernel, by decide +kernel⟩, List.mem_of_getElem? (i := 106) (by decide +kernel), List.mem_of_getElem? (i := 489) (by decide +kernel), List.mem_of_getElem? (i := 490) (by decide +kernel)⟩
theorem lw_p14 : lw_okq (⟨"PolicyWorks", "findWorth", "(I)LPolicyWorks$Row;"⟩, 14) := ⟨⟨by decide +kernel, by decide +kernel⟩, List.mem_of_getElem? (i := 17) (by decide +kernel), List.mem_of_getElem? (i := 507) (by decide +kernel), List.mem_of_getElem? (i := 508) (by decide +kernel)⟩
theorem lw_p15 : lw_okq (⟨"PolicyWorks$Ladder", "begin", "(LPolicyWorks$Model;)V"⟩, 3) := ⟨⟨by decide +kernel, by decide +kernel⟩, List.mem_of_getElem? (i := 173) (by decide +kernel), List.mem_of_getElem? (i := 520) (by decide +kernel), List.mem_of_getElem? (i := 521) (by decide +kernel)⟩
def lw_privs_1 : List (MethodName × Nat) := [(⟨"PolicyWorks", "forget", "()V"⟩, 14), (⟨"PolicyWorks$Equations", "writeRow", "(LPolicyWorks$Model;ILPolicyWorks$Action;)V"⟩, 2), (⟨"PolicyWorks$Whole", "turnNegative", "()V"⟩, 3), (⟨"PolicyWorks$Whole", "measure", "()V"⟩, 3), (⟨"PolicyWorks$Equations", "expand", "(II)V"⟩, 2), (⟨"PolicyWorks", "improve", "()Z"⟩, 14), (⟨"PolicyWorks$Chooser", "rivalIsMore", "()Z"⟩, 3), (⟨"PolicyWorks", "hold", "(LPolicyWorks$Row;I)V"⟩, 14), (⟨"PolicyWorks$Fraction", "reduce", "()V"⟩, 5), (⟨"PolicyWorks$Fraction", "commonDivisor", "()LPolicyWorks$Whole;"⟩, 5), (⟨"PolicyWorks$Whole", "reaches", "(LPolicyWorks$Whole;I)Z"⟩, 3), (⟨"PolicyWorks$Whole", "guess", "(LPolicyWorks$Whole;I)J"⟩, 3), (⟨"PolicyWorks$Whole", "limbAt", "(I)J"⟩, 3), (⟨"PolicyWorks$Whole", "takeAway", "(LPolicyWorks$Whole;IJ)V"⟩, 3), (⟨"PolicyWorks", "findWorth", "(I)LPolicyWorks$Row;"⟩, 14), (⟨"PolicyWorks$Ladder", "begin", "(LPolicyWorks$Model;)V"⟩, 3)]
theorem lw_r1 : ∀ q ∈ lw_privs_1, lw_okq q := List.forall_mem_cons.mpr ⟨lw_p0, List.forall_mem_cons.mpr ⟨lw_p1, List.forall_mem_cons.mpr ⟨lw_p2, List.forall_mem_cons.mpr ⟨lw_p3, List.forall_mem_cons.mpr ⟨lw_p4, List.forall_mem_cons.mpr ⟨lw_p5, List.forall_mem_cons.mpr ⟨lw_p6, List.forall_mem_cons.mpr ⟨lw_p7, List.forall_mem_cons.mpr ⟨lw_p8, List.forall_mem_cons.mpr ⟨lw_p9, List.forall_mem_cons.mpr ⟨lw_p10, List.forall_mem_cons.mpr ⟨lw_p11, List.forall_mem_cons.mpr ⟨lw_p12, List.forall_mem_cons.mpr ⟨lw_p13, List.forall_mem_cons.mpr ⟨lw_p14, List.forall_mem_cons.mpr ⟨lw_p15, fun _ h => absurd h List.not_mem_nil⟩⟩⟩⟩⟩⟩⟩⟩⟩⟩⟩⟩⟩⟩⟩⟩
theorem lw_p16 : lw_okq (⟨"PolicyWorks$Ladder", "step", "(LPolicyWorks$Model;LPolicyWorks$Chooser;I)V"⟩, 3) := ⟨⟨by decide +kernel, by decide +kernel⟩, List.mem_of_getElem? (i := 173) (by decide +kernel), List.mem_of_getElem? (i := 536) (by decide +kernel), List.mem_of_getElem? (i := 537) (by decide +kernel)⟩
theorem lw_p17 : lw_okq (⟨"PolicyWorks", "findBound", "(I)V"⟩, 14) := ⟨⟨by decide +kernel, by decide +kernel⟩, List.mem_of_getElem? (i := 17) (by decide +kernel), List.mem_of_getElem? (i := 557) (by decide +kernel), List.mem_of_getElem? (i := 558) (by decide +kernel)⟩
theorem lw_p18 : lw_okq (⟨"PolicyWorks", "valuesAreGreatestGains", "()Z"⟩, 14) := ⟨⟨by decide +kernel, by decide +kernel⟩, List.mem_of_getElem? (i := 17) (by decide +kernel), List.mem_of_getElem? (i := 572) (by decide +kernel), List.mem_of_getElem? (i := 573) (by decide +kernel)⟩
theorem lw_p19 : lw_okq (⟨"PolicyWorks", "noWorthIsMore", "()Z"⟩, 14) := ⟨⟨by decide +kernel, by decide +kernel⟩, List.mem_of_getElem? (i := 17) (by decide +kernel), List.mem_of_getElem? (i := 576) (by decide +kernel), List.mem_of_getElem? (i := 577) (by decide +kernel)⟩
theorem lw_p20 : lw_okq (⟨"PolicyWorks", "stepsKeepBounds", "()Z"⟩, 14) := ⟨⟨by decide +kernel, by decide +kernel⟩, List.mem_of_getElem? (i := 17) (by decide +kernel), List.mem_of_getElem? (i := 584) (by decide +kernel), List.mem_of_getElem? (i := 585) (by decide +kernel)⟩
theorem lw_p21 : lw_okq (⟨"PolicyWorks", "isFartherThanTold", "(LPolicyWorks$Row;I)Z"⟩, 14) := ⟨⟨by decide +kernel, by decide +kernel⟩, List.mem_of_getElem? (i := 17) (by decide +kernel), List.mem_of_getElem? (i := 588) (by decide +kernel), List.mem_of_getElem? (i := 589) (by decide +kernel)⟩
theorem lw_p22 : lw_okq (⟨"PolicyWorksModel", "change", "()V"⟩, 20) := ⟨⟨by decide +kernel, by decide +kernel⟩, List.mem_of_getElem? (i := 599) (by decide +kernel), List.mem_of_getElem? (i := 670) (by decide +kernel), List.mem_of_getElem? (i := 671) (by decide +kernel)⟩
theorem lw_p23 : lw_okq (⟨"PolicyWorksModel", "isState", "(I)Z"⟩, 20) := ⟨⟨by decide +kernel, by decide +kernel⟩, List.mem_of_getElem? (i := 599) (by decide +kernel), List.mem_of_getElem? (i := 678) (by decide +kernel), List.mem_of_getElem? (i := 679) (by decide +kernel)⟩
theorem lw_p24 : lw_okq (⟨"PolicyWorksModel", "isAction", "(II)Z"⟩, 20) := ⟨⟨by decide +kernel, by decide +kernel⟩, List.mem_of_getElem? (i := 599) (by decide +kernel), List.mem_of_getElem? (i := 686) (by decide +kernel), List.mem_of_getElem? (i := 687) (by decide +kernel)⟩
theorem lw_p25 : lw_okq (⟨"PolicyWorksModel", "isReady", "()Z"⟩, 20) := ⟨⟨by decide +kernel, by decide +kernel⟩, List.mem_of_getElem? (i := 599) (by decide +kernel), List.mem_of_getElem? (i := 708) (by decide +kernel), List.mem_of_getElem? (i := 709) (by decide +kernel)⟩
theorem lw_p26 : lw_okq (⟨"PolicyWorksModel", "readyCount", "()I"⟩, 20) := ⟨⟨by decide +kernel, by decide +kernel⟩, List.mem_of_getElem? (i := 599) (by decide +kernel), List.mem_of_getElem? (i := 712) (by decide +kernel), List.mem_of_getElem? (i := 713) (by decide +kernel)⟩
theorem lw_p27 : lw_okq (⟨"PolicyWorksModel", "sumOf", "(I)I"⟩, 20) := ⟨⟨by decide +kernel, by decide +kernel⟩, List.mem_of_getElem? (i := 599) (by decide +kernel), List.mem_of_getElem? (i := 716) (by decide +kernel), List.mem_of_getElem? (i := 717) (by decide +kernel)⟩
theorem lw_p28 : lw_okq (⟨"PolicyWorksModel", "allActions", "()I"⟩, 20) := ⟨⟨by decide +kernel, by decide +kernel⟩, List.mem_of_getElem? (i := 599) (by decide +kernel), List.mem_of_getElem? (i := 720) (by decide +kernel), List.mem_of_getElem? (i := 721) (by decide +kernel)⟩
theorem lw_p29 : lw_okq (⟨"PolicyWorksModel", "valuePolicy", "()V"⟩, 20) := ⟨⟨by decide +kernel, by decide +kernel⟩, List.mem_of_getElem? (i := 599) (by decide +kernel), List.mem_of_getElem? (i := 724) (by decide +kernel), List.mem_of_getElem? (i := 725) (by decide +kernel)⟩
theorem lw_p30 : lw_okq (⟨"PolicyWorksModel", "setSmall", "(IJ)V"⟩, 20) := ⟨⟨by decide +kernel, by decide +kernel⟩, List.mem_of_getElem? (i := 599) (by decide +kernel), List.mem_of_getElem? (i := 731) (by decide +kernel), List.mem_of_getElem? (i := 732) (by decide +kernel)⟩
theorem lw_p31 : lw_okq (⟨"PolicyWorksModel", "times", "(II)V"⟩, 20) := ⟨⟨by decide +kernel, by decide +kernel⟩, List.mem_of_getElem? (i := 599) (by decide +kernel), List.mem_of_getElem? (i := 736) (by decide +kernel), List.mem_of_getElem? (i := 737) (by decide +kernel)⟩
def lw_privs_2 : List (MethodName × Nat) := [(⟨"PolicyWorks$Ladder", "step", "(LPolicyWorks$Model;LPolicyWorks$Chooser;I)V"⟩, 3), (⟨"PolicyWorks", "findBound", "(I)V"⟩, 14), (⟨"PolicyWorks", "valuesAreGreatestGains", "()Z"⟩, 14), (⟨"PolicyWorks", "noWorthIsMore", "()Z"⟩, 14), (⟨"PolicyWorks", "stepsKeepBounds", "()Z"⟩, 14), (⟨"PolicyWorks", "isFartherThanTold", "(LPolicyWorks$Row;I)Z"⟩, 14), (⟨"PolicyWorksModel", "change", "()V"⟩, 20), (⟨"PolicyWorksModel", "isState", "(I)Z"⟩, 20), (⟨"PolicyWorksModel", "isAction", "(II)Z"⟩, 20), (⟨"PolicyWorksModel", "isReady", "()Z"⟩, 20), (⟨"PolicyWorksModel", "readyCount", "()I"⟩, 20), (⟨"PolicyWorksModel", "sumOf", "(I)I"⟩, 20), (⟨"PolicyWorksModel", "allActions", "()I"⟩, 20), (⟨"PolicyWorksModel", "valuePolicy", "()V"⟩, 20), (⟨"PolicyWorksModel", "setSmall", "(IJ)V"⟩, 20), (⟨"PolicyWorksModel", "times", "(II)V"⟩, 20)]
theorem lw_r2 : ∀ q ∈ lw_privs_2, lw_okq q := List.forall_mem_cons.mpr ⟨lw_p16, List.forall_mem_cons.mpr ⟨lw_p17, List.forall_mem_cons.mpr ⟨lw_p18, List.forall_mem_cons.mpr ⟨lw_p19, List.forall_mem_cons.mpr ⟨lw_p20, List.forall_mem_cons.mpr ⟨lw_p21, List.forall_mem_cons.mpr ⟨lw_p22, List.forall_mem_cons.mpr ⟨lw_p23, List.forall_mem_cons.mpr ⟨lw_p24, List.forall_mem_cons.mpr ⟨lw_p25, List.forall_mem_cons.mpr ⟨lw_p26, List.forall_mem_cons.mpr ⟨lw_p27, List.forall_mem_cons.mpr ⟨lw_p28, List.forall_mem_cons.mpr ⟨lw_p29, List.forall_mem_cons.mpr ⟨lw_p30, List.forall_mem_cons.mpr ⟨lw_p31, fun _ h => absurd h List.not_mem_nil⟩⟩⟩⟩⟩⟩⟩⟩⟩⟩⟩⟩⟩⟩⟩⟩
theorem lw_p32 : lw_okq (⟨"PolicyWorksModel", "trim", "(II)V"⟩, 20) := ⟨⟨by decide +kernel, by decide +kernel⟩, List.mem_of_getElem? (i := 599) (by decide +kernel), List.mem_of_getElem? (i := 740) (by decide +kernel), List.mem_of_getElem? (i := 741) (by decide +kernel)⟩
theorem lw_p33 : lw_okq (⟨"PolicyWorksModel", "putRight", "(III)V"⟩, 20) := ⟨⟨by decide +kernel, by decide +kernel⟩, List.mem_of_getElem? (i := 599) (by decide +kernel), List.mem_of_getElem? (i := 744) (by decide +kernel), List.mem_of_getElem? (i := 745) (by decide +kernel)⟩
theorem lw_p34 : lw_okq (⟨"PolicyWorksModel", "multiply", "(III)V"⟩, 20) := ⟨⟨by decide +kernel, by decide +kernel⟩, List.mem_of_getElem? (i := 599) (by decide +kernel), List.mem_of_getElem? (i := 748) (by decide +kernel), List.mem_of_getElem? (i := 749) (by decide +kernel)⟩
theorem lw_p35 : lw_okq (⟨"PolicyWorksModel", "plus", "(III)V"⟩, 20) := ⟨⟨by decide +kernel, by decide +kernel⟩, List.mem_of_getElem? (i := 599) (by decide +kernel), List.mem_of_getElem? (i := 752) (by decide +kernel), List.mem_of_getElem? (i := 753) (by decide +kernel)⟩
theorem lw_p36 : lw_okq (⟨"PolicyWorksModel", "limb", "(II)I"⟩, 20) := ⟨⟨by decide +kernel, by decide +kernel⟩, List.mem_of_getElem? (i := 599) (by decide +kernel), List.mem_of_getElem? (i := 756) (by decide +kernel), List.mem_of_getElem? (i := 757) (by decide +kernel)⟩
theorem lw_p37 : lw_okq (⟨"PolicyWorksModel", "compareSizes", "(II)I"⟩, 20) := ⟨⟨by decide +kernel, by decide +kernel⟩, List.mem_of_getElem? (i := 599) (by decide +kernel), List.mem_of_getElem? (i := 761) (by decide +kernel), List.mem_of_getElem? (i := 762) (by decide +kernel)⟩
theorem lw_p38 : lw_okq (⟨"PolicyWorksModel", "over", "(II)V"⟩, 20) := ⟨⟨by decide +kernel, by decide +kernel⟩, List.mem_of_getElem? (i := 599) (by decide +kernel), List.mem_of_getElem? (i := 766) (by decide +kernel), List.mem_of_getElem? (i := 767) (by decide +kernel)⟩
theorem lw_p39 : lw_okq (⟨"PolicyWorksModel", "copy", "(II)V"⟩, 20) := ⟨⟨by decide +kernel, by decide +kernel⟩, List.mem_of_getElem? (i := 599) (by decide +kernel), List.mem_of_getElem? (i := 770) (by decide +kernel), List.mem_of_getElem? (i := 771) (by decide +kernel)⟩
theorem lw_p40 : lw_okq (⟨"PolicyWorksModel", "belowInto", "(I)V"⟩, 20) := ⟨⟨by decide +kernel, by decide +kernel⟩, List.mem_of_getElem? (i := 599) (by decide +kernel), List.mem_of_getElem? (i := 774) (by decide +kernel), List.mem_of_getElem? (i := 775) (by decide +kernel)⟩
theorem lw_p41 : lw_okq (⟨"PolicyWorksModel", "greatest", "(III)I"⟩, 20) := ⟨⟨by decide +kernel, by decide +kernel⟩, List.mem_of_getElem? (i := 599) (by decide +kernel), List.mem_of_getElem? (i := 778) (by decide +kernel), List.mem_of_getElem? (i := 779) (by decide +kernel)⟩
theorem lw_p42 : lw_okq (⟨"PolicyWorksModel", "compareGains", "(IIII)I"⟩, 20) := ⟨⟨by decide +kernel, by decide +kernel⟩, List.mem_of_getElem? (i := 599) (by decide +kernel), List.mem_of_getElem? (i := 782) (by decide +kernel), List.mem_of_getElem? (i := 783) (by decide +kernel)⟩
theorem lw_p43 : lw_okq (⟨"PolicyWorksModel", "gainInto", "(IIII)V"⟩, 20) := ⟨⟨by decide +kernel, by decide +kernel⟩, List.mem_of_getElem? (i := 599) (by decide +kernel), List.mem_of_getElem? (i := 786) (by decide +kernel), List.mem_of_getElem? (i := 787) (by decide +kernel)⟩
theorem lw_p44 : lw_okq (⟨"PolicyWorksModel", "compare", "(II)I"⟩, 20) := ⟨⟨by decide +kernel, by decide +kernel⟩, List.mem_of_getElem? (i := 599) (by decide +kernel), List.mem_of_getElem? (i := 790) (by decide +kernel), List.mem_of_getElem? (i := 791) (by decide +kernel)⟩
theorem lw_p45 : lw_okq (⟨"PolicyWorksModel", "tell", "(I)J"⟩, 20) := ⟨⟨by decide +kernel, by decide +kernel⟩, List.mem_of_getElem? (i := 599) (by decide +kernel), List.mem_of_getElem? (i := 805) (by decide +kernel), List.mem_of_getElem? (i := 806) (by decide +kernel)⟩
theorem lw_p46 : lw_okq (⟨"PolicyWorksModel", "divisor", "(II)V"⟩, 20) := ⟨⟨by decide +kernel, by decide +kernel⟩, List.mem_of_getElem? (i := 599) (by decide +kernel), List.mem_of_getElem? (i := 810) (by decide +kernel), List.mem_of_getElem? (i := 811) (by decide +kernel)⟩
theorem lw_p47 : lw_okq (⟨"PolicyWorksModel", "overSmall", "(II)I"⟩, 20) := ⟨⟨by decide +kernel, by decide +kernel⟩, List.mem_of_getElem? (i := 599) (by decide +kernel), List.mem_of_getElem? (i := 814) (by decide +kernel), List.mem_of_getElem? (i := 815) (by decide +kernel)⟩
def lw_privs_3 : List (MethodName × Nat) := [(⟨"PolicyWorksModel", "trim", "(II)V"⟩, 20), (⟨"PolicyWorksModel", "putRight", "(III)V"⟩, 20), (⟨"PolicyWorksModel", "multiply", "(III)V"⟩, 20), (⟨"PolicyWorksModel", "plus", "(III)V"⟩, 20), (⟨"PolicyWorksModel", "limb", "(II)I"⟩, 20), (⟨"PolicyWorksModel", "compareSizes", "(II)I"⟩, 20), (⟨"PolicyWorksModel", "over", "(II)V"⟩, 20), (⟨"PolicyWorksModel", "copy", "(II)V"⟩, 20), (⟨"PolicyWorksModel", "belowInto", "(I)V"⟩, 20), (⟨"PolicyWorksModel", "greatest", "(III)I"⟩, 20), (⟨"PolicyWorksModel", "compareGains", "(IIII)I"⟩, 20), (⟨"PolicyWorksModel", "gainInto", "(IIII)V"⟩, 20), (⟨"PolicyWorksModel", "compare", "(II)I"⟩, 20), (⟨"PolicyWorksModel", "tell", "(I)J"⟩, 20), (⟨"PolicyWorksModel", "divisor", "(II)V"⟩, 20), (⟨"PolicyWorksModel", "overSmall", "(II)I"⟩, 20)]
theorem lw_r3 : ∀ q ∈ lw_privs_3, lw_okq q := List.forall_mem_cons.mpr ⟨lw_p32, List.forall_mem_cons.mpr ⟨lw_p33, List.forall_mem_cons.mpr ⟨lw_p34, List.forall_mem_cons.mpr ⟨lw_p35, List.forall_mem_cons.mpr ⟨lw_p36, List.forall_mem_cons.mpr ⟨lw_p37, List.forall_mem_cons.mpr ⟨lw_p38, List.forall_mem_cons.mpr ⟨lw_p39, List.forall_mem_cons.mpr ⟨lw_p40, List.forall_mem_cons.mpr ⟨lw_p41, List.forall_mem_cons.mpr ⟨lw_p42, List.forall_mem_cons.mpr ⟨lw_p43, List.forall_mem_cons.mpr ⟨lw_p44, List.forall_mem_cons.mpr ⟨lw_p45, List.forall_mem_cons.mpr ⟨lw_p46, List.forall_mem_cons.mpr ⟨lw_p47, fun _ h => absurd h List.not_mem_nil⟩⟩⟩⟩⟩⟩⟩⟩⟩⟩⟩⟩⟩⟩⟩⟩
theorem lw_p48 : lw_okq (⟨"PolicyWorksModel", "swapped", "(II)I"⟩, 20) := ⟨⟨by decide +kernel, by decide +kernel⟩, List.mem_of_getElem? (i := 599) (by decide +kernel), List.mem_of_getElem? (i := 819) (by decide +kernel), List.mem_of_getElem? (i := 820) (by decide +kernel)⟩
theorem lw_p49 : lw_okq (⟨"PolicyWorksModel", "go", "(I)V"⟩, 20) := ⟨⟨by decide +kernel, by decide +kernel⟩, List.mem_of_getElem? (i := 599) (by decide +kernel), List.mem_of_getElem? (i := 839) (by decide +kernel), List.mem_of_getElem? (i := 840) (by decide +kernel)⟩
theorem lw_p50 : lw_okq (⟨"PolicyWorksModel", "factor", "(I)V"⟩, 20) := ⟨⟨by decide +kernel, by decide +kernel⟩, List.mem_of_getElem? (i := 599) (by decide +kernel), List.mem_of_getElem? (i := 843) (by decide +kernel), List.mem_of_getElem? (i := 844) (by decide +kernel)⟩
theorem lw_p51 : lw_okq (⟨"PolicyWorksModel", "raise", "(III)V"⟩, 20) := ⟨⟨by decide +kernel, by decide +kernel⟩, List.mem_of_getElem? (i := 599) (by decide +kernel), List.mem_of_getElem? (i := 847) (by decide +kernel), List.mem_of_getElem? (i := 848) (by decide +kernel)⟩
def lw_privs_4 : List (MethodName × Nat) := [(⟨"PolicyWorksModel", "swapped", "(II)I"⟩, 20), (⟨"PolicyWorksModel", "go", "(I)V"⟩, 20), (⟨"PolicyWorksModel", "factor", "(I)V"⟩, 20), (⟨"PolicyWorksModel", "raise", "(III)V"⟩, 20)]
theorem lw_r4 : ∀ q ∈ lw_privs_4, lw_okq q := List.forall_mem_cons.mpr ⟨lw_p48, List.forall_mem_cons.mpr ⟨lw_p49, List.forall_mem_cons.mpr ⟨lw_p50, List.forall_mem_cons.mpr ⟨lw_p51, fun _ h => absurd h List.not_mem_nil⟩⟩⟩⟩
def lw_privs : List (MethodName × Nat) := lw_privs_1 ++ (lw_privs_2 ++ (lw_privs_3 ++ (lw_privs_4)))
def lw_tbl : List Cond := k2_sels lw_privs ++ tables_1
theorem lw_privs_ok : ∀ q ∈ lw_privs, lw_okq q := by
  show ∀ q ∈ lw_privs_1 ++ (lw_privs_2 ++ (lw_privs_3 ++ (lw_privs_4))), lw_okq q
  exact List.forall_mem_append.mpr ⟨lw_r1, List.forall_mem_append.mpr ⟨lw_r2, List.forall_mem_append.mpr ⟨lw_r3, lw_r4⟩⟩⟩
end
section
/-! ===== BEGIN words of one list among another's, by their places ===== -/
theorem goodIn_r {big : List Cond} (ws : List Cond) (ps : List Nat) (hp : ws = ps.filterMap (fun i => big[i]?)) (h : ws.all goodWord = true) : GoodIn big ws := by
  intro w hw
  have h1 := List.all_eq_true.mp h w hw
  rw [hp] at hw
  obtain ⟨i, -, hi⟩ := List.mem_filterMap.mp hw
  have hm : w ∈ big := by first | exact List.mem_of_getElem? hi | exact List.getElem?_mem hi
  exact ⟨hm, good_of_word h1⟩
theorem goodIn_app {big a b : List Cond} (ha : GoodIn big a) (hb : GoodIn big b) : GoodIn big (a ++ b) := fun w h => (List.mem_append.mp h).elim (ha w) (hb w)
theorem goodIn_ca {big a b : List Cond} {c : Cond} (ha : GoodIn big (c :: a)) (hb : GoodIn big b) : GoodIn big (c :: (a ++ b)) := fun w h => (List.mem_cons.mp h).elim (fun e => ha w (List.mem_cons.mpr (Or.inl e))) (fun h => (List.mem_append.mp h).elim (fun h => ha w (List.mem_cons.mpr (Or.inr h))) (hb w))
theorem goodIn_sub {big ws : List Cond} (hm : ∀ w ∈ ws, w ∈ big) (h : ws.all goodWord = true) : GoodIn big ws := fun w hw => ⟨hm w hw, good_of_word (List.all_eq_true.mp h w hw)⟩
/-! ===== END ===== -/


/-! ===== BEGIN printed: names, fields, word lists, decode rows ===== -/
def RX0 : String := "PolicyWorks$Action"
def TX0 : u_T := fun k => match k with
  | 0 => ("PolicyWorks$Action", "weights", "[I", true)
  | 1 => ("PolicyWorks$Action", "above", "I", false)
  | 2 => ("PolicyWorks$Action", "below", "I", false)
  | _ => ("PolicyWorks$Action", "total", "I", false)
def tyX0 : Nat → FieldType := fun k => match k with
  | 0 => .array .int
  | 1 => .int
  | 2 => .int
  | _ => .int
abbrev wsX00 : List Cond := u_ws RX0 TX0 4
theorem nmX0 : ∀ a, a < 4 → ∀ b, b < 4 → a ≠ b → (TX0 a).2.1 ≠ (TX0 b).2.1 := by decide +kernel
theorem tyX0_ok : ∀ k, k < 4 → parseFieldDescriptor (TX0 k).2.2.1 = some (tyX0 k) := by decide +kernel
abbrev cX0_init : ByteArray := prog_2_method_1_code
def yX0_init : MethodName := ⟨RX0, "<init>", "()V"⟩
def RX1 : String := "PolicyWorks$Chooser"
def TX1 : u_T := fun k => match k with
  | 0 => ("PolicyWorks$Chooser", "best", "LPolicyWorks$Gain;", false)
  | 1 => ("PolicyWorks$Chooser", "rival", "LPolicyWorks$Gain;", false)
  | _ => ("PolicyWorks$Chooser", "gap", "LPolicyWorks$Whole;", true)
def tyX1 : Nat → FieldType := fun k => match k with
  | 0 => .object "PolicyWorks$Gain"
  | 1 => .object "PolicyWorks$Gain"
  | _ => .object "PolicyWorks$Whole"
abbrev wsX10 : List Cond := u_ws RX1 TX1 3
theorem nmX1 : ∀ a, a < 3 → ∀ b, b < 3 → a ≠ b → (TX1 a).2.1 ≠ (TX1 b).2.1 := by decide +kernel
theorem tyX1_ok : ∀ k, k < 3 → parseFieldDescriptor (TX1 k).2.2.1 = some (tyX1 k) := by decide +kernel
abbrev cX1_init : ByteArray := prog_3_method_1_code
def yX1_init : MethodName := ⟨RX1, "<init>", "()V"⟩
abbrev cX1_greatest : ByteArray := prog_3_method_2_code
def yX1_greatest : MethodName := ⟨RX1, "greatest", "(LPolicyWorks$Model;IILPolicyWorks$Row;)I"⟩
abbrev cX1_rivalIsMore : ByteArray := prog_3_method_3_code
def yX1_rivalIsMore : MethodName := ⟨RX1, "rivalIsMore", "()Z"⟩
def RX2 : String := "PolicyWorks$Equations"
def TX2 : u_T := fun k => match k with
  | 0 => ("PolicyWorks$Equations", "rows", "[[I", true)
  | _ => ("PolicyWorks$Equations", "minors", "[LPolicyWorks$Whole;", true)
def tyX2 : Nat → FieldType := fun k => match k with
  | 0 => .array (.array .int)
  | _ => .array (.object "PolicyWorks$Whole")
abbrev wsX20 : List Cond := u_ws RX2 TX2 2
theorem nmX2 : ∀ a, a < 2 → ∀ b, b < 2 → a ≠ b → (TX2 a).2.1 ≠ (TX2 b).2.1 := by decide +kernel
theorem tyX2_ok : ∀ k, k < 2 → parseFieldDescriptor (TX2 k).2.2.1 = some (tyX2 k) := by decide +kernel
abbrev cX2_init : ByteArray := prog_4_method_1_code
def yX2_init : MethodName := ⟨RX2, "<init>", "()V"⟩
abbrev cX2_findValues : ByteArray := prog_4_method_2_code
def yX2_findValues : MethodName := ⟨RX2, "findValues", "(LPolicyWorks$Model;[ILPolicyWorks$Row;)V"⟩
abbrev cX2_writeRow : ByteArray := prog_4_method_3_code
def yX2_writeRow : MethodName := ⟨RX2, "writeRow", "(LPolicyWorks$Model;ILPolicyWorks$Action;)V"⟩
abbrev cX2_expand : ByteArray := prog_4_method_4_code
def yX2_expand : MethodName := ⟨RX2, "expand", "(II)V"⟩
def RX3 : String := "PolicyWorks$Fraction"
def TX3 : u_T := fun k => match k with
  | 0 => ("PolicyWorks$Fraction", "above", "LPolicyWorks$Whole;", true)
  | 1 => ("PolicyWorks$Fraction", "below", "LPolicyWorks$Whole;", true)
  | 2 => ("PolicyWorks$Fraction", "one", "LPolicyWorks$Whole;", true)
  | 3 => ("PolicyWorks$Fraction", "other", "LPolicyWorks$Whole;", true)
  | _ => ("PolicyWorks$Fraction", "quotient", "LPolicyWorks$Whole;", true)
def tyX3 : Nat → FieldType := fun k => match k with
  | 0 => .object "PolicyWorks$Whole"
  | 1 => .object "PolicyWorks$Whole"
  | 2 => .object "PolicyWorks$Whole"
  | 3 => .object "PolicyWorks$Whole"
  | _ => .object "PolicyWorks$Whole"
abbrev wsX30 : List Cond := u_ws RX3 TX3 5
theorem nmX3 : ∀ a, a < 5 → ∀ b, b < 5 → a ≠ b → (TX3 a).2.1 ≠ (TX3 b).2.1 := by decide +kernel
theorem tyX3_ok : ∀ k, k < 5 → parseFieldDescriptor (TX3 k).2.2.1 = some (tyX3 k) := by decide +kernel
abbrev cX3_init : ByteArray := prog_5_method_1_code
def yX3_init : MethodName := ⟨RX3, "<init>", "()V"⟩
abbrev cX3_tell : ByteArray := prog_5_method_2_code
def yX3_tell : MethodName := ⟨RX3, "tell", "(I)J"⟩
abbrev cX3_reduce : ByteArray := prog_5_method_3_code
def yX3_reduce : MethodName := ⟨RX3, "reduce", "()V"⟩
abbrev cX3_commonDivisor : ByteArray := prog_5_method_4_code
def yX3_commonDivisor : MethodName := ⟨RX3, "commonDivisor", "()LPolicyWorks$Whole;"⟩
def RX4 : String := "PolicyWorks$Gain"
def TX4 : u_T := fun k => match k with
  | 0 => ("PolicyWorks$Gain", "above", "LPolicyWorks$Whole;", true)
  | _ => ("PolicyWorks$Gain", "scale", "I", false)
def tyX4 : Nat → FieldType := fun k => match k with
  | 0 => .object "PolicyWorks$Whole"
  | _ => .int
abbrev wsX40 : List Cond := u_ws RX4 TX4 2
theorem nmX4 : ∀ a, a < 2 → ∀ b, b < 2 → a ≠ b → (TX4 a).2.1 ≠ (TX4 b).2.1 := by decide +kernel
theorem tyX4_ok : ∀ k, k < 2 → parseFieldDescriptor (TX4 k).2.2.1 = some (tyX4 k) := by decide +kernel
abbrev cX4_init : ByteArray := prog_6_method_1_code
def yX4_init : MethodName := ⟨RX4, "<init>", "()V"⟩
abbrev cX4_weigh : ByteArray := prog_6_method_2_code
def yX4_weigh : MethodName := ⟨RX4, "weigh", "(LPolicyWorks$Model;LPolicyWorks$Action;LPolicyWorks$Row;)V"⟩
def RX5 : String := "PolicyWorks$Ladder"
def TX5 : u_T := fun k => match k with
  | 0 => ("PolicyWorks$Ladder", "rows", "[LPolicyWorks$Row;", true)
  | 1 => ("PolicyWorks$Ladder", "picks", "[[I", true)
  | _ => ("PolicyWorks$Ladder", "known", "I", false)
def tyX5 : Nat → FieldType := fun k => match k with
  | 0 => .array (.object "PolicyWorks$Row")
  | 1 => .array (.array .int)
  | _ => .int
abbrev wsX50 : List Cond := u_ws RX5 TX5 3
theorem nmX5 : ∀ a, a < 3 → ∀ b, b < 3 → a ≠ b → (TX5 a).2.1 ≠ (TX5 b).2.1 := by decide +kernel
theorem tyX5_ok : ∀ k, k < 3 → parseFieldDescriptor (TX5 k).2.2.1 = some (tyX5 k) := by decide +kernel
abbrev cX5_init : ByteArray := prog_7_method_1_code
def yX5_init : MethodName := ⟨RX5, "<init>", "()V"⟩
abbrev cX5_climb : ByteArray := prog_7_method_2_code
def yX5_climb : MethodName := ⟨RX5, "climb", "(LPolicyWorks$Model;LPolicyWorks$Chooser;I)V"⟩
abbrev cX5_begin : ByteArray := prog_7_method_3_code
def yX5_begin : MethodName := ⟨RX5, "begin", "(LPolicyWorks$Model;)V"⟩
abbrev cX5_step : ByteArray := prog_7_method_4_code
def yX5_step : MethodName := ⟨RX5, "step", "(LPolicyWorks$Model;LPolicyWorks$Chooser;I)V"⟩
def RX6 : String := "PolicyWorks$Model"
def TX6 : u_T := fun k => match k with
  | 0 => ("PolicyWorks$Model", "actionCounts", "[I", true)
  | 1 => ("PolicyWorks$Model", "actions", "[LPolicyWorks$Action;", true)
  | 2 => ("PolicyWorks$Model", "states", "I", false)
  | 3 => ("PolicyWorks$Model", "discountAbove", "I", false)
  | _ => ("PolicyWorks$Model", "discountBelow", "I", false)
def tyX6 : Nat → FieldType := fun k => match k with
  | 0 => .array .int
  | 1 => .array (.object "PolicyWorks$Action")
  | 2 => .int
  | 3 => .int
  | _ => .int
abbrev wsX60 : List Cond := u_ws RX6 TX6 5
theorem nmX6 : ∀ a, a < 5 → ∀ b, b < 5 → a ≠ b → (TX6 a).2.1 ≠ (TX6 b).2.1 := by decide +kernel
theorem tyX6_ok : ∀ k, k < 5 → parseFieldDescriptor (TX6 k).2.2.1 = some (tyX6 k) := by decide +kernel
abbrev cX6_init : ByteArray := prog_8_method_1_code
def yX6_init : MethodName := ⟨RX6, "<init>", "()V"⟩
abbrev cX6_hasState : ByteArray := prog_8_method_2_code
def yX6_hasState : MethodName := ⟨RX6, "hasState", "(I)Z"⟩
abbrev cX6_hasAction : ByteArray := prog_8_method_3_code
def yX6_hasAction : MethodName := ⟨RX6, "hasAction", "(II)Z"⟩
abbrev cX6_find : ByteArray := prog_8_method_4_code
def yX6_find : MethodName := ⟨RX6, "find", "(II)LPolicyWorks$Action;"⟩
abbrev cX6_countActions : ByteArray := prog_8_method_5_code
def yX6_countActions : MethodName := ⟨RX6, "countActions", "(Z)I"⟩
abbrev cX6_allReady : ByteArray := prog_8_method_6_code
def yX6_allReady : MethodName := ⟨RX6, "allReady", "()Z"⟩
abbrev cX6_commonRewardBelow : ByteArray := prog_8_method_7_code
def yX6_commonRewardBelow : MethodName := ⟨RX6, "commonRewardBelow", "()I"⟩
abbrev cX6_commonDivisor : ByteArray := prog_8_method_8_code
def yX6_commonDivisor : MethodName := ⟨RX6, "commonDivisor", "(II)I"⟩
def RX7 : String := "PolicyWorks$Row"
def TX7 : u_T := fun k => match k with
  | 0 => ("PolicyWorks$Row", "above", "[LPolicyWorks$Whole;", true)
  | _ => ("PolicyWorks$Row", "below", "LPolicyWorks$Whole;", true)
def tyX7 : Nat → FieldType := fun k => match k with
  | 0 => .array (.object "PolicyWorks$Whole")
  | _ => .object "PolicyWorks$Whole"
abbrev wsX70 : List Cond := u_ws RX7 TX7 2
theorem nmX7 : ∀ a, a < 2 → ∀ b, b < 2 → a ≠ b → (TX7 a).2.1 ≠ (TX7 b).2.1 := by decide +kernel
theorem tyX7_ok : ∀ k, k < 2 → parseFieldDescriptor (TX7 k).2.2.1 = some (tyX7 k) := by decide +kernel
abbrev cX7_init : ByteArray := prog_9_method_1_code
def yX7_init : MethodName := ⟨RX7, "<init>", "(I)V"⟩
def RX8 : String := "PolicyWorks$Whole"
def TX8 : u_T := fun k => match k with
  | 0 => ("PolicyWorks$Whole", "limbs", "[J", true)
  | 1 => ("PolicyWorks$Whole", "size", "I", false)
  | _ => ("PolicyWorks$Whole", "sign", "I", false)
def tyX8 : Nat → FieldType := fun k => match k with
  | 0 => .array .long
  | 1 => .int
  | _ => .int
abbrev wsX80 : List Cond := u_ws RX8 TX8 3
theorem nmX8 : ∀ a, a < 3 → ∀ b, b < 3 → a ≠ b → (TX8 a).2.1 ≠ (TX8 b).2.1 := by decide +kernel
theorem tyX8_ok : ∀ k, k < 3 → parseFieldDescriptor (TX8 k).2.2.1 = some (tyX8 k) := by decide +kernel
abbrev cX8_init : ByteArray := prog_10_method_1_code
def yX8_init : MethodName := ⟨RX8, "<init>", "(I)V"⟩
abbrev cX8_clear : ByteArray := prog_10_method_2_code
def yX8_clear : MethodName := ⟨RX8, "clear", "()V"⟩
abbrev cX8_put : ByteArray := prog_10_method_3_code
def yX8_put : MethodName := ⟨RX8, "put", "(J)V"⟩
abbrev cX8_copy : ByteArray := prog_10_method_4_code
def yX8_copy : MethodName := ⟨RX8, "copy", "(LPolicyWorks$Whole;)V"⟩
abbrev cX8_add : ByteArray := prog_10_method_5_code
def yX8_add : MethodName := ⟨RX8, "add", "(LPolicyWorks$Whole;J)V"⟩
abbrev cX8_multiply : ByteArray := prog_10_method_6_code
def yX8_multiply : MethodName := ⟨RX8, "multiply", "(J)V"⟩
abbrev cX8_product : ByteArray := prog_10_method_7_code
def yX8_product : MethodName := ⟨RX8, "product", "(LPolicyWorks$Whole;LPolicyWorks$Whole;)V"⟩
abbrev cX8_settle : ByteArray := prog_10_method_8_code
def yX8_settle : MethodName := ⟨RX8, "settle", "()V"⟩
abbrev cX8_turnNegative : ByteArray := prog_10_method_9_code
def yX8_turnNegative : MethodName := ⟨RX8, "turnNegative", "()V"⟩
abbrev cX8_measure : ByteArray := prog_10_method_10_code
def yX8_measure : MethodName := ⟨RX8, "measure", "()V"⟩
abbrev cX8_dropSign : ByteArray := prog_10_method_11_code
def yX8_dropSign : MethodName := ⟨RX8, "dropSign", "()V"⟩
abbrev cX8_compare : ByteArray := prog_10_method_12_code
def yX8_compare : MethodName := ⟨RX8, "compare", "(LPolicyWorks$Whole;)I"⟩
abbrev cX8_limbAt : ByteArray := prog_10_method_13_code
def yX8_limbAt : MethodName := ⟨RX8, "limbAt", "(I)J"⟩
abbrev cX8_divideSmall : ByteArray := prog_10_method_14_code
def yX8_divideSmall : MethodName := ⟨RX8, "divideSmall", "(I)V"⟩
abbrev cX8_divide : ByteArray := prog_10_method_15_code
def yX8_divide : MethodName := ⟨RX8, "divide", "(LPolicyWorks$Whole;LPolicyWorks$Whole;)V"⟩
abbrev cX8_reaches : ByteArray := prog_10_method_16_code
def yX8_reaches : MethodName := ⟨RX8, "reaches", "(LPolicyWorks$Whole;I)Z"⟩
abbrev cX8_guess : ByteArray := prog_10_method_17_code
def yX8_guess : MethodName := ⟨RX8, "guess", "(LPolicyWorks$Whole;I)J"⟩
abbrev cX8_takeAway : ByteArray := prog_10_method_18_code
def yX8_takeAway : MethodName := ⟨RX8, "takeAway", "(LPolicyWorks$Whole;IJ)V"⟩
abbrev cX8_eighteen : ByteArray := prog_10_method_19_code
def yX8_eighteen : MethodName := ⟨RX8, "eighteen", "(I)J"⟩
def RX9 : String := "PolicyWorks"
def TX9 : u_T := fun k => match k with
  | 0 => ("PolicyWorks", "model", "LPolicyWorks$Model;", true)
  | 1 => ("PolicyWorks", "equations", "LPolicyWorks$Equations;", true)
  | 2 => ("PolicyWorks", "chooser", "LPolicyWorks$Chooser;", true)
  | 3 => ("PolicyWorks", "ladder", "LPolicyWorks$Ladder;", true)
  | 4 => ("PolicyWorks", "bestValues", "LPolicyWorks$Row;", true)
  | 5 => ("PolicyWorks", "bestPolicy", "[I", true)
  | 6 => ("PolicyWorks", "worths", "[LPolicyWorks$Row;", true)
  | 7 => ("PolicyWorks", "worthKnown", "[Z", true)
  | 8 => ("PolicyWorks", "trial", "[I", true)
  | 9 => ("PolicyWorks", "told", "LPolicyWorks$Fraction;", true)
  | 10 => ("PolicyWorks", "left", "LPolicyWorks$Whole;", true)
  | 11 => ("PolicyWorks", "right", "LPolicyWorks$Whole;", true)
  | 12 => ("PolicyWorks", "factor", "LPolicyWorks$Whole;", true)
  | _ => ("PolicyWorks", "rounds", "I", false)
def tyX9 : Nat → FieldType := fun k => match k with
  | 0 => .object "PolicyWorks$Model"
  | 1 => .object "PolicyWorks$Equations"
  | 2 => .object "PolicyWorks$Chooser"
  | 3 => .object "PolicyWorks$Ladder"
  | 4 => .object "PolicyWorks$Row"
  | 5 => .array .int
  | 6 => .array (.object "PolicyWorks$Row")
  | 7 => .array .boolean
  | 8 => .array .int
  | 9 => .object "PolicyWorks$Fraction"
  | 10 => .object "PolicyWorks$Whole"
  | 11 => .object "PolicyWorks$Whole"
  | 12 => .object "PolicyWorks$Whole"
  | _ => .int
abbrev wsX90 : List Cond := u_ws RX9 TX9 14
theorem nmX9 : ∀ a, a < 14 → ∀ b, b < 14 → a ≠ b → (TX9 a).2.1 ≠ (TX9 b).2.1 := by decide +kernel
theorem tyX9_ok : ∀ k, k < 14 → parseFieldDescriptor (TX9 k).2.2.1 = some (tyX9 k) := by decide +kernel
abbrev cX9_init : ByteArray := prog_1_method_1_code
def yX9_init : MethodName := ⟨RX9, "<init>", "()V"⟩
abbrev cX9_state : ByteArray := prog_1_method_2_code
def yX9_state : MethodName := ⟨RX9, "state", "()I"⟩
abbrev cX9_action : ByteArray := prog_1_method_3_code
def yX9_action : MethodName := ⟨RX9, "action", "(I)I"⟩
abbrev cX9_reward : ByteArray := prog_1_method_4_code
def yX9_reward : MethodName := ⟨RX9, "reward", "(IIII)Z"⟩
abbrev cX9_move : ByteArray := prog_1_method_5_code
def yX9_move : MethodName := ⟨RX9, "move", "(IIII)Z"⟩
abbrev cX9_discount : ByteArray := prog_1_method_6_code
def yX9_discount : MethodName := ⟨RX9, "discount", "(II)Z"⟩
abbrev cX9_solve : ByteArray := prog_1_method_7_code
def yX9_solve : MethodName := ⟨RX9, "solve", "()I"⟩
abbrev cX9_policy : ByteArray := prog_1_method_8_code
def yX9_policy : MethodName := ⟨RX9, "policy", "(I)I"⟩
abbrev cX9_value : ByteArray := prog_1_method_9_code
def yX9_value : MethodName := ⟨RX9, "value", "(II)J"⟩
abbrev cX9_gain : ByteArray := prog_1_method_10_code
def yX9_gain : MethodName := ⟨RX9, "gain", "(III)J"⟩
abbrev cX9_worth : ByteArray := prog_1_method_11_code
def yX9_worth : MethodName := ⟨RX9, "worth", "(III)J"⟩
abbrev cX9_steps : ByteArray := prog_1_method_12_code
def yX9_steps : MethodName := ⟨RX9, "steps", "(III)J"⟩
abbrev cX9_plan : ByteArray := prog_1_method_13_code
def yX9_plan : MethodName := ⟨RX9, "plan", "(II)I"⟩
abbrev cX9_bound : ByteArray := prog_1_method_14_code
def yX9_bound : MethodName := ⟨RX9, "bound", "(II)J"⟩
abbrev cX9_best : ByteArray := prog_1_method_15_code
def yX9_best : MethodName := ⟨RX9, "best", "()Z"⟩
abbrev cX9_count : ByteArray := prog_1_method_16_code
def yX9_count : MethodName := ⟨RX9, "count", "(I)I"⟩
abbrev cX9_refusal : ByteArray := prog_1_method_17_code
def yX9_refusal : MethodName := ⟨RX9, "refusal", "(I)J"⟩
abbrev cX9_forget : ByteArray := prog_1_method_18_code
def yX9_forget : MethodName := ⟨RX9, "forget", "()V"⟩
abbrev cX9_improve : ByteArray := prog_1_method_19_code
def yX9_improve : MethodName := ⟨RX9, "improve", "()Z"⟩
abbrev cX9_findWorth : ByteArray := prog_1_method_20_code
def yX9_findWorth : MethodName := ⟨RX9, "findWorth", "(I)LPolicyWorks$Row;"⟩
abbrev cX9_findBound : ByteArray := prog_1_method_21_code
def yX9_findBound : MethodName := ⟨RX9, "findBound", "(I)V"⟩
abbrev cX9_hold : ByteArray := prog_1_method_22_code
def yX9_hold : MethodName := ⟨RX9, "hold", "(LPolicyWorks$Row;I)V"⟩
abbrev cX9_valuesAreGreatestGains : ByteArray := prog_1_method_23_code
def yX9_valuesAreGreatestGains : MethodName := ⟨RX9, "valuesAreGreatestGains", "()Z"⟩
abbrev cX9_noWorthIsMore : ByteArray := prog_1_method_24_code
def yX9_noWorthIsMore : MethodName := ⟨RX9, "noWorthIsMore", "()Z"⟩
abbrev cX9_stepsKeepBounds : ByteArray := prog_1_method_25_code
def yX9_stepsKeepBounds : MethodName := ⟨RX9, "stepsKeepBounds", "()Z"⟩
abbrev cX9_isFartherThanTold : ByteArray := prog_1_method_26_code
def yX9_isFartherThanTold : MethodName := ⟨RX9, "isFartherThanTold", "(LPolicyWorks$Row;I)Z"⟩
def RX10 : String := "PolicyWorksModel"
def TX10 : u_T := fun k => match k with
  | 0 => ("PolicyWorksModel", "thrown", "I", false)
  | 1 => ("PolicyWorksModel", "states", "I", false)
  | 2 => ("PolicyWorksModel", "actionCounts", "[I", true)
  | 3 => ("PolicyWorksModel", "ups", "[I", true)
  | 4 => ("PolicyWorksModel", "downs", "[I", true)
  | 5 => ("PolicyWorksModel", "weights", "[I", true)
  | 6 => ("PolicyWorksModel", "discountUp", "I", false)
  | 7 => ("PolicyWorksModel", "discountDown", "I", false)
  | 8 => ("PolicyWorksModel", "solved", "Z", false)
  | 9 => ("PolicyWorksModel", "rounds", "I", false)
  | 10 => ("PolicyWorksModel", "best", "[I", true)
  | 11 => ("PolicyWorksModel", "chosen", "[I", true)
  | 12 => ("PolicyWorksModel", "next", "[I", true)
  | 13 => ("PolicyWorksModel", "limbs", "[I", true)
  | 14 => ("PolicyWorksModel", "lengths", "[I", true)
  | 15 => ("PolicyWorksModel", "signs", "[I", true)
  | 16 => ("PolicyWorksModel", "primes", "[I", true)
  | 17 => ("PolicyWorksModel", "own", "[I", true)
  | 18 => ("PolicyWorksModel", "together", "[I", true)
  | _ => ("PolicyWorksModel", "common", "I", false)
def tyX10 : Nat → FieldType := fun k => match k with
  | 0 => .int
  | 1 => .int
  | 2 => .array .int
  | 3 => .array .int
  | 4 => .array .int
  | 5 => .array .int
  | 6 => .int
  | 7 => .int
  | 8 => .boolean
  | 9 => .int
  | 10 => .array .int
  | 11 => .array .int
  | 12 => .array .int
  | 13 => .array .int
  | 14 => .array .int
  | 15 => .array .int
  | 16 => .array .int
  | 17 => .array .int
  | 18 => .array .int
  | _ => .int
abbrev wsX100 : List Cond := u_ws RX10 TX10 20
theorem nmX10 : ∀ a, a < 20 → ∀ b, b < 20 → a ≠ b → (TX10 a).2.1 ≠ (TX10 b).2.1 := by decide +kernel
theorem tyX10_ok : ∀ k, k < 20 → parseFieldDescriptor (TX10 k).2.2.1 = some (tyX10 k) := by decide +kernel
abbrev cX10_init : ByteArray := prog_12_method_1_code
def yX10_init : MethodName := ⟨RX10, "<init>", "()V"⟩
abbrev cX10_in : ByteArray := prog_12_method_3_code
def yX10_in : MethodName := ⟨RX10, "in", "(JJJ)Z"⟩
abbrev cX10_setSmall : ByteArray := prog_12_method_4_code
def yX10_setSmall : MethodName := ⟨RX10, "setSmall", "(IJ)V"⟩
abbrev cX10_copy : ByteArray := prog_12_method_5_code
def yX10_copy : MethodName := ⟨RX10, "copy", "(II)V"⟩
abbrev cX10_compareSizes : ByteArray := prog_12_method_6_code
def yX10_compareSizes : MethodName := ⟨RX10, "compareSizes", "(II)I"⟩
abbrev cX10_compare : ByteArray := prog_12_method_7_code
def yX10_compare : MethodName := ⟨RX10, "compare", "(II)I"⟩
abbrev cX10_trim : ByteArray := prog_12_method_8_code
def yX10_trim : MethodName := ⟨RX10, "trim", "(II)V"⟩
abbrev cX10_limb : ByteArray := prog_12_method_9_code
def yX10_limb : MethodName := ⟨RX10, "limb", "(II)I"⟩
abbrev cX10_plus : ByteArray := prog_12_method_10_code
def yX10_plus : MethodName := ⟨RX10, "plus", "(III)V"⟩
abbrev cX10_times : ByteArray := prog_12_method_11_code
def yX10_times : MethodName := ⟨RX10, "times", "(II)V"⟩
abbrev cX10_multiply : ByteArray := prog_12_method_12_code
def yX10_multiply : MethodName := ⟨RX10, "multiply", "(III)V"⟩
abbrev cX10_overSmall : ByteArray := prog_12_method_13_code
def yX10_overSmall : MethodName := ⟨RX10, "overSmall", "(II)I"⟩
abbrev cX10_over : ByteArray := prog_12_method_14_code
def yX10_over : MethodName := ⟨RX10, "over", "(II)V"⟩
abbrev cX10_divisor : ByteArray := prog_12_method_15_code
def yX10_divisor : MethodName := ⟨RX10, "divisor", "(II)V"⟩
abbrev cX10_swapped : ByteArray := prog_12_method_16_code
def yX10_swapped : MethodName := ⟨RX10, "swapped", "(II)I"⟩
abbrev cX10_change : ByteArray := prog_12_method_17_code
def yX10_change : MethodName := ⟨RX10, "change", "()V"⟩
abbrev cX10_state : ByteArray := prog_12_method_18_code
def yX10_state : MethodName := ⟨RX10, "state", "()I"⟩
abbrev cX10_isState : ByteArray := prog_12_method_19_code
def yX10_isState : MethodName := ⟨RX10, "isState", "(I)Z"⟩
abbrev cX10_isAction : ByteArray := prog_12_method_20_code
def yX10_isAction : MethodName := ⟨RX10, "isAction", "(II)Z"⟩
abbrev cX10_action : ByteArray := prog_12_method_21_code
def yX10_action : MethodName := ⟨RX10, "action", "(I)I"⟩
abbrev cX10_reward : ByteArray := prog_12_method_22_code
def yX10_reward : MethodName := ⟨RX10, "reward", "(IIII)Z"⟩
abbrev cX10_move : ByteArray := prog_12_method_23_code
def yX10_move : MethodName := ⟨RX10, "move", "(IIII)Z"⟩
abbrev cX10_discount : ByteArray := prog_12_method_24_code
def yX10_discount : MethodName := ⟨RX10, "discount", "(II)Z"⟩
abbrev cX10_sumOf : ByteArray := prog_12_method_25_code
def yX10_sumOf : MethodName := ⟨RX10, "sumOf", "(I)I"⟩
abbrev cX10_readyCount : ByteArray := prog_12_method_26_code
def yX10_readyCount : MethodName := ⟨RX10, "readyCount", "()I"⟩
abbrev cX10_allActions : ByteArray := prog_12_method_27_code
def yX10_allActions : MethodName := ⟨RX10, "allActions", "()I"⟩
abbrev cX10_isReady : ByteArray := prog_12_method_28_code
def yX10_isReady : MethodName := ⟨RX10, "isReady", "()Z"⟩
abbrev cX10_dividing : ByteArray := prog_12_method_29_code
def yX10_dividing : MethodName := ⟨RX10, "dividing", "(II)I"⟩
abbrev cX10_valuePolicy : ByteArray := prog_12_method_30_code
def yX10_valuePolicy : MethodName := ⟨RX10, "valuePolicy", "()V"⟩
abbrev cX10_putRight : ByteArray := prog_12_method_31_code
def yX10_putRight : MethodName := ⟨RX10, "putRight", "(III)V"⟩
abbrev cX10_gainInto : ByteArray := prog_12_method_32_code
def yX10_gainInto : MethodName := ⟨RX10, "gainInto", "(IIII)V"⟩
abbrev cX10_compareGains : ByteArray := prog_12_method_33_code
def yX10_compareGains : MethodName := ⟨RX10, "compareGains", "(IIII)I"⟩
abbrev cX10_greatest : ByteArray := prog_12_method_34_code
def yX10_greatest : MethodName := ⟨RX10, "greatest", "(III)I"⟩
abbrev cX10_belowInto : ByteArray := prog_12_method_35_code
def yX10_belowInto : MethodName := ⟨RX10, "belowInto", "(I)V"⟩
abbrev cX10_solve : ByteArray := prog_12_method_36_code
def yX10_solve : MethodName := ⟨RX10, "solve", "()I"⟩
abbrev cX10_policy : ByteArray := prog_12_method_37_code
def yX10_policy : MethodName := ⟨RX10, "policy", "(I)I"⟩
abbrev cX10_none : ByteArray := prog_12_method_38_code
def yX10_none : MethodName := ⟨RX10, "none", "(I)I"⟩
abbrev cX10_tell : ByteArray := prog_12_method_39_code
def yX10_tell : MethodName := ⟨RX10, "tell", "(I)J"⟩
abbrev cX10_value : ByteArray := prog_12_method_40_code
def yX10_value : MethodName := ⟨RX10, "value", "(II)J"⟩
abbrev cX10_gain : ByteArray := prog_12_method_41_code
def yX10_gain : MethodName := ⟨RX10, "gain", "(III)J"⟩
abbrev cX10_worth : ByteArray := prog_12_method_42_code
def yX10_worth : MethodName := ⟨RX10, "worth", "(III)J"⟩
abbrev cX10_factor : ByteArray := prog_12_method_43_code
def yX10_factor : MethodName := ⟨RX10, "factor", "(I)V"⟩
abbrev cX10_go : ByteArray := prog_12_method_44_code
def yX10_go : MethodName := ⟨RX10, "go", "(I)V"⟩
abbrev cX10_raise : ByteArray := prog_12_method_45_code
def yX10_raise : MethodName := ⟨RX10, "raise", "(III)V"⟩
abbrev cX10_steps : ByteArray := prog_12_method_46_code
def yX10_steps : MethodName := ⟨RX10, "steps", "(III)J"⟩
abbrev cX10_plan : ByteArray := prog_12_method_47_code
def yX10_plan : MethodName := ⟨RX10, "plan", "(II)I"⟩
abbrev cX10_bound : ByteArray := prog_12_method_48_code
def yX10_bound : MethodName := ⟨RX10, "bound", "(II)J"⟩
abbrev cX10_best : ByteArray := prog_12_method_49_code
def yX10_best : MethodName := ⟨RX10, "best", "()Z"⟩
abbrev cX10_count : ByteArray := prog_12_method_50_code
def yX10_count : MethodName := ⟨RX10, "count", "(I)I"⟩
def RJ6 : String := "java/lang/Integer"
def TJ6 : u_T := fun k => match k with
  | _ => ("", "", "", false)
def tyJ6 : Nat → FieldType := fun k => match k with
  | _ => .int
abbrev wsJ60 : List Cond := u_ws RJ6 TJ6 0
theorem nmJ6 : ∀ a, a < 0 → ∀ b, b < 0 → a ≠ b → (TJ6 a).2.1 ≠ (TJ6 b).2.1 := by decide +kernel
theorem tyJ6_ok : ∀ k, k < 0 → parseFieldDescriptor (TJ6 k).2.2.1 = some (tyJ6 k) := by decide +kernel
abbrev cJ6_bitCount_0f7a4 : ByteArray := prog_13_method_49_code
def yJ6_bitCount_0f7a4 : MethodName := ⟨RJ6, "bitCount", "(I)I"⟩
def RJ9 : String := "java/lang/Math"
def TJ9 : u_T := fun k => match k with
  | _ => ("", "", "", false)
def tyJ9 : Nat → FieldType := fun k => match k with
  | _ => .int
abbrev wsJ90 : List Cond := u_ws RJ9 TJ9 0
theorem nmJ9 : ∀ a, a < 0 → ∀ b, b < 0 → a ≠ b → (TJ9 a).2.1 ≠ (TJ9 b).2.1 := by decide +kernel
theorem tyJ9_ok : ∀ k, k < 0 → parseFieldDescriptor (TJ9 k).2.2.1 = some (tyJ9 k) := by decide +kernel
abbrev cJ9_floorDiv_f86c9 : ByteArray := prog_14_method_49_code
def yJ9_floorDiv_f86c9 : MethodName := ⟨RJ9, "floorDiv", "(JJ)J"⟩
abbrev cJ9_max_7cf53 : ByteArray := prog_14_method_65_code
def yJ9_max_7cf53 : MethodName := ⟨RJ9, "max", "(II)I"⟩
abbrev cJ9_max_f86c9 : ByteArray := prog_14_method_66_code
def yJ9_max_f86c9 : MethodName := ⟨RJ9, "max", "(JJ)J"⟩
abbrev cJ9_min_7cf53 : ByteArray := prog_14_method_69_code
def yJ9_min_7cf53 : MethodName := ⟨RJ9, "min", "(II)I"⟩
def RJ10 : String := "java/lang/System"
def TJ10 : u_T := fun k => match k with
  | _ => ("", "", "", false)
def tyJ10 : Nat → FieldType := fun k => match k with
  | _ => .int
abbrev wsJ100 : List Cond := u_ws RJ10 TJ10 0
theorem nmJ10 : ∀ a, a < 0 → ∀ b, b < 0 → a ≠ b → (TJ10 a).2.1 ≠ (TJ10 b).2.1 := by decide +kernel
theorem tyJ10_ok : ∀ k, k < 0 → parseFieldDescriptor (TJ10 k).2.2.1 = some (tyJ10 k) := by decide +kernel
def RJ7 : String := "java/util/Arrays"
def TJ7 : u_T := fun k => match k with
  | _ => ("", "", "", false)
def tyJ7 : Nat → FieldType := fun k => match k with
  | _ => .int
abbrev wsJ70 : List Cond := u_ws RJ7 TJ7 0
theorem nmJ7 : ∀ a, a < 0 → ∀ b, b < 0 → a ≠ b → (TJ7 a).2.1 ≠ (TJ7 b).2.1 := by decide +kernel
theorem tyJ7_ok : ∀ k, k < 0 → parseFieldDescriptor (TJ7 k).2.2.1 = some (tyJ7 k) := by decide +kernel
abbrev cJ7_fill_d0a16 : ByteArray := prog_16_method_101_code
def yJ7_fill_d0a16 : MethodName := ⟨RJ7, "fill", "([JJ)V"⟩
abbrev cJ7_fill_53178 : ByteArray := prog_16_method_103_code
def yJ7_fill_53178 : MethodName := ⟨RJ7, "fill", "([II)V"⟩
def RL : String := "PolicyWorksLaw"
abbrev cL_law : ByteArray := code
def yL_law : MethodName := ⟨RL, "law", "([I)Z"⟩
def wsX0_init : List Cond := .code yX0_init cX0_init 1 none :: ([.methodLink RX0 3 objectInit, .instanceMethod objectInit, .code objectInit ⟨#[0xb1]⟩ 1 none, .arrayClass .int, .fieldLink RX0 9 "PolicyWorks$Action" "weights" "[I", .fieldLink RX0 15 "PolicyWorks$Action" "above" "I", .fieldLink RX0 19 "PolicyWorks$Action" "below" "I", .fieldLink RX0 22 "PolicyWorks$Action" "total" "I"] ++ wsX00)
def wsX8_init : List Cond := .code yX8_init cX8_init 2 none :: ([.methodLink RX8 1 objectInit, .instanceMethod objectInit, .code objectInit ⟨#[0xb1]⟩ 1 none, .arrayClass .long, .fieldLink RX8 7 "PolicyWorks$Whole" "limbs" "[J", .fieldLink RX8 13 "PolicyWorks$Whole" "size" "I", .fieldLink RX8 17 "PolicyWorks$Whole" "sign" "I"] ++ wsX80)
def wsX4_init : List Cond := .code yX4_init cX4_init 1 none :: ([.methodLink RX4 3 objectInit, .instanceMethod objectInit, .code objectInit ⟨#[0xb1]⟩ 1 none, .classLink RX4 9 RX8, .instantiable RX8 3, .initialized RX8, .fieldLink RX4 14 "PolicyWorks$Gain" "above" "LPolicyWorks$Whole;", .fieldLink RX4 20 "PolicyWorks$Gain" "scale" "I", .methodLink RX4 11 yX8_init, .instanceMethod yX8_init, .code yX8_init cX8_init 2 none, .methodLink RX8 1 objectInit, .arrayClass .long, .fieldLink RX8 7 "PolicyWorks$Whole" "limbs" "[J", .fieldLink RX8 13 "PolicyWorks$Whole" "size" "I", .fieldLink RX8 17 "PolicyWorks$Whole" "sign" "I"] ++ wsX80 ++ wsX40)
def wsX1_init_r1 : List Cond := [Cond.methodLink RX1 3 objectInit, Cond.instanceMethod objectInit, Cond.code objectInit ⟨#[0xb1]⟩ 1 none, Cond.classLink RX1 9 RX4, Cond.instantiable RX4 2, Cond.initialized RX4, Cond.fieldLink RX1 12 "PolicyWorks$Chooser" "best" "LPolicyWorks$Gain;", Cond.fieldLink RX1 18 "PolicyWorks$Chooser" "rival" "LPolicyWorks$Gain;", Cond.classLink RX1 21 RX8, Cond.instantiable RX8 3, Cond.initialized RX8, Cond.fieldLink RX1 26 "PolicyWorks$Chooser" "gap" "LPolicyWorks$Whole;", Cond.methodLink RX1 11 yX4_init, Cond.instanceMethod yX4_init, Cond.code yX4_init cX4_init 1 none, Cond.methodLink RX4 3 objectInit, Cond.classLink RX4 9 RX8, Cond.fieldLink RX4 14 "PolicyWorks$Gain" "above" "LPolicyWorks$Whole;", Cond.fieldLink RX4 20 "PolicyWorks$Gain" "scale" "I", Cond.methodLink RX4 11 yX8_init, Cond.instanceMethod yX8_init, Cond.code yX8_init cX8_init 2 none, Cond.methodLink RX8 1 objectInit, Cond.arrayClass .long]
def wsX1_init_r2 : List Cond := [Cond.fieldLink RX8 7 "PolicyWorks$Whole" "limbs" "[J", Cond.fieldLink RX8 13 "PolicyWorks$Whole" "size" "I", Cond.fieldLink RX8 17 "PolicyWorks$Whole" "sign" "I", Cond.methodLink RX1 23 yX8_init]
def wsX1_init : List Cond := .code yX1_init cX1_init 1 none :: ((wsX1_init_r1 ++ wsX1_init_r2) ++ wsX40 ++ wsX10 ++ wsX80)
def wsX6_find : List Cond := .code yX6_find cX6_find 3 (some (.object "PolicyWorks$Action")) :: ([.fieldLink RX6 17 "PolicyWorks$Model" "actions" "[LPolicyWorks$Action;"] ++ wsX60)
def wsJ7_fill_d0a16 : List Cond := .code yJ7_fill_d0a16 cJ7_fill_d0a16 5 none :: ([])
def wsX8_clear : List Cond := .code yX8_clear cX8_clear 1 none :: ([.fieldLink RX8 7 "PolicyWorks$Whole" "limbs" "[J", .fieldLink RX8 13 "PolicyWorks$Whole" "size" "I", .fieldLink RX8 17 "PolicyWorks$Whole" "sign" "I", .methodLink RX8 20 yJ7_fill_d0a16, .static yJ7_fill_d0a16, .initialized RJ7, .code yJ7_fill_d0a16 cJ7_fill_d0a16 5 none] ++ wsX80)
def wsX8_add : List Cond := .code yX8_add cX8_add 6 none :: ([.fieldLink RX8 13 "PolicyWorks$Whole" "size" "I", .fieldLink RX8 7 "PolicyWorks$Whole" "limbs" "[J", .methodLink RX8 32 Lib.Math.min.name, .static Lib.Math.min.name, .initialized "java/lang/Math", .code Lib.Math.min.name Lib.Math.min.code 2 (some .int)] ++ wsX80)
def wsJ9_floorDiv_f86c9 : List Cond := .code yJ9_floorDiv_f86c9 cJ9_floorDiv_f86c9 6 (some .long) :: ([])
def wsX8_turnNegative : List Cond := .code yX8_turnNegative cX8_turnNegative 3 none :: ([.fieldLink RX8 7 "PolicyWorks$Whole" "limbs" "[J", .constantLong RX8 56 (999999), .constantLong RX8 44 (1000000)] ++ wsX80)
def wsX8_measure : List Cond := .code yX8_measure cX8_measure 1 none :: ([.fieldLink RX8 7 "PolicyWorks$Whole" "limbs" "[J", .fieldLink RX8 13 "PolicyWorks$Whole" "size" "I", .fieldLink RX8 17 "PolicyWorks$Whole" "sign" "I"] ++ wsX80)
def wsX8_settle : List Cond := .code yX8_settle cX8_settle 6 none :: ([.fieldLink RX8 7 "PolicyWorks$Whole" "limbs" "[J", .constantLong RX8 44 (1000000), .methodLink RX8 46 yJ9_floorDiv_f86c9, .static yJ9_floorDiv_f86c9, .initialized RJ9, .code yJ9_floorDiv_f86c9 cJ9_floorDiv_f86c9 6 (some .long), .methodLink RX8 50 yX8_turnNegative, .instanceMethod yX8_turnNegative, .selects RX8 yX8_turnNegative yX8_turnNegative, .initialized RX8, .code yX8_turnNegative cX8_turnNegative 3 none, .constantLong RX8 56 (999999), .methodLink RX8 53 yX8_measure, .instanceMethod yX8_measure, .selects RX8 yX8_measure yX8_measure, .code yX8_measure cX8_measure 1 none, .fieldLink RX8 13 "PolicyWorks$Whole" "size" "I", .fieldLink RX8 17 "PolicyWorks$Whole" "sign" "I"] ++ wsX80)
def wsX4_weigh_r1 : List Cond := [Cond.fieldLink RX4 24 "PolicyWorks$Action" "below" "I", Cond.fieldLink RX4 29 "PolicyWorks$Model" "discountBelow" "I", Cond.fieldLink RX4 34 "PolicyWorks$Action" "total" "I", Cond.fieldLink RX4 20 "PolicyWorks$Gain" "scale" "I", Cond.fieldLink RX4 14 "PolicyWorks$Gain" "above" "LPolicyWorks$Whole;", Cond.fieldLink RX4 40 "PolicyWorks$Row" "below" "LPolicyWorks$Whole;", Cond.fieldLink RX4 44 "PolicyWorks$Action" "above" "I", Cond.fieldLink RX4 50 "PolicyWorks$Model" "states" "I", Cond.fieldLink RX4 53 "PolicyWorks$Row" "above" "[LPolicyWorks$Whole;", Cond.fieldLink RX4 56 "PolicyWorks$Model" "discountAbove" "I", Cond.fieldLink RX4 59 "PolicyWorks$Action" "weights" "[I", Cond.methodLink RX4 37 yX8_clear, Cond.instanceMethod yX8_clear, Cond.selects RX8 yX8_clear yX8_clear, Cond.initialized RX8, Cond.code yX8_clear cX8_clear 1 none, Cond.fieldLink RX8 7 "PolicyWorks$Whole" "limbs" "[J", Cond.fieldLink RX8 13 "PolicyWorks$Whole" "size" "I", Cond.fieldLink RX8 17 "PolicyWorks$Whole" "sign" "I", Cond.methodLink RX8 20 yJ7_fill_d0a16, Cond.static yJ7_fill_d0a16, Cond.initialized RJ7, Cond.code yJ7_fill_d0a16 cJ7_fill_d0a16 5 none, Cond.methodLink RX4 46 yX8_add]
def wsX4_weigh_r2 : List Cond := [Cond.instanceMethod yX8_add, Cond.selects RX8 yX8_add yX8_add, Cond.code yX8_add cX8_add 6 none, Cond.methodLink RX8 32 Lib.Math.min.name, Cond.static Lib.Math.min.name, Cond.initialized "java/lang/Math", Cond.code Lib.Math.min.name Lib.Math.min.code 2 (some .int), Cond.methodLink RX4 63 yX8_settle, Cond.instanceMethod yX8_settle, Cond.selects RX8 yX8_settle yX8_settle, Cond.code yX8_settle cX8_settle 6 none, Cond.constantLong RX8 44 (1000000), Cond.methodLink RX8 46 yJ9_floorDiv_f86c9, Cond.static yJ9_floorDiv_f86c9, Cond.initialized RJ9, Cond.code yJ9_floorDiv_f86c9 cJ9_floorDiv_f86c9 6 (some .long), Cond.methodLink RX8 50 yX8_turnNegative, Cond.instanceMethod yX8_turnNegative, Cond.selects RX8 yX8_turnNegative yX8_turnNegative, Cond.code yX8_turnNegative cX8_turnNegative 3 none, Cond.constantLong RX8 56 (999999), Cond.methodLink RX8 53 yX8_measure, Cond.instanceMethod yX8_measure, Cond.selects RX8 yX8_measure yX8_measure]
def wsX4_weigh_r3 : List Cond := [Cond.code yX8_measure cX8_measure 1 none]
def wsX4_weigh : List Cond := .code yX4_weigh cX4_weigh 5 none :: ((wsX4_weigh_r1 ++ (wsX4_weigh_r2 ++ wsX4_weigh_r3)) ++ wsX00 ++ wsX60 ++ wsX40 ++ wsX70 ++ wsX80)
def wsX1_rivalIsMore_r1 : List Cond := [Cond.fieldLink RX1 26 "PolicyWorks$Chooser" "gap" "LPolicyWorks$Whole;", Cond.fieldLink RX1 18 "PolicyWorks$Chooser" "rival" "LPolicyWorks$Gain;", Cond.fieldLink RX1 51 "PolicyWorks$Gain" "above" "LPolicyWorks$Whole;", Cond.fieldLink RX1 12 "PolicyWorks$Chooser" "best" "LPolicyWorks$Gain;", Cond.fieldLink RX1 54 "PolicyWorks$Gain" "scale" "I", Cond.fieldLink RX1 65 "PolicyWorks$Whole" "sign" "I", Cond.methodLink RX1 48 yX8_clear, Cond.instanceMethod yX8_clear, Cond.selects RX8 yX8_clear yX8_clear, Cond.initialized RX8, Cond.code yX8_clear cX8_clear 1 none, Cond.fieldLink RX8 7 "PolicyWorks$Whole" "limbs" "[J", Cond.fieldLink RX8 13 "PolicyWorks$Whole" "size" "I", Cond.fieldLink RX8 17 "PolicyWorks$Whole" "sign" "I", Cond.methodLink RX8 20 yJ7_fill_d0a16, Cond.static yJ7_fill_d0a16, Cond.initialized RJ7, Cond.code yJ7_fill_d0a16 cJ7_fill_d0a16 5 none, Cond.methodLink RX1 58 yX8_add, Cond.instanceMethod yX8_add, Cond.selects RX8 yX8_add yX8_add, Cond.code yX8_add cX8_add 6 none, Cond.methodLink RX8 32 Lib.Math.min.name, Cond.static Lib.Math.min.name]
def wsX1_rivalIsMore_r2 : List Cond := [Cond.initialized "java/lang/Math", Cond.code Lib.Math.min.name Lib.Math.min.code 2 (some .int), Cond.methodLink RX1 62 yX8_settle, Cond.instanceMethod yX8_settle, Cond.selects RX8 yX8_settle yX8_settle, Cond.code yX8_settle cX8_settle 6 none, Cond.constantLong RX8 44 (1000000), Cond.methodLink RX8 46 yJ9_floorDiv_f86c9, Cond.static yJ9_floorDiv_f86c9, Cond.initialized RJ9, Cond.code yJ9_floorDiv_f86c9 cJ9_floorDiv_f86c9 6 (some .long), Cond.methodLink RX8 50 yX8_turnNegative, Cond.instanceMethod yX8_turnNegative, Cond.selects RX8 yX8_turnNegative yX8_turnNegative, Cond.code yX8_turnNegative cX8_turnNegative 3 none, Cond.constantLong RX8 56 (999999), Cond.methodLink RX8 53 yX8_measure, Cond.instanceMethod yX8_measure, Cond.selects RX8 yX8_measure yX8_measure, Cond.code yX8_measure cX8_measure 1 none]
def wsX1_rivalIsMore : List Cond := .code yX1_rivalIsMore cX1_rivalIsMore 1 (some .boolean) :: ((wsX1_rivalIsMore_r1 ++ wsX1_rivalIsMore_r2) ++ wsX10 ++ wsX40 ++ wsX80)
def wsX1_greatest_r1 : List Cond := [Cond.fieldLink RX1 12 "PolicyWorks$Chooser" "best" "LPolicyWorks$Gain;", Cond.fieldLink RX1 40 "PolicyWorks$Model" "actionCounts" "[I", Cond.fieldLink RX1 18 "PolicyWorks$Chooser" "rival" "LPolicyWorks$Gain;", Cond.methodLink RX1 30 yX6_find, Cond.instanceMethod yX6_find, Cond.selects RX6 yX6_find yX6_find, Cond.initialized RX6, Cond.code yX6_find cX6_find 3 (some (.object "PolicyWorks$Action")), Cond.fieldLink RX6 17 "PolicyWorks$Model" "actions" "[LPolicyWorks$Action;", Cond.methodLink RX1 36 yX4_weigh, Cond.instanceMethod yX4_weigh, Cond.selects RX4 yX4_weigh yX4_weigh, Cond.initialized RX4, Cond.code yX4_weigh cX4_weigh 5 none, Cond.fieldLink RX4 24 "PolicyWorks$Action" "below" "I", Cond.fieldLink RX4 29 "PolicyWorks$Model" "discountBelow" "I", Cond.fieldLink RX4 34 "PolicyWorks$Action" "total" "I", Cond.fieldLink RX4 20 "PolicyWorks$Gain" "scale" "I", Cond.fieldLink RX4 14 "PolicyWorks$Gain" "above" "LPolicyWorks$Whole;", Cond.fieldLink RX4 40 "PolicyWorks$Row" "below" "LPolicyWorks$Whole;", Cond.fieldLink RX4 44 "PolicyWorks$Action" "above" "I", Cond.fieldLink RX4 50 "PolicyWorks$Model" "states" "I", Cond.fieldLink RX4 53 "PolicyWorks$Row" "above" "[LPolicyWorks$Whole;", Cond.fieldLink RX4 56 "PolicyWorks$Model" "discountAbove" "I"]
def wsX1_greatest_r2 : List Cond := [Cond.fieldLink RX4 59 "PolicyWorks$Action" "weights" "[I", Cond.methodLink RX4 37 yX8_clear, Cond.instanceMethod yX8_clear, Cond.selects RX8 yX8_clear yX8_clear, Cond.initialized RX8, Cond.code yX8_clear cX8_clear 1 none, Cond.fieldLink RX8 7 "PolicyWorks$Whole" "limbs" "[J", Cond.fieldLink RX8 13 "PolicyWorks$Whole" "size" "I", Cond.fieldLink RX8 17 "PolicyWorks$Whole" "sign" "I", Cond.methodLink RX8 20 yJ7_fill_d0a16, Cond.static yJ7_fill_d0a16, Cond.initialized RJ7, Cond.code yJ7_fill_d0a16 cJ7_fill_d0a16 5 none, Cond.methodLink RX4 46 yX8_add, Cond.instanceMethod yX8_add, Cond.selects RX8 yX8_add yX8_add, Cond.code yX8_add cX8_add 6 none, Cond.methodLink RX8 32 Lib.Math.min.name, Cond.static Lib.Math.min.name, Cond.initialized "java/lang/Math", Cond.code Lib.Math.min.name Lib.Math.min.code 2 (some .int), Cond.methodLink RX4 63 yX8_settle, Cond.instanceMethod yX8_settle, Cond.selects RX8 yX8_settle yX8_settle]
def wsX1_greatest_r3 : List Cond := [Cond.code yX8_settle cX8_settle 6 none, Cond.constantLong RX8 44 (1000000), Cond.methodLink RX8 46 yJ9_floorDiv_f86c9, Cond.static yJ9_floorDiv_f86c9, Cond.initialized RJ9, Cond.code yJ9_floorDiv_f86c9 cJ9_floorDiv_f86c9 6 (some .long), Cond.methodLink RX8 50 yX8_turnNegative, Cond.instanceMethod yX8_turnNegative, Cond.selects RX8 yX8_turnNegative yX8_turnNegative, Cond.code yX8_turnNegative cX8_turnNegative 3 none, Cond.constantLong RX8 56 (999999), Cond.methodLink RX8 53 yX8_measure, Cond.instanceMethod yX8_measure, Cond.selects RX8 yX8_measure yX8_measure, Cond.code yX8_measure cX8_measure 1 none, Cond.methodLink RX1 44 yX1_rivalIsMore, Cond.instanceMethod yX1_rivalIsMore, Cond.selects RX1 yX1_rivalIsMore yX1_rivalIsMore, Cond.initialized RX1, Cond.code yX1_rivalIsMore cX1_rivalIsMore 1 (some .boolean), Cond.fieldLink RX1 26 "PolicyWorks$Chooser" "gap" "LPolicyWorks$Whole;", Cond.fieldLink RX1 51 "PolicyWorks$Gain" "above" "LPolicyWorks$Whole;", Cond.fieldLink RX1 54 "PolicyWorks$Gain" "scale" "I", Cond.fieldLink RX1 65 "PolicyWorks$Whole" "sign" "I"]
def wsX1_greatest_r4 : List Cond := [Cond.methodLink RX1 48 yX8_clear, Cond.methodLink RX1 58 yX8_add, Cond.methodLink RX1 62 yX8_settle]
def wsX1_greatest : List Cond := .code yX1_greatest cX1_greatest 8 (some .int) :: ((wsX1_greatest_r1 ++ (wsX1_greatest_r2 ++ (wsX1_greatest_r3 ++ wsX1_greatest_r4))) ++ wsX10 ++ wsX60 ++ wsX00 ++ wsX40 ++ wsX70 ++ wsX80)
def wsX2_init : List Cond := .code yX2_init cX2_init 2 none :: ([.methodLink RX2 3 objectInit, .instanceMethod objectInit, .code objectInit ⟨#[0xb1]⟩ 1 none, .classLink RX2 9 "[[I", .arrayClass .int, .fieldLink RX2 11 "PolicyWorks$Equations" "rows" "[[I", .classLink RX2 16 RX8, .fieldLink RX2 18 "PolicyWorks$Equations" "minors" "[LPolicyWorks$Whole;", .instantiable RX8 3, .initialized RX8, .methodLink RX2 22 yX8_init, .instanceMethod yX8_init, .code yX8_init cX8_init 2 none, .methodLink RX8 1 objectInit, .arrayClass .long, .fieldLink RX8 7 "PolicyWorks$Whole" "limbs" "[J", .fieldLink RX8 13 "PolicyWorks$Whole" "size" "I", .fieldLink RX8 17 "PolicyWorks$Whole" "sign" "I"] ++ wsX20 ++ wsX80)
def wsX2_writeRow : List Cond := .code yX2_writeRow cX2_writeRow 6 none :: ([.fieldLink RX2 11 "PolicyWorks$Equations" "rows" "[[I", .fieldLink RX2 25 "PolicyWorks$Model" "states" "I", .fieldLink RX2 65 "PolicyWorks$Action" "below" "I", .fieldLink RX2 69 "PolicyWorks$Model" "discountAbove" "I", .fieldLink RX2 72 "PolicyWorks$Action" "weights" "[I", .fieldLink RX2 76 "PolicyWorks$Model" "discountBelow" "I", .fieldLink RX2 79 "PolicyWorks$Action" "total" "I", .fieldLink RX2 82 "PolicyWorks$Action" "above" "I"] ++ wsX20 ++ wsX60 ++ wsX00)
def wsX8_put_r1 : List Cond := [Cond.fieldLink RX8 7 "PolicyWorks$Whole" "limbs" "[J", Cond.methodLink RX8 26 yX8_clear, Cond.instanceMethod yX8_clear, Cond.selects RX8 yX8_clear yX8_clear, Cond.initialized RX8, Cond.code yX8_clear cX8_clear 1 none, Cond.fieldLink RX8 13 "PolicyWorks$Whole" "size" "I", Cond.fieldLink RX8 17 "PolicyWorks$Whole" "sign" "I", Cond.methodLink RX8 20 yJ7_fill_d0a16, Cond.static yJ7_fill_d0a16, Cond.initialized RJ7, Cond.code yJ7_fill_d0a16 cJ7_fill_d0a16 5 none, Cond.methodLink RX8 29 yX8_settle, Cond.instanceMethod yX8_settle, Cond.selects RX8 yX8_settle yX8_settle, Cond.code yX8_settle cX8_settle 6 none, Cond.constantLong RX8 44 (1000000), Cond.methodLink RX8 46 yJ9_floorDiv_f86c9, Cond.static yJ9_floorDiv_f86c9, Cond.initialized RJ9, Cond.code yJ9_floorDiv_f86c9 cJ9_floorDiv_f86c9 6 (some .long), Cond.methodLink RX8 50 yX8_turnNegative, Cond.instanceMethod yX8_turnNegative, Cond.selects RX8 yX8_turnNegative yX8_turnNegative]
def wsX8_put_r2 : List Cond := [Cond.code yX8_turnNegative cX8_turnNegative 3 none, Cond.constantLong RX8 56 (999999), Cond.methodLink RX8 53 yX8_measure, Cond.instanceMethod yX8_measure, Cond.selects RX8 yX8_measure yX8_measure, Cond.code yX8_measure cX8_measure 1 none]
def wsX8_put : List Cond := .code yX8_put cX8_put 3 none :: ((wsX8_put_r1 ++ wsX8_put_r2) ++ wsX80)
def wsJ6_bitCount_0f7a4 : List Cond := .code yJ6_bitCount_0f7a4 cJ6_bitCount_0f7a4 1 (some .int) :: ([.constant RJ6 265 (1431655765), .constant RJ6 266 (858993459), .constant RJ6 267 (252645135)])
def wsX2_expand_r1 : List Cond := [Cond.fieldLink RX2 11 "PolicyWorks$Equations" "rows" "[[I", Cond.fieldLink RX2 18 "PolicyWorks$Equations" "minors" "[LPolicyWorks$Whole;", Cond.methodLink RX2 84 yJ6_bitCount_0f7a4, Cond.static yJ6_bitCount_0f7a4, Cond.initialized RJ6, Cond.code yJ6_bitCount_0f7a4 cJ6_bitCount_0f7a4 1 (some .int), Cond.constant RJ6 265 (1431655765), Cond.constant RJ6 266 (858993459), Cond.constant RJ6 267 (252645135), Cond.methodLink RX2 90 yX8_clear, Cond.instanceMethod yX8_clear, Cond.selects RX8 yX8_clear yX8_clear, Cond.initialized RX8, Cond.code yX8_clear cX8_clear 1 none, Cond.fieldLink RX8 7 "PolicyWorks$Whole" "limbs" "[J", Cond.fieldLink RX8 13 "PolicyWorks$Whole" "size" "I", Cond.fieldLink RX8 17 "PolicyWorks$Whole" "sign" "I", Cond.methodLink RX8 20 yJ7_fill_d0a16, Cond.static yJ7_fill_d0a16, Cond.initialized RJ7, Cond.code yJ7_fill_d0a16 cJ7_fill_d0a16 5 none, Cond.methodLink RX2 93 yX8_add, Cond.instanceMethod yX8_add, Cond.selects RX8 yX8_add yX8_add]
def wsX2_expand_r2 : List Cond := [Cond.code yX8_add cX8_add 6 none, Cond.methodLink RX8 32 Lib.Math.min.name, Cond.static Lib.Math.min.name, Cond.initialized "java/lang/Math", Cond.code Lib.Math.min.name Lib.Math.min.code 2 (some .int), Cond.methodLink RX2 97 yX8_settle, Cond.instanceMethod yX8_settle, Cond.selects RX8 yX8_settle yX8_settle, Cond.code yX8_settle cX8_settle 6 none, Cond.constantLong RX8 44 (1000000), Cond.methodLink RX8 46 yJ9_floorDiv_f86c9, Cond.static yJ9_floorDiv_f86c9, Cond.initialized RJ9, Cond.code yJ9_floorDiv_f86c9 cJ9_floorDiv_f86c9 6 (some .long), Cond.methodLink RX8 50 yX8_turnNegative, Cond.instanceMethod yX8_turnNegative, Cond.selects RX8 yX8_turnNegative yX8_turnNegative, Cond.code yX8_turnNegative cX8_turnNegative 3 none, Cond.constantLong RX8 56 (999999), Cond.methodLink RX8 53 yX8_measure, Cond.instanceMethod yX8_measure, Cond.selects RX8 yX8_measure yX8_measure, Cond.code yX8_measure cX8_measure 1 none]
def wsX2_expand : List Cond := .code yX2_expand cX2_expand 7 none :: ((wsX2_expand_r1 ++ wsX2_expand_r2) ++ wsX20 ++ wsX80)
def wsX8_copy : List Cond := .code yX8_copy cX8_copy 2 none :: ([.fieldLink RX8 13 "PolicyWorks$Whole" "size" "I", .fieldLink RX8 7 "PolicyWorks$Whole" "limbs" "[J", .methodLink RX8 32 Lib.Math.min.name, .static Lib.Math.min.name, .initialized "java/lang/Math", .code Lib.Math.min.name Lib.Math.min.code 2 (some .int), .methodLink RX8 38 arraycopyName, .native arraycopyName, .static arraycopyName, .initialized "java/lang/System", .fieldLink RX8 17 "PolicyWorks$Whole" "sign" "I", .methodLink RX8 26 yX8_clear, .instanceMethod yX8_clear, .selects RX8 yX8_clear yX8_clear, .initialized RX8, .code yX8_clear cX8_clear 1 none, .methodLink RX8 20 yJ7_fill_d0a16, .static yJ7_fill_d0a16, .initialized RJ7, .code yJ7_fill_d0a16 cJ7_fill_d0a16 5 none] ++ wsX80)
def wsX8_multiply : List Cond := .code yX8_multiply cX8_multiply 4 none :: ([.fieldLink RX8 13 "PolicyWorks$Whole" "size" "I", .fieldLink RX8 7 "PolicyWorks$Whole" "limbs" "[J", .methodLink RX8 29 yX8_settle, .instanceMethod yX8_settle, .selects RX8 yX8_settle yX8_settle, .initialized RX8, .code yX8_settle cX8_settle 6 none, .constantLong RX8 44 (1000000), .methodLink RX8 46 yJ9_floorDiv_f86c9, .static yJ9_floorDiv_f86c9, .initialized RJ9, .code yJ9_floorDiv_f86c9 cJ9_floorDiv_f86c9 6 (some .long), .methodLink RX8 50 yX8_turnNegative, .instanceMethod yX8_turnNegative, .selects RX8 yX8_turnNegative yX8_turnNegative, .code yX8_turnNegative cX8_turnNegative 3 none, .constantLong RX8 56 (999999), .methodLink RX8 53 yX8_measure, .instanceMethod yX8_measure, .selects RX8 yX8_measure yX8_measure, .code yX8_measure cX8_measure 1 none, .fieldLink RX8 17 "PolicyWorks$Whole" "sign" "I"] ++ wsX80)
def wsX2_findValues_r1 : List Cond := [Cond.fieldLink RX2 25 "PolicyWorks$Model" "states" "I", Cond.fieldLink RX2 18 "PolicyWorks$Equations" "minors" "[LPolicyWorks$Whole;", Cond.fieldLink RX2 47 "PolicyWorks$Row" "below" "LPolicyWorks$Whole;", Cond.fieldLink RX2 57 "PolicyWorks$Row" "above" "[LPolicyWorks$Whole;", Cond.constantLong RX2 60 (-1), Cond.methodLink RX2 31 yX6_find, Cond.instanceMethod yX6_find, Cond.selects RX6 yX6_find yX6_find, Cond.initialized RX6, Cond.code yX6_find cX6_find 3 (some (.object "PolicyWorks$Action")), Cond.fieldLink RX6 17 "PolicyWorks$Model" "actions" "[LPolicyWorks$Action;", Cond.methodLink RX2 35 yX2_writeRow, Cond.instanceMethod yX2_writeRow, Cond.selects RX2 yX2_writeRow yX2_writeRow, Cond.initialized RX2, Cond.code yX2_writeRow cX2_writeRow 6 none, Cond.fieldLink RX2 11 "PolicyWorks$Equations" "rows" "[[I", Cond.fieldLink RX2 65 "PolicyWorks$Action" "below" "I", Cond.fieldLink RX2 69 "PolicyWorks$Model" "discountAbove" "I", Cond.fieldLink RX2 72 "PolicyWorks$Action" "weights" "[I", Cond.fieldLink RX2 76 "PolicyWorks$Model" "discountBelow" "I", Cond.fieldLink RX2 79 "PolicyWorks$Action" "total" "I", Cond.fieldLink RX2 82 "PolicyWorks$Action" "above" "I", Cond.methodLink RX2 39 yX8_put]
def wsX2_findValues_r2 : List Cond := [Cond.instanceMethod yX8_put, Cond.selects RX8 yX8_put yX8_put, Cond.initialized RX8, Cond.code yX8_put cX8_put 3 none, Cond.fieldLink RX8 7 "PolicyWorks$Whole" "limbs" "[J", Cond.methodLink RX8 26 yX8_clear, Cond.instanceMethod yX8_clear, Cond.selects RX8 yX8_clear yX8_clear, Cond.code yX8_clear cX8_clear 1 none, Cond.fieldLink RX8 13 "PolicyWorks$Whole" "size" "I", Cond.fieldLink RX8 17 "PolicyWorks$Whole" "sign" "I", Cond.methodLink RX8 20 yJ7_fill_d0a16, Cond.static yJ7_fill_d0a16, Cond.initialized RJ7, Cond.code yJ7_fill_d0a16 cJ7_fill_d0a16 5 none, Cond.methodLink RX8 29 yX8_settle, Cond.instanceMethod yX8_settle, Cond.selects RX8 yX8_settle yX8_settle, Cond.code yX8_settle cX8_settle 6 none, Cond.constantLong RX8 44 (1000000), Cond.methodLink RX8 46 yJ9_floorDiv_f86c9, Cond.static yJ9_floorDiv_f86c9, Cond.initialized RJ9, Cond.code yJ9_floorDiv_f86c9 cJ9_floorDiv_f86c9 6 (some .long)]
def wsX2_findValues_r3 : List Cond := [Cond.methodLink RX8 50 yX8_turnNegative, Cond.instanceMethod yX8_turnNegative, Cond.selects RX8 yX8_turnNegative yX8_turnNegative, Cond.code yX8_turnNegative cX8_turnNegative 3 none, Cond.constantLong RX8 56 (999999), Cond.methodLink RX8 53 yX8_measure, Cond.instanceMethod yX8_measure, Cond.selects RX8 yX8_measure yX8_measure, Cond.code yX8_measure cX8_measure 1 none, Cond.methodLink RX2 43 yX2_expand, Cond.instanceMethod yX2_expand, Cond.selects RX2 yX2_expand yX2_expand, Cond.code yX2_expand cX2_expand 7 none, Cond.methodLink RX2 84 yJ6_bitCount_0f7a4, Cond.static yJ6_bitCount_0f7a4, Cond.initialized RJ6, Cond.code yJ6_bitCount_0f7a4 cJ6_bitCount_0f7a4 1 (some .int), Cond.constant RJ6 265 (1431655765), Cond.constant RJ6 266 (858993459), Cond.constant RJ6 267 (252645135), Cond.methodLink RX2 90 yX8_clear, Cond.methodLink RX2 93 yX8_add, Cond.instanceMethod yX8_add, Cond.selects RX8 yX8_add yX8_add]
def wsX2_findValues_r4 : List Cond := [Cond.code yX8_add cX8_add 6 none, Cond.methodLink RX8 32 Lib.Math.min.name, Cond.static Lib.Math.min.name, Cond.initialized "java/lang/Math", Cond.code Lib.Math.min.name Lib.Math.min.code 2 (some .int), Cond.methodLink RX2 97 yX8_settle, Cond.methodLink RX2 53 yX8_copy, Cond.instanceMethod yX8_copy, Cond.selects RX8 yX8_copy yX8_copy, Cond.code yX8_copy cX8_copy 2 none, Cond.methodLink RX8 38 arraycopyName, Cond.native arraycopyName, Cond.static arraycopyName, Cond.initialized "java/lang/System", Cond.methodLink RX2 62 yX8_multiply, Cond.instanceMethod yX8_multiply, Cond.selects RX8 yX8_multiply yX8_multiply, Cond.code yX8_multiply cX8_multiply 4 none]
def wsX2_findValues : List Cond := .code yX2_findValues cX2_findValues 8 none :: ((wsX2_findValues_r1 ++ (wsX2_findValues_r2 ++ (wsX2_findValues_r3 ++ wsX2_findValues_r4))) ++ wsX60 ++ wsX20 ++ wsX70 ++ wsX00 ++ wsX80)
def wsX3_init : List Cond := .code yX3_init cX3_init 1 none :: ([.methodLink RX3 3 objectInit, .instanceMethod objectInit, .code objectInit ⟨#[0xb1]⟩ 1 none, .classLink RX3 9 RX8, .instantiable RX8 3, .initialized RX8, .fieldLink RX3 14 "PolicyWorks$Fraction" "above" "LPolicyWorks$Whole;", .fieldLink RX3 20 "PolicyWorks$Fraction" "below" "LPolicyWorks$Whole;", .fieldLink RX3 23 "PolicyWorks$Fraction" "one" "LPolicyWorks$Whole;", .fieldLink RX3 26 "PolicyWorks$Fraction" "other" "LPolicyWorks$Whole;", .fieldLink RX3 29 "PolicyWorks$Fraction" "quotient" "LPolicyWorks$Whole;", .methodLink RX3 11 yX8_init, .instanceMethod yX8_init, .code yX8_init cX8_init 2 none, .methodLink RX8 1 objectInit, .arrayClass .long, .fieldLink RX8 7 "PolicyWorks$Whole" "limbs" "[J", .fieldLink RX8 13 "PolicyWorks$Whole" "size" "I", .fieldLink RX8 17 "PolicyWorks$Whole" "sign" "I"] ++ wsX80 ++ wsX30)
def wsX8_dropSign : List Cond := .code yX8_dropSign cX8_dropSign 2 none :: ([.fieldLink RX8 17 "PolicyWorks$Whole" "sign" "I", .fieldLink RX8 13 "PolicyWorks$Whole" "size" "I", .fieldLink RX8 7 "PolicyWorks$Whole" "limbs" "[J"] ++ wsX80)
def wsX8_reaches : List Cond := .code yX8_reaches cX8_reaches 4 (some .boolean) :: ([.fieldLink RX8 13 "PolicyWorks$Whole" "size" "I", .fieldLink RX8 7 "PolicyWorks$Whole" "limbs" "[J"] ++ wsX80)
def wsX8_limbAt : List Cond := .code yX8_limbAt cX8_limbAt 2 (some .long) :: ([.fieldLink RX8 13 "PolicyWorks$Whole" "size" "I", .fieldLink RX8 7 "PolicyWorks$Whole" "limbs" "[J"] ++ wsX80)
def wsX8_guess : List Cond := .code yX8_guess cX8_guess 8 (some .long) :: ([.fieldLink RX8 13 "PolicyWorks$Whole" "size" "I", .constantLong RX8 44 (1000000), .methodLink RX8 61 yX8_limbAt, .instanceMethod yX8_limbAt, .selects RX8 yX8_limbAt yX8_limbAt, .initialized RX8, .code yX8_limbAt cX8_limbAt 2 (some .long), .fieldLink RX8 7 "PolicyWorks$Whole" "limbs" "[J"] ++ wsX80)
def wsX8_takeAway : List Cond := .code yX8_takeAway cX8_takeAway 10 none :: ([.fieldLink RX8 13 "PolicyWorks$Whole" "size" "I", .fieldLink RX8 7 "PolicyWorks$Whole" "limbs" "[J", .constantLong RX8 44 (1000000), .methodLink RX8 61 yX8_limbAt, .instanceMethod yX8_limbAt, .selects RX8 yX8_limbAt yX8_limbAt, .initialized RX8, .code yX8_limbAt cX8_limbAt 2 (some .long), .methodLink RX8 46 yJ9_floorDiv_f86c9, .static yJ9_floorDiv_f86c9, .initialized RJ9, .code yJ9_floorDiv_f86c9 cJ9_floorDiv_f86c9 6 (some .long), .methodLink RX8 53 yX8_measure, .instanceMethod yX8_measure, .selects RX8 yX8_measure yX8_measure, .code yX8_measure cX8_measure 1 none, .fieldLink RX8 17 "PolicyWorks$Whole" "sign" "I"] ++ wsX80)
def wsX8_divide_r1 : List Cond := [Cond.fieldLink RX8 13 "PolicyWorks$Whole" "size" "I", Cond.methodLink RX8 73 Lib.MathLoose.max_long.x, Cond.static Lib.MathLoose.max_long.x, Cond.initialized "java/lang/Math", Cond.code Lib.MathLoose.max_long.x Lib.MathLoose.max_long.code 4 (some .long), Cond.fieldLink RX8 7 "PolicyWorks$Whole" "limbs" "[J", Cond.methodLink RX8 26 yX8_clear, Cond.instanceMethod yX8_clear, Cond.selects RX8 yX8_clear yX8_clear, Cond.initialized RX8, Cond.code yX8_clear cX8_clear 1 none, Cond.fieldLink RX8 17 "PolicyWorks$Whole" "sign" "I", Cond.methodLink RX8 20 yJ7_fill_d0a16, Cond.static yJ7_fill_d0a16, Cond.initialized RJ7, Cond.code yJ7_fill_d0a16 cJ7_fill_d0a16 5 none, Cond.methodLink RX8 65 yX8_reaches, Cond.instanceMethod yX8_reaches, Cond.selects RX8 yX8_reaches yX8_reaches, Cond.code yX8_reaches cX8_reaches 4 (some .boolean), Cond.methodLink RX8 69 yX8_guess, Cond.instanceMethod yX8_guess, Cond.selects RX8 yX8_guess yX8_guess, Cond.code yX8_guess cX8_guess 8 (some .long)]
def wsX8_divide_r2 : List Cond := [Cond.constantLong RX8 44 (1000000), Cond.methodLink RX8 61 yX8_limbAt, Cond.instanceMethod yX8_limbAt, Cond.selects RX8 yX8_limbAt yX8_limbAt, Cond.code yX8_limbAt cX8_limbAt 2 (some .long), Cond.methodLink RX8 75 yX8_takeAway, Cond.instanceMethod yX8_takeAway, Cond.selects RX8 yX8_takeAway yX8_takeAway, Cond.code yX8_takeAway cX8_takeAway 10 none, Cond.methodLink RX8 46 yJ9_floorDiv_f86c9, Cond.static yJ9_floorDiv_f86c9, Cond.initialized RJ9, Cond.code yJ9_floorDiv_f86c9 cJ9_floorDiv_f86c9 6 (some .long), Cond.methodLink RX8 53 yX8_measure, Cond.instanceMethod yX8_measure, Cond.selects RX8 yX8_measure yX8_measure, Cond.code yX8_measure cX8_measure 1 none]
def wsX8_divide : List Cond := .code yX8_divide cX8_divide 7 none :: ((wsX8_divide_r1 ++ wsX8_divide_r2) ++ wsX80)
def wsX3_commonDivisor_r1 : List Cond := [Cond.fieldLink RX3 23 "PolicyWorks$Fraction" "one" "LPolicyWorks$Whole;", Cond.fieldLink RX3 26 "PolicyWorks$Fraction" "other" "LPolicyWorks$Whole;", Cond.fieldLink RX3 14 "PolicyWorks$Fraction" "above" "LPolicyWorks$Whole;", Cond.fieldLink RX3 20 "PolicyWorks$Fraction" "below" "LPolicyWorks$Whole;", Cond.fieldLink RX3 58 "PolicyWorks$Whole" "size" "I", Cond.fieldLink RX3 29 "PolicyWorks$Fraction" "quotient" "LPolicyWorks$Whole;", Cond.methodLink RX3 54 yX8_copy, Cond.instanceMethod yX8_copy, Cond.selects RX8 yX8_copy yX8_copy, Cond.initialized RX8, Cond.code yX8_copy cX8_copy 2 none, Cond.fieldLink RX8 13 "PolicyWorks$Whole" "size" "I", Cond.fieldLink RX8 7 "PolicyWorks$Whole" "limbs" "[J", Cond.methodLink RX8 32 Lib.Math.min.name, Cond.static Lib.Math.min.name, Cond.initialized "java/lang/Math", Cond.code Lib.Math.min.name Lib.Math.min.code 2 (some .int), Cond.methodLink RX8 38 arraycopyName, Cond.native arraycopyName, Cond.static arraycopyName, Cond.initialized "java/lang/System", Cond.fieldLink RX8 17 "PolicyWorks$Whole" "sign" "I", Cond.methodLink RX8 26 yX8_clear, Cond.instanceMethod yX8_clear]
def wsX3_commonDivisor_r2 : List Cond := [Cond.selects RX8 yX8_clear yX8_clear, Cond.code yX8_clear cX8_clear 1 none, Cond.methodLink RX8 20 yJ7_fill_d0a16, Cond.static yJ7_fill_d0a16, Cond.initialized RJ7, Cond.code yJ7_fill_d0a16 cJ7_fill_d0a16 5 none, Cond.methodLink RX3 50 yX8_divide, Cond.instanceMethod yX8_divide, Cond.selects RX8 yX8_divide yX8_divide, Cond.code yX8_divide cX8_divide 7 none, Cond.methodLink RX8 73 Lib.MathLoose.max_long.x, Cond.static Lib.MathLoose.max_long.x, Cond.code Lib.MathLoose.max_long.x Lib.MathLoose.max_long.code 4 (some .long), Cond.methodLink RX8 65 yX8_reaches, Cond.instanceMethod yX8_reaches, Cond.selects RX8 yX8_reaches yX8_reaches, Cond.code yX8_reaches cX8_reaches 4 (some .boolean), Cond.methodLink RX8 69 yX8_guess, Cond.instanceMethod yX8_guess, Cond.selects RX8 yX8_guess yX8_guess, Cond.code yX8_guess cX8_guess 8 (some .long), Cond.constantLong RX8 44 (1000000), Cond.methodLink RX8 61 yX8_limbAt, Cond.instanceMethod yX8_limbAt]
def wsX3_commonDivisor_r3 : List Cond := [Cond.selects RX8 yX8_limbAt yX8_limbAt, Cond.code yX8_limbAt cX8_limbAt 2 (some .long), Cond.methodLink RX8 75 yX8_takeAway, Cond.instanceMethod yX8_takeAway, Cond.selects RX8 yX8_takeAway yX8_takeAway, Cond.code yX8_takeAway cX8_takeAway 10 none, Cond.methodLink RX8 46 yJ9_floorDiv_f86c9, Cond.static yJ9_floorDiv_f86c9, Cond.initialized RJ9, Cond.code yJ9_floorDiv_f86c9 cJ9_floorDiv_f86c9 6 (some .long), Cond.methodLink RX8 53 yX8_measure, Cond.instanceMethod yX8_measure, Cond.selects RX8 yX8_measure yX8_measure, Cond.code yX8_measure cX8_measure 1 none]
def wsX3_commonDivisor : List Cond := .code yX3_commonDivisor cX3_commonDivisor 5 (some (.object "PolicyWorks$Whole")) :: ((wsX3_commonDivisor_r1 ++ (wsX3_commonDivisor_r2 ++ wsX3_commonDivisor_r3)) ++ wsX30 ++ wsX80)
def wsX3_reduce_r1 : List Cond := [Cond.fieldLink RX3 14 "PolicyWorks$Fraction" "above" "LPolicyWorks$Whole;", Cond.fieldLink RX3 29 "PolicyWorks$Fraction" "quotient" "LPolicyWorks$Whole;", Cond.fieldLink RX3 20 "PolicyWorks$Fraction" "below" "LPolicyWorks$Whole;", Cond.methodLink RX3 43 yX8_dropSign, Cond.instanceMethod yX8_dropSign, Cond.selects RX8 yX8_dropSign yX8_dropSign, Cond.initialized RX8, Cond.code yX8_dropSign cX8_dropSign 2 none, Cond.fieldLink RX8 17 "PolicyWorks$Whole" "sign" "I", Cond.fieldLink RX8 13 "PolicyWorks$Whole" "size" "I", Cond.fieldLink RX8 7 "PolicyWorks$Whole" "limbs" "[J", Cond.methodLink RX3 46 yX3_commonDivisor, Cond.instanceMethod yX3_commonDivisor, Cond.selects RX3 yX3_commonDivisor yX3_commonDivisor, Cond.initialized RX3, Cond.code yX3_commonDivisor cX3_commonDivisor 5 (some (.object "PolicyWorks$Whole")), Cond.fieldLink RX3 23 "PolicyWorks$Fraction" "one" "LPolicyWorks$Whole;", Cond.fieldLink RX3 26 "PolicyWorks$Fraction" "other" "LPolicyWorks$Whole;", Cond.fieldLink RX3 58 "PolicyWorks$Whole" "size" "I", Cond.methodLink RX3 54 yX8_copy, Cond.instanceMethod yX8_copy, Cond.selects RX8 yX8_copy yX8_copy, Cond.code yX8_copy cX8_copy 2 none, Cond.methodLink RX8 32 Lib.Math.min.name]
def wsX3_reduce_r2 : List Cond := [Cond.static Lib.Math.min.name, Cond.initialized "java/lang/Math", Cond.code Lib.Math.min.name Lib.Math.min.code 2 (some .int), Cond.methodLink RX8 38 arraycopyName, Cond.native arraycopyName, Cond.static arraycopyName, Cond.initialized "java/lang/System", Cond.methodLink RX8 26 yX8_clear, Cond.instanceMethod yX8_clear, Cond.selects RX8 yX8_clear yX8_clear, Cond.code yX8_clear cX8_clear 1 none, Cond.methodLink RX8 20 yJ7_fill_d0a16, Cond.static yJ7_fill_d0a16, Cond.initialized RJ7, Cond.code yJ7_fill_d0a16 cJ7_fill_d0a16 5 none, Cond.methodLink RX3 50 yX8_divide, Cond.instanceMethod yX8_divide, Cond.selects RX8 yX8_divide yX8_divide, Cond.code yX8_divide cX8_divide 7 none, Cond.methodLink RX8 73 Lib.MathLoose.max_long.x, Cond.static Lib.MathLoose.max_long.x, Cond.code Lib.MathLoose.max_long.x Lib.MathLoose.max_long.code 4 (some .long), Cond.methodLink RX8 65 yX8_reaches, Cond.instanceMethod yX8_reaches]
def wsX3_reduce_r3 : List Cond := [Cond.selects RX8 yX8_reaches yX8_reaches, Cond.code yX8_reaches cX8_reaches 4 (some .boolean), Cond.methodLink RX8 69 yX8_guess, Cond.instanceMethod yX8_guess, Cond.selects RX8 yX8_guess yX8_guess, Cond.code yX8_guess cX8_guess 8 (some .long), Cond.constantLong RX8 44 (1000000), Cond.methodLink RX8 61 yX8_limbAt, Cond.instanceMethod yX8_limbAt, Cond.selects RX8 yX8_limbAt yX8_limbAt, Cond.code yX8_limbAt cX8_limbAt 2 (some .long), Cond.methodLink RX8 75 yX8_takeAway, Cond.instanceMethod yX8_takeAway, Cond.selects RX8 yX8_takeAway yX8_takeAway, Cond.code yX8_takeAway cX8_takeAway 10 none, Cond.methodLink RX8 46 yJ9_floorDiv_f86c9, Cond.static yJ9_floorDiv_f86c9, Cond.initialized RJ9, Cond.code yJ9_floorDiv_f86c9 cJ9_floorDiv_f86c9 6 (some .long), Cond.methodLink RX8 53 yX8_measure, Cond.instanceMethod yX8_measure, Cond.selects RX8 yX8_measure yX8_measure, Cond.code yX8_measure cX8_measure 1 none]
def wsX3_reduce : List Cond := .code yX3_reduce cX3_reduce 2 none :: ((wsX3_reduce_r1 ++ (wsX3_reduce_r2 ++ wsX3_reduce_r3)) ++ wsX30 ++ wsX80)
def wsX8_eighteen : List Cond := .code yX8_eighteen cX8_eighteen 5 (some .long) :: ([.fieldLink RX8 7 "PolicyWorks$Whole" "limbs" "[J", .constantLong RX8 44 (1000000), .methodLink RX8 61 yX8_limbAt, .instanceMethod yX8_limbAt, .selects RX8 yX8_limbAt yX8_limbAt, .initialized RX8, .code yX8_limbAt cX8_limbAt 2 (some .long), .fieldLink RX8 13 "PolicyWorks$Whole" "size" "I"] ++ wsX80)
def wsX3_tell_r1 : List Cond := [Cond.fieldLink RX3 14 "PolicyWorks$Fraction" "above" "LPolicyWorks$Whole;", Cond.fieldLink RX3 32 "PolicyWorks$Whole" "sign" "I", Cond.fieldLink RX3 20 "PolicyWorks$Fraction" "below" "LPolicyWorks$Whole;", Cond.methodLink RX3 36 yX3_reduce, Cond.instanceMethod yX3_reduce, Cond.selects RX3 yX3_reduce yX3_reduce, Cond.initialized RX3, Cond.code yX3_reduce cX3_reduce 2 none, Cond.fieldLink RX3 29 "PolicyWorks$Fraction" "quotient" "LPolicyWorks$Whole;", Cond.methodLink RX3 43 yX8_dropSign, Cond.instanceMethod yX8_dropSign, Cond.selects RX8 yX8_dropSign yX8_dropSign, Cond.initialized RX8, Cond.code yX8_dropSign cX8_dropSign 2 none, Cond.fieldLink RX8 17 "PolicyWorks$Whole" "sign" "I", Cond.fieldLink RX8 13 "PolicyWorks$Whole" "size" "I", Cond.fieldLink RX8 7 "PolicyWorks$Whole" "limbs" "[J", Cond.methodLink RX3 46 yX3_commonDivisor, Cond.instanceMethod yX3_commonDivisor, Cond.selects RX3 yX3_commonDivisor yX3_commonDivisor, Cond.code yX3_commonDivisor cX3_commonDivisor 5 (some (.object "PolicyWorks$Whole")), Cond.fieldLink RX3 23 "PolicyWorks$Fraction" "one" "LPolicyWorks$Whole;", Cond.fieldLink RX3 26 "PolicyWorks$Fraction" "other" "LPolicyWorks$Whole;", Cond.fieldLink RX3 58 "PolicyWorks$Whole" "size" "I"]
def wsX3_tell_r2 : List Cond := [Cond.methodLink RX3 54 yX8_copy, Cond.instanceMethod yX8_copy, Cond.selects RX8 yX8_copy yX8_copy, Cond.code yX8_copy cX8_copy 2 none, Cond.methodLink RX8 32 Lib.Math.min.name, Cond.static Lib.Math.min.name, Cond.initialized "java/lang/Math", Cond.code Lib.Math.min.name Lib.Math.min.code 2 (some .int), Cond.methodLink RX8 38 arraycopyName, Cond.native arraycopyName, Cond.static arraycopyName, Cond.initialized "java/lang/System", Cond.methodLink RX8 26 yX8_clear, Cond.instanceMethod yX8_clear, Cond.selects RX8 yX8_clear yX8_clear, Cond.code yX8_clear cX8_clear 1 none, Cond.methodLink RX8 20 yJ7_fill_d0a16, Cond.static yJ7_fill_d0a16, Cond.initialized RJ7, Cond.code yJ7_fill_d0a16 cJ7_fill_d0a16 5 none, Cond.methodLink RX3 50 yX8_divide, Cond.instanceMethod yX8_divide, Cond.selects RX8 yX8_divide yX8_divide, Cond.code yX8_divide cX8_divide 7 none]
def wsX3_tell_r3 : List Cond := [Cond.methodLink RX8 73 Lib.MathLoose.max_long.x, Cond.static Lib.MathLoose.max_long.x, Cond.code Lib.MathLoose.max_long.x Lib.MathLoose.max_long.code 4 (some .long), Cond.methodLink RX8 65 yX8_reaches, Cond.instanceMethod yX8_reaches, Cond.selects RX8 yX8_reaches yX8_reaches, Cond.code yX8_reaches cX8_reaches 4 (some .boolean), Cond.methodLink RX8 69 yX8_guess, Cond.instanceMethod yX8_guess, Cond.selects RX8 yX8_guess yX8_guess, Cond.code yX8_guess cX8_guess 8 (some .long), Cond.constantLong RX8 44 (1000000), Cond.methodLink RX8 61 yX8_limbAt, Cond.instanceMethod yX8_limbAt, Cond.selects RX8 yX8_limbAt yX8_limbAt, Cond.code yX8_limbAt cX8_limbAt 2 (some .long), Cond.methodLink RX8 75 yX8_takeAway, Cond.instanceMethod yX8_takeAway, Cond.selects RX8 yX8_takeAway yX8_takeAway, Cond.code yX8_takeAway cX8_takeAway 10 none, Cond.methodLink RX8 46 yJ9_floorDiv_f86c9, Cond.static yJ9_floorDiv_f86c9, Cond.initialized RJ9, Cond.code yJ9_floorDiv_f86c9 cJ9_floorDiv_f86c9 6 (some .long)]
def wsX3_tell_r4 : List Cond := [Cond.methodLink RX8 53 yX8_measure, Cond.instanceMethod yX8_measure, Cond.selects RX8 yX8_measure yX8_measure, Cond.code yX8_measure cX8_measure 1 none, Cond.methodLink RX3 39 yX8_eighteen, Cond.instanceMethod yX8_eighteen, Cond.selects RX8 yX8_eighteen yX8_eighteen, Cond.code yX8_eighteen cX8_eighteen 5 (some .long)]
def wsX3_tell : List Cond := .code yX3_tell cX3_tell 2 (some .long) :: ((wsX3_tell_r1 ++ (wsX3_tell_r2 ++ (wsX3_tell_r3 ++ wsX3_tell_r4))) ++ wsX30 ++ wsX80)
def wsX7_init : List Cond := .code yX7_init cX7_init 3 none :: ([.methodLink RX7 3 objectInit, .instanceMethod objectInit, .code objectInit ⟨#[0xb1]⟩ 1 none, .classLink RX7 9 RX8, .fieldLink RX7 11 "PolicyWorks$Row" "above" "[LPolicyWorks$Whole;", .instantiable RX8 3, .initialized RX8, .fieldLink RX7 20 "PolicyWorks$Row" "below" "LPolicyWorks$Whole;", .methodLink RX7 17 yX8_init, .instanceMethod yX8_init, .code yX8_init cX8_init 2 none, .methodLink RX8 1 objectInit, .arrayClass .long, .fieldLink RX8 7 "PolicyWorks$Whole" "limbs" "[J", .fieldLink RX8 13 "PolicyWorks$Whole" "size" "I", .fieldLink RX8 17 "PolicyWorks$Whole" "sign" "I"] ++ wsX70 ++ wsX80)
def wsX5_init_r1 : List Cond := [Cond.methodLink RX5 3 objectInit, Cond.instanceMethod objectInit, Cond.code objectInit ⟨#[0xb1]⟩ 1 none, Cond.classLink RX5 9 RX7, Cond.fieldLink RX5 11 "PolicyWorks$Ladder" "rows" "[LPolicyWorks$Row;", Cond.instantiable RX7 2, Cond.initialized RX7, Cond.classLink RX5 20 "[[I", Cond.arrayClass .int, Cond.fieldLink RX5 22 "PolicyWorks$Ladder" "picks" "[[I", Cond.fieldLink RX5 25 "PolicyWorks$Ladder" "known" "I", Cond.methodLink RX5 17 yX7_init, Cond.instanceMethod yX7_init, Cond.code yX7_init cX7_init 3 none, Cond.methodLink RX7 3 objectInit, Cond.classLink RX7 9 RX8, Cond.fieldLink RX7 11 "PolicyWorks$Row" "above" "[LPolicyWorks$Whole;", Cond.instantiable RX8 3, Cond.initialized RX8, Cond.fieldLink RX7 20 "PolicyWorks$Row" "below" "LPolicyWorks$Whole;", Cond.methodLink RX7 17 yX8_init, Cond.instanceMethod yX8_init, Cond.code yX8_init cX8_init 2 none, Cond.methodLink RX8 1 objectInit]
def wsX5_init_r2 : List Cond := [Cond.arrayClass .long, Cond.fieldLink RX8 7 "PolicyWorks$Whole" "limbs" "[J", Cond.fieldLink RX8 13 "PolicyWorks$Whole" "size" "I", Cond.fieldLink RX8 17 "PolicyWorks$Whole" "sign" "I"]
def wsX5_init : List Cond := .code yX5_init cX5_init 2 none :: ((wsX5_init_r1 ++ wsX5_init_r2) ++ wsX50 ++ wsX70 ++ wsX80)
def wsX6_commonDivisor : List Cond := .code yX6_commonDivisor cX6_commonDivisor 3 (some .int) :: ([.methodLink RX6 54 Lib.Math.max.name, .static Lib.Math.max.name, .initialized "java/lang/Math", .code Lib.Math.max.name Lib.Math.max.code 2 (some .int)])
def wsX6_commonRewardBelow : List Cond := .code yX6_commonRewardBelow cX6_commonRewardBelow 5 (some .int) :: ([.fieldLink RX6 22 "PolicyWorks$Model" "states" "I", .fieldLink RX6 9 "PolicyWorks$Model" "actionCounts" "[I", .fieldLink RX6 47 "PolicyWorks$Action" "below" "I", .methodLink RX6 36 yX6_find, .instanceMethod yX6_find, .selects RX6 yX6_find yX6_find, .initialized RX6, .code yX6_find cX6_find 3 (some (.object "PolicyWorks$Action")), .fieldLink RX6 17 "PolicyWorks$Model" "actions" "[LPolicyWorks$Action;", .methodLink RX6 50 yX6_commonDivisor, .static yX6_commonDivisor, .code yX6_commonDivisor cX6_commonDivisor 3 (some .int), .methodLink RX6 54 Lib.Math.max.name, .static Lib.Math.max.name, .initialized "java/lang/Math", .code Lib.Math.max.name Lib.Math.max.code 2 (some .int)] ++ wsX60 ++ wsX00)
def wsX5_begin_r1 : List Cond := [Cond.fieldLink RX5 11 "PolicyWorks$Ladder" "rows" "[LPolicyWorks$Row;", Cond.fieldLink RX5 37 "PolicyWorks$Row" "above" "[LPolicyWorks$Whole;", Cond.fieldLink RX5 46 "PolicyWorks$Row" "below" "LPolicyWorks$Whole;", Cond.methodLink RX5 41 yX8_clear, Cond.instanceMethod yX8_clear, Cond.selects RX8 yX8_clear yX8_clear, Cond.initialized RX8, Cond.code yX8_clear cX8_clear 1 none, Cond.fieldLink RX8 7 "PolicyWorks$Whole" "limbs" "[J", Cond.fieldLink RX8 13 "PolicyWorks$Whole" "size" "I", Cond.fieldLink RX8 17 "PolicyWorks$Whole" "sign" "I", Cond.methodLink RX8 20 yJ7_fill_d0a16, Cond.static yJ7_fill_d0a16, Cond.initialized RJ7, Cond.code yJ7_fill_d0a16 cJ7_fill_d0a16 5 none, Cond.methodLink RX5 50 yX6_commonRewardBelow, Cond.instanceMethod yX6_commonRewardBelow, Cond.selects RX6 yX6_commonRewardBelow yX6_commonRewardBelow, Cond.initialized RX6, Cond.code yX6_commonRewardBelow cX6_commonRewardBelow 5 (some .int), Cond.fieldLink RX6 22 "PolicyWorks$Model" "states" "I", Cond.fieldLink RX6 9 "PolicyWorks$Model" "actionCounts" "[I", Cond.fieldLink RX6 47 "PolicyWorks$Action" "below" "I", Cond.methodLink RX6 36 yX6_find]
def wsX5_begin_r2 : List Cond := [Cond.instanceMethod yX6_find, Cond.selects RX6 yX6_find yX6_find, Cond.code yX6_find cX6_find 3 (some (.object "PolicyWorks$Action")), Cond.fieldLink RX6 17 "PolicyWorks$Model" "actions" "[LPolicyWorks$Action;", Cond.methodLink RX6 50 yX6_commonDivisor, Cond.static yX6_commonDivisor, Cond.code yX6_commonDivisor cX6_commonDivisor 3 (some .int), Cond.methodLink RX6 54 Lib.Math.max.name, Cond.static Lib.Math.max.name, Cond.initialized "java/lang/Math", Cond.code Lib.Math.max.name Lib.Math.max.code 2 (some .int), Cond.methodLink RX5 56 yX8_put, Cond.instanceMethod yX8_put, Cond.selects RX8 yX8_put yX8_put, Cond.code yX8_put cX8_put 3 none, Cond.methodLink RX8 26 yX8_clear, Cond.methodLink RX8 29 yX8_settle, Cond.instanceMethod yX8_settle, Cond.selects RX8 yX8_settle yX8_settle, Cond.code yX8_settle cX8_settle 6 none, Cond.constantLong RX8 44 (1000000), Cond.methodLink RX8 46 yJ9_floorDiv_f86c9, Cond.static yJ9_floorDiv_f86c9, Cond.initialized RJ9]
def wsX5_begin_r3 : List Cond := [Cond.code yJ9_floorDiv_f86c9 cJ9_floorDiv_f86c9 6 (some .long), Cond.methodLink RX8 50 yX8_turnNegative, Cond.instanceMethod yX8_turnNegative, Cond.selects RX8 yX8_turnNegative yX8_turnNegative, Cond.code yX8_turnNegative cX8_turnNegative 3 none, Cond.constantLong RX8 56 (999999), Cond.methodLink RX8 53 yX8_measure, Cond.instanceMethod yX8_measure, Cond.selects RX8 yX8_measure yX8_measure, Cond.code yX8_measure cX8_measure 1 none]
def wsX5_begin : List Cond := .code yX5_begin cX5_begin 3 none :: ((wsX5_begin_r1 ++ (wsX5_begin_r2 ++ wsX5_begin_r3)) ++ wsX50 ++ wsX70 ++ wsX80 ++ wsX60 ++ wsX00)
def wsX8_divideSmall : List Cond := .code yX8_divideSmall cX8_divideSmall 7 none :: ([.fieldLink RX8 13 "PolicyWorks$Whole" "size" "I", .constantLong RX8 44 (1000000), .fieldLink RX8 7 "PolicyWorks$Whole" "limbs" "[J", .methodLink RX8 53 yX8_measure, .instanceMethod yX8_measure, .selects RX8 yX8_measure yX8_measure, .initialized RX8, .code yX8_measure cX8_measure 1 none, .fieldLink RX8 17 "PolicyWorks$Whole" "sign" "I"] ++ wsX80)
def wsX5_step_r1 : List Cond := [Cond.fieldLink RX5 11 "PolicyWorks$Ladder" "rows" "[LPolicyWorks$Row;", Cond.fieldLink RX5 60 "PolicyWorks$Model" "states" "I", Cond.fieldLink RX5 22 "PolicyWorks$Ladder" "picks" "[[I", Cond.fieldLink RX5 73 "PolicyWorks$Action" "total" "I", Cond.fieldLink RX5 37 "PolicyWorks$Row" "above" "[LPolicyWorks$Whole;", Cond.fieldLink RX5 78 "PolicyWorks$Chooser" "best" "LPolicyWorks$Gain;", Cond.fieldLink RX5 82 "PolicyWorks$Gain" "above" "LPolicyWorks$Whole;", Cond.fieldLink RX5 90 "PolicyWorks$Action" "below" "I", Cond.methodLink RX5 95 Lib.Math.max.name, Cond.static Lib.Math.max.name, Cond.initialized "java/lang/Math", Cond.code Lib.Math.max.name Lib.Math.max.code 2 (some .int), Cond.fieldLink RX5 46 "PolicyWorks$Row" "below" "LPolicyWorks$Whole;", Cond.fieldLink RX5 104 "PolicyWorks$Model" "discountBelow" "I", Cond.methodLink RX5 63 yX1_greatest, Cond.instanceMethod yX1_greatest, Cond.selects RX1 yX1_greatest yX1_greatest, Cond.initialized RX1, Cond.code yX1_greatest cX1_greatest 8 (some .int), Cond.fieldLink RX1 12 "PolicyWorks$Chooser" "best" "LPolicyWorks$Gain;", Cond.fieldLink RX1 40 "PolicyWorks$Model" "actionCounts" "[I", Cond.fieldLink RX1 18 "PolicyWorks$Chooser" "rival" "LPolicyWorks$Gain;", Cond.methodLink RX1 30 yX6_find, Cond.instanceMethod yX6_find]
def wsX5_step_r2 : List Cond := [Cond.selects RX6 yX6_find yX6_find, Cond.initialized RX6, Cond.code yX6_find cX6_find 3 (some (.object "PolicyWorks$Action")), Cond.fieldLink RX6 17 "PolicyWorks$Model" "actions" "[LPolicyWorks$Action;", Cond.methodLink RX1 36 yX4_weigh, Cond.instanceMethod yX4_weigh, Cond.selects RX4 yX4_weigh yX4_weigh, Cond.initialized RX4, Cond.code yX4_weigh cX4_weigh 5 none, Cond.fieldLink RX4 24 "PolicyWorks$Action" "below" "I", Cond.fieldLink RX4 29 "PolicyWorks$Model" "discountBelow" "I", Cond.fieldLink RX4 34 "PolicyWorks$Action" "total" "I", Cond.fieldLink RX4 20 "PolicyWorks$Gain" "scale" "I", Cond.fieldLink RX4 14 "PolicyWorks$Gain" "above" "LPolicyWorks$Whole;", Cond.fieldLink RX4 40 "PolicyWorks$Row" "below" "LPolicyWorks$Whole;", Cond.fieldLink RX4 44 "PolicyWorks$Action" "above" "I", Cond.fieldLink RX4 50 "PolicyWorks$Model" "states" "I", Cond.fieldLink RX4 53 "PolicyWorks$Row" "above" "[LPolicyWorks$Whole;", Cond.fieldLink RX4 56 "PolicyWorks$Model" "discountAbove" "I", Cond.fieldLink RX4 59 "PolicyWorks$Action" "weights" "[I", Cond.methodLink RX4 37 yX8_clear, Cond.instanceMethod yX8_clear, Cond.selects RX8 yX8_clear yX8_clear, Cond.initialized RX8]
def wsX5_step_r3 : List Cond := [Cond.code yX8_clear cX8_clear 1 none, Cond.fieldLink RX8 7 "PolicyWorks$Whole" "limbs" "[J", Cond.fieldLink RX8 13 "PolicyWorks$Whole" "size" "I", Cond.fieldLink RX8 17 "PolicyWorks$Whole" "sign" "I", Cond.methodLink RX8 20 yJ7_fill_d0a16, Cond.static yJ7_fill_d0a16, Cond.initialized RJ7, Cond.code yJ7_fill_d0a16 cJ7_fill_d0a16 5 none, Cond.methodLink RX4 46 yX8_add, Cond.instanceMethod yX8_add, Cond.selects RX8 yX8_add yX8_add, Cond.code yX8_add cX8_add 6 none, Cond.methodLink RX8 32 Lib.Math.min.name, Cond.static Lib.Math.min.name, Cond.code Lib.Math.min.name Lib.Math.min.code 2 (some .int), Cond.methodLink RX4 63 yX8_settle, Cond.instanceMethod yX8_settle, Cond.selects RX8 yX8_settle yX8_settle, Cond.code yX8_settle cX8_settle 6 none, Cond.constantLong RX8 44 (1000000), Cond.methodLink RX8 46 yJ9_floorDiv_f86c9, Cond.static yJ9_floorDiv_f86c9, Cond.initialized RJ9, Cond.code yJ9_floorDiv_f86c9 cJ9_floorDiv_f86c9 6 (some .long)]
def wsX5_step_r4 : List Cond := [Cond.methodLink RX8 50 yX8_turnNegative, Cond.instanceMethod yX8_turnNegative, Cond.selects RX8 yX8_turnNegative yX8_turnNegative, Cond.code yX8_turnNegative cX8_turnNegative 3 none, Cond.constantLong RX8 56 (999999), Cond.methodLink RX8 53 yX8_measure, Cond.instanceMethod yX8_measure, Cond.selects RX8 yX8_measure yX8_measure, Cond.code yX8_measure cX8_measure 1 none, Cond.methodLink RX1 44 yX1_rivalIsMore, Cond.instanceMethod yX1_rivalIsMore, Cond.selects RX1 yX1_rivalIsMore yX1_rivalIsMore, Cond.code yX1_rivalIsMore cX1_rivalIsMore 1 (some .boolean), Cond.fieldLink RX1 26 "PolicyWorks$Chooser" "gap" "LPolicyWorks$Whole;", Cond.fieldLink RX1 51 "PolicyWorks$Gain" "above" "LPolicyWorks$Whole;", Cond.fieldLink RX1 54 "PolicyWorks$Gain" "scale" "I", Cond.fieldLink RX1 65 "PolicyWorks$Whole" "sign" "I", Cond.methodLink RX1 48 yX8_clear, Cond.methodLink RX1 58 yX8_add, Cond.methodLink RX1 62 yX8_settle, Cond.methodLink RX5 69 yX6_find, Cond.methodLink RX5 86 yX8_copy, Cond.instanceMethod yX8_copy, Cond.selects RX8 yX8_copy yX8_copy]
def wsX5_step_r5 : List Cond := [Cond.code yX8_copy cX8_copy 2 none, Cond.methodLink RX8 38 arraycopyName, Cond.native arraycopyName, Cond.static arraycopyName, Cond.initialized "java/lang/System", Cond.methodLink RX8 26 yX8_clear, Cond.methodLink RX5 92 yX8_divideSmall, Cond.instanceMethod yX8_divideSmall, Cond.selects RX8 yX8_divideSmall yX8_divideSmall, Cond.code yX8_divideSmall cX8_divideSmall 7 none, Cond.methodLink RX5 101 yX8_multiply, Cond.instanceMethod yX8_multiply, Cond.selects RX8 yX8_multiply yX8_multiply, Cond.code yX8_multiply cX8_multiply 4 none, Cond.methodLink RX8 29 yX8_settle]
def wsX5_step : List Cond := .code yX5_step cX5_step 11 none :: ((wsX5_step_r1 ++ (wsX5_step_r2 ++ (wsX5_step_r3 ++ (wsX5_step_r4 ++ wsX5_step_r5)))) ++ wsX50 ++ wsX60 ++ wsX00 ++ wsX70 ++ wsX10 ++ wsX40 ++ wsX80)
def wsX5_climb_r1 : List Cond := [Cond.fieldLink RX5 25 "PolicyWorks$Ladder" "known" "I", Cond.methodLink RX5 29 yX5_begin, Cond.instanceMethod yX5_begin, Cond.selects RX5 yX5_begin yX5_begin, Cond.initialized RX5, Cond.code yX5_begin cX5_begin 3 none, Cond.fieldLink RX5 11 "PolicyWorks$Ladder" "rows" "[LPolicyWorks$Row;", Cond.fieldLink RX5 37 "PolicyWorks$Row" "above" "[LPolicyWorks$Whole;", Cond.fieldLink RX5 46 "PolicyWorks$Row" "below" "LPolicyWorks$Whole;", Cond.methodLink RX5 41 yX8_clear, Cond.instanceMethod yX8_clear, Cond.selects RX8 yX8_clear yX8_clear, Cond.initialized RX8, Cond.code yX8_clear cX8_clear 1 none, Cond.fieldLink RX8 7 "PolicyWorks$Whole" "limbs" "[J", Cond.fieldLink RX8 13 "PolicyWorks$Whole" "size" "I", Cond.fieldLink RX8 17 "PolicyWorks$Whole" "sign" "I", Cond.methodLink RX8 20 yJ7_fill_d0a16, Cond.static yJ7_fill_d0a16, Cond.initialized RJ7, Cond.code yJ7_fill_d0a16 cJ7_fill_d0a16 5 none, Cond.methodLink RX5 50 yX6_commonRewardBelow, Cond.instanceMethod yX6_commonRewardBelow, Cond.selects RX6 yX6_commonRewardBelow yX6_commonRewardBelow]
def wsX5_climb_r2 : List Cond := [Cond.initialized RX6, Cond.code yX6_commonRewardBelow cX6_commonRewardBelow 5 (some .int), Cond.fieldLink RX6 22 "PolicyWorks$Model" "states" "I", Cond.fieldLink RX6 9 "PolicyWorks$Model" "actionCounts" "[I", Cond.fieldLink RX6 47 "PolicyWorks$Action" "below" "I", Cond.methodLink RX6 36 yX6_find, Cond.instanceMethod yX6_find, Cond.selects RX6 yX6_find yX6_find, Cond.code yX6_find cX6_find 3 (some (.object "PolicyWorks$Action")), Cond.fieldLink RX6 17 "PolicyWorks$Model" "actions" "[LPolicyWorks$Action;", Cond.methodLink RX6 50 yX6_commonDivisor, Cond.static yX6_commonDivisor, Cond.code yX6_commonDivisor cX6_commonDivisor 3 (some .int), Cond.methodLink RX6 54 Lib.Math.max.name, Cond.static Lib.Math.max.name, Cond.initialized "java/lang/Math", Cond.code Lib.Math.max.name Lib.Math.max.code 2 (some .int), Cond.methodLink RX5 56 yX8_put, Cond.instanceMethod yX8_put, Cond.selects RX8 yX8_put yX8_put, Cond.code yX8_put cX8_put 3 none, Cond.methodLink RX8 26 yX8_clear, Cond.methodLink RX8 29 yX8_settle, Cond.instanceMethod yX8_settle]
def wsX5_climb_r3 : List Cond := [Cond.selects RX8 yX8_settle yX8_settle, Cond.code yX8_settle cX8_settle 6 none, Cond.constantLong RX8 44 (1000000), Cond.methodLink RX8 46 yJ9_floorDiv_f86c9, Cond.static yJ9_floorDiv_f86c9, Cond.initialized RJ9, Cond.code yJ9_floorDiv_f86c9 cJ9_floorDiv_f86c9 6 (some .long), Cond.methodLink RX8 50 yX8_turnNegative, Cond.instanceMethod yX8_turnNegative, Cond.selects RX8 yX8_turnNegative yX8_turnNegative, Cond.code yX8_turnNegative cX8_turnNegative 3 none, Cond.constantLong RX8 56 (999999), Cond.methodLink RX8 53 yX8_measure, Cond.instanceMethod yX8_measure, Cond.selects RX8 yX8_measure yX8_measure, Cond.code yX8_measure cX8_measure 1 none, Cond.methodLink RX5 33 yX5_step, Cond.instanceMethod yX5_step, Cond.selects RX5 yX5_step yX5_step, Cond.code yX5_step cX5_step 11 none, Cond.fieldLink RX5 60 "PolicyWorks$Model" "states" "I", Cond.fieldLink RX5 22 "PolicyWorks$Ladder" "picks" "[[I", Cond.fieldLink RX5 73 "PolicyWorks$Action" "total" "I", Cond.fieldLink RX5 78 "PolicyWorks$Chooser" "best" "LPolicyWorks$Gain;"]
def wsX5_climb_r4 : List Cond := [Cond.fieldLink RX5 82 "PolicyWorks$Gain" "above" "LPolicyWorks$Whole;", Cond.fieldLink RX5 90 "PolicyWorks$Action" "below" "I", Cond.methodLink RX5 95 Lib.Math.max.name, Cond.fieldLink RX5 104 "PolicyWorks$Model" "discountBelow" "I", Cond.methodLink RX5 63 yX1_greatest, Cond.instanceMethod yX1_greatest, Cond.selects RX1 yX1_greatest yX1_greatest, Cond.initialized RX1, Cond.code yX1_greatest cX1_greatest 8 (some .int), Cond.fieldLink RX1 12 "PolicyWorks$Chooser" "best" "LPolicyWorks$Gain;", Cond.fieldLink RX1 40 "PolicyWorks$Model" "actionCounts" "[I", Cond.fieldLink RX1 18 "PolicyWorks$Chooser" "rival" "LPolicyWorks$Gain;", Cond.methodLink RX1 30 yX6_find, Cond.methodLink RX1 36 yX4_weigh, Cond.instanceMethod yX4_weigh, Cond.selects RX4 yX4_weigh yX4_weigh, Cond.initialized RX4, Cond.code yX4_weigh cX4_weigh 5 none, Cond.fieldLink RX4 24 "PolicyWorks$Action" "below" "I", Cond.fieldLink RX4 29 "PolicyWorks$Model" "discountBelow" "I", Cond.fieldLink RX4 34 "PolicyWorks$Action" "total" "I", Cond.fieldLink RX4 20 "PolicyWorks$Gain" "scale" "I", Cond.fieldLink RX4 14 "PolicyWorks$Gain" "above" "LPolicyWorks$Whole;", Cond.fieldLink RX4 40 "PolicyWorks$Row" "below" "LPolicyWorks$Whole;"]
def wsX5_climb_r5 : List Cond := [Cond.fieldLink RX4 44 "PolicyWorks$Action" "above" "I", Cond.fieldLink RX4 50 "PolicyWorks$Model" "states" "I", Cond.fieldLink RX4 53 "PolicyWorks$Row" "above" "[LPolicyWorks$Whole;", Cond.fieldLink RX4 56 "PolicyWorks$Model" "discountAbove" "I", Cond.fieldLink RX4 59 "PolicyWorks$Action" "weights" "[I", Cond.methodLink RX4 37 yX8_clear, Cond.methodLink RX4 46 yX8_add, Cond.instanceMethod yX8_add, Cond.selects RX8 yX8_add yX8_add, Cond.code yX8_add cX8_add 6 none, Cond.methodLink RX8 32 Lib.Math.min.name, Cond.static Lib.Math.min.name, Cond.code Lib.Math.min.name Lib.Math.min.code 2 (some .int), Cond.methodLink RX4 63 yX8_settle, Cond.methodLink RX1 44 yX1_rivalIsMore, Cond.instanceMethod yX1_rivalIsMore, Cond.selects RX1 yX1_rivalIsMore yX1_rivalIsMore, Cond.code yX1_rivalIsMore cX1_rivalIsMore 1 (some .boolean), Cond.fieldLink RX1 26 "PolicyWorks$Chooser" "gap" "LPolicyWorks$Whole;", Cond.fieldLink RX1 51 "PolicyWorks$Gain" "above" "LPolicyWorks$Whole;", Cond.fieldLink RX1 54 "PolicyWorks$Gain" "scale" "I", Cond.fieldLink RX1 65 "PolicyWorks$Whole" "sign" "I", Cond.methodLink RX1 48 yX8_clear, Cond.methodLink RX1 58 yX8_add]
def wsX5_climb_r6 : List Cond := [Cond.methodLink RX1 62 yX8_settle, Cond.methodLink RX5 69 yX6_find, Cond.methodLink RX5 86 yX8_copy, Cond.instanceMethod yX8_copy, Cond.selects RX8 yX8_copy yX8_copy, Cond.code yX8_copy cX8_copy 2 none, Cond.methodLink RX8 38 arraycopyName, Cond.native arraycopyName, Cond.static arraycopyName, Cond.initialized "java/lang/System", Cond.methodLink RX5 92 yX8_divideSmall, Cond.instanceMethod yX8_divideSmall, Cond.selects RX8 yX8_divideSmall yX8_divideSmall, Cond.code yX8_divideSmall cX8_divideSmall 7 none, Cond.methodLink RX5 101 yX8_multiply, Cond.instanceMethod yX8_multiply, Cond.selects RX8 yX8_multiply yX8_multiply, Cond.code yX8_multiply cX8_multiply 4 none]
def wsX5_climb : List Cond := .code yX5_climb cX5_climb 4 none :: ((wsX5_climb_r1 ++ (wsX5_climb_r2 ++ (wsX5_climb_r3 ++ (wsX5_climb_r4 ++ (wsX5_climb_r5 ++ wsX5_climb_r6))))) ++ wsX50 ++ wsX70 ++ wsX80 ++ wsX60 ++ wsX00 ++ wsX10 ++ wsX40)
def wsX6_init : List Cond := .code yX6_init cX6_init 2 none :: ([.methodLink RX6 3 objectInit, .instanceMethod objectInit, .code objectInit ⟨#[0xb1]⟩ 1 none, .arrayClass .int, .fieldLink RX6 9 "PolicyWorks$Model" "actionCounts" "[I", .classLink RX6 15 RX0, .fieldLink RX6 17 "PolicyWorks$Model" "actions" "[LPolicyWorks$Action;", .instantiable RX0 4, .initialized RX0, .fieldLink RX6 22 "PolicyWorks$Model" "states" "I", .fieldLink RX6 26 "PolicyWorks$Model" "discountAbove" "I", .fieldLink RX6 29 "PolicyWorks$Model" "discountBelow" "I", .methodLink RX6 21 yX0_init, .instanceMethod yX0_init, .code yX0_init cX0_init 1 none, .methodLink RX0 3 objectInit, .fieldLink RX0 9 "PolicyWorks$Action" "weights" "[I", .fieldLink RX0 15 "PolicyWorks$Action" "above" "I", .fieldLink RX0 19 "PolicyWorks$Action" "below" "I", .fieldLink RX0 22 "PolicyWorks$Action" "total" "I"] ++ wsX60 ++ wsX00)
def wsX6_hasState : List Cond := .code yX6_hasState cX6_hasState 2 (some .boolean) :: ([.fieldLink RX6 22 "PolicyWorks$Model" "states" "I"] ++ wsX60)
def wsX6_hasAction : List Cond := .code yX6_hasAction cX6_hasAction 3 (some .boolean) :: ([.fieldLink RX6 9 "PolicyWorks$Model" "actionCounts" "[I", .methodLink RX6 32 yX6_hasState, .instanceMethod yX6_hasState, .selects RX6 yX6_hasState yX6_hasState, .initialized RX6, .code yX6_hasState cX6_hasState 2 (some .boolean), .fieldLink RX6 22 "PolicyWorks$Model" "states" "I"] ++ wsX60)
def wsX6_countActions : List Cond := .code yX6_countActions cX6_countActions 5 (some .int) :: ([.fieldLink RX6 22 "PolicyWorks$Model" "states" "I", .fieldLink RX6 9 "PolicyWorks$Model" "actionCounts" "[I", .fieldLink RX6 40 "PolicyWorks$Action" "total" "I", .methodLink RX6 36 yX6_find, .instanceMethod yX6_find, .selects RX6 yX6_find yX6_find, .initialized RX6, .code yX6_find cX6_find 3 (some (.object "PolicyWorks$Action")), .fieldLink RX6 17 "PolicyWorks$Model" "actions" "[LPolicyWorks$Action;"] ++ wsX60 ++ wsX00)
def wsX6_allReady : List Cond := .code yX6_allReady cX6_allReady 2 (some .boolean) :: ([.fieldLink RX6 22 "PolicyWorks$Model" "states" "I", .fieldLink RX6 9 "PolicyWorks$Model" "actionCounts" "[I", .methodLink RX6 43 yX6_countActions, .instanceMethod yX6_countActions, .selects RX6 yX6_countActions yX6_countActions, .initialized RX6, .code yX6_countActions cX6_countActions 5 (some .int), .fieldLink RX6 40 "PolicyWorks$Action" "total" "I", .methodLink RX6 36 yX6_find, .instanceMethod yX6_find, .selects RX6 yX6_find yX6_find, .code yX6_find cX6_find 3 (some (.object "PolicyWorks$Action")), .fieldLink RX6 17 "PolicyWorks$Model" "actions" "[LPolicyWorks$Action;"] ++ wsX60 ++ wsX00)
def wsX8_product_r1 : List Cond := [Cond.fieldLink RX8 13 "PolicyWorks$Whole" "size" "I", Cond.fieldLink RX8 7 "PolicyWorks$Whole" "limbs" "[J", Cond.methodLink RX8 32 Lib.Math.min.name, Cond.static Lib.Math.min.name, Cond.initialized "java/lang/Math", Cond.code Lib.Math.min.name Lib.Math.min.code 2 (some .int), Cond.methodLink RX8 26 yX8_clear, Cond.instanceMethod yX8_clear, Cond.selects RX8 yX8_clear yX8_clear, Cond.initialized RX8, Cond.code yX8_clear cX8_clear 1 none, Cond.fieldLink RX8 17 "PolicyWorks$Whole" "sign" "I", Cond.methodLink RX8 20 yJ7_fill_d0a16, Cond.static yJ7_fill_d0a16, Cond.initialized RJ7, Cond.code yJ7_fill_d0a16 cJ7_fill_d0a16 5 none, Cond.methodLink RX8 29 yX8_settle, Cond.instanceMethod yX8_settle, Cond.selects RX8 yX8_settle yX8_settle, Cond.code yX8_settle cX8_settle 6 none, Cond.constantLong RX8 44 (1000000), Cond.methodLink RX8 46 yJ9_floorDiv_f86c9, Cond.static yJ9_floorDiv_f86c9, Cond.initialized RJ9]
def wsX8_product_r2 : List Cond := [Cond.code yJ9_floorDiv_f86c9 cJ9_floorDiv_f86c9 6 (some .long), Cond.methodLink RX8 50 yX8_turnNegative, Cond.instanceMethod yX8_turnNegative, Cond.selects RX8 yX8_turnNegative yX8_turnNegative, Cond.code yX8_turnNegative cX8_turnNegative 3 none, Cond.constantLong RX8 56 (999999), Cond.methodLink RX8 53 yX8_measure, Cond.instanceMethod yX8_measure, Cond.selects RX8 yX8_measure yX8_measure, Cond.code yX8_measure cX8_measure 1 none]
def wsX8_product : List Cond := .code yX8_product cX8_product 6 none :: ((wsX8_product_r1 ++ wsX8_product_r2) ++ wsX80)
def wsX8_compare : List Cond := .code yX8_compare cX8_compare 7 (some .int) :: ([.fieldLink RX8 13 "PolicyWorks$Whole" "size" "I", .methodLink RX8 58 Lib.Math.max.name, .static Lib.Math.max.name, .initialized "java/lang/Math", .code Lib.Math.max.name Lib.Math.max.code 2 (some .int), .methodLink RX8 61 yX8_limbAt, .instanceMethod yX8_limbAt, .selects RX8 yX8_limbAt yX8_limbAt, .initialized RX8, .code yX8_limbAt cX8_limbAt 2 (some .long), .fieldLink RX8 7 "PolicyWorks$Whole" "limbs" "[J"] ++ wsX80)
def wsX9_init_r1 : List Cond := [Cond.methodLink RX9 1 objectInit, Cond.instanceMethod objectInit, Cond.code objectInit ⟨#[0xb1]⟩ 1 none, Cond.classLink RX9 7 RX6, Cond.instantiable RX6 5, Cond.initialized RX6, Cond.fieldLink RX9 10 "PolicyWorks" "model" "LPolicyWorks$Model;", Cond.classLink RX9 16 RX2, Cond.instantiable RX2 2, Cond.initialized RX2, Cond.fieldLink RX9 19 "PolicyWorks" "equations" "LPolicyWorks$Equations;", Cond.classLink RX9 23 RX1, Cond.instantiable RX1 3, Cond.initialized RX1, Cond.fieldLink RX9 26 "PolicyWorks" "chooser" "LPolicyWorks$Chooser;", Cond.classLink RX9 30 RX5, Cond.instantiable RX5 3, Cond.initialized RX5, Cond.fieldLink RX9 33 "PolicyWorks" "ladder" "LPolicyWorks$Ladder;", Cond.classLink RX9 37 RX7, Cond.instantiable RX7 2, Cond.initialized RX7, Cond.fieldLink RX9 42 "PolicyWorks" "bestValues" "LPolicyWorks$Row;", Cond.arrayClass .int]
def wsX9_init_r2 : List Cond := [Cond.fieldLink RX9 46 "PolicyWorks" "bestPolicy" "[I", Cond.fieldLink RX9 50 "PolicyWorks" "worths" "[LPolicyWorks$Row;", Cond.arrayClass .boolean, Cond.fieldLink RX9 54 "PolicyWorks" "worthKnown" "[Z", Cond.fieldLink RX9 58 "PolicyWorks" "trial" "[I", Cond.classLink RX9 61 RX3, Cond.instantiable RX3 5, Cond.initialized RX3, Cond.fieldLink RX9 64 "PolicyWorks" "told" "LPolicyWorks$Fraction;", Cond.classLink RX9 68 RX8, Cond.instantiable RX8 3, Cond.initialized RX8, Cond.fieldLink RX9 71 "PolicyWorks" "left" "LPolicyWorks$Whole;", Cond.fieldLink RX9 75 "PolicyWorks" "right" "LPolicyWorks$Whole;", Cond.fieldLink RX9 78 "PolicyWorks" "factor" "LPolicyWorks$Whole;", Cond.fieldLink RX9 81 "PolicyWorks" "rounds" "I", Cond.methodLink RX9 9 yX6_init, Cond.instanceMethod yX6_init, Cond.code yX6_init cX6_init 2 none, Cond.methodLink RX6 3 objectInit, Cond.fieldLink RX6 9 "PolicyWorks$Model" "actionCounts" "[I", Cond.classLink RX6 15 RX0, Cond.fieldLink RX6 17 "PolicyWorks$Model" "actions" "[LPolicyWorks$Action;", Cond.instantiable RX0 4]
def wsX9_init_r3 : List Cond := [Cond.initialized RX0, Cond.fieldLink RX6 22 "PolicyWorks$Model" "states" "I", Cond.fieldLink RX6 26 "PolicyWorks$Model" "discountAbove" "I", Cond.fieldLink RX6 29 "PolicyWorks$Model" "discountBelow" "I", Cond.methodLink RX6 21 yX0_init, Cond.instanceMethod yX0_init, Cond.code yX0_init cX0_init 1 none, Cond.methodLink RX0 3 objectInit, Cond.fieldLink RX0 9 "PolicyWorks$Action" "weights" "[I", Cond.fieldLink RX0 15 "PolicyWorks$Action" "above" "I", Cond.fieldLink RX0 19 "PolicyWorks$Action" "below" "I", Cond.fieldLink RX0 22 "PolicyWorks$Action" "total" "I", Cond.methodLink RX9 18 yX2_init, Cond.instanceMethod yX2_init, Cond.code yX2_init cX2_init 2 none, Cond.methodLink RX2 3 objectInit, Cond.classLink RX2 9 "[[I", Cond.fieldLink RX2 11 "PolicyWorks$Equations" "rows" "[[I", Cond.classLink RX2 16 RX8, Cond.fieldLink RX2 18 "PolicyWorks$Equations" "minors" "[LPolicyWorks$Whole;", Cond.methodLink RX2 22 yX8_init, Cond.instanceMethod yX8_init, Cond.code yX8_init cX8_init 2 none, Cond.methodLink RX8 1 objectInit]
def wsX9_init_r4 : List Cond := [Cond.arrayClass .long, Cond.fieldLink RX8 7 "PolicyWorks$Whole" "limbs" "[J", Cond.fieldLink RX8 13 "PolicyWorks$Whole" "size" "I", Cond.fieldLink RX8 17 "PolicyWorks$Whole" "sign" "I", Cond.methodLink RX9 25 yX1_init, Cond.instanceMethod yX1_init, Cond.code yX1_init cX1_init 1 none, Cond.methodLink RX1 3 objectInit, Cond.classLink RX1 9 RX4, Cond.instantiable RX4 2, Cond.initialized RX4, Cond.fieldLink RX1 12 "PolicyWorks$Chooser" "best" "LPolicyWorks$Gain;", Cond.fieldLink RX1 18 "PolicyWorks$Chooser" "rival" "LPolicyWorks$Gain;", Cond.classLink RX1 21 RX8, Cond.fieldLink RX1 26 "PolicyWorks$Chooser" "gap" "LPolicyWorks$Whole;", Cond.methodLink RX1 11 yX4_init, Cond.instanceMethod yX4_init, Cond.code yX4_init cX4_init 1 none, Cond.methodLink RX4 3 objectInit, Cond.classLink RX4 9 RX8, Cond.fieldLink RX4 14 "PolicyWorks$Gain" "above" "LPolicyWorks$Whole;", Cond.fieldLink RX4 20 "PolicyWorks$Gain" "scale" "I", Cond.methodLink RX4 11 yX8_init, Cond.methodLink RX1 23 yX8_init]
def wsX9_init_r5 : List Cond := [Cond.methodLink RX9 32 yX5_init, Cond.instanceMethod yX5_init, Cond.code yX5_init cX5_init 2 none, Cond.methodLink RX5 3 objectInit, Cond.classLink RX5 9 RX7, Cond.fieldLink RX5 11 "PolicyWorks$Ladder" "rows" "[LPolicyWorks$Row;", Cond.classLink RX5 20 "[[I", Cond.fieldLink RX5 22 "PolicyWorks$Ladder" "picks" "[[I", Cond.fieldLink RX5 25 "PolicyWorks$Ladder" "known" "I", Cond.methodLink RX5 17 yX7_init, Cond.instanceMethod yX7_init, Cond.code yX7_init cX7_init 3 none, Cond.methodLink RX7 3 objectInit, Cond.classLink RX7 9 RX8, Cond.fieldLink RX7 11 "PolicyWorks$Row" "above" "[LPolicyWorks$Whole;", Cond.fieldLink RX7 20 "PolicyWorks$Row" "below" "LPolicyWorks$Whole;", Cond.methodLink RX7 17 yX8_init, Cond.methodLink RX9 39 yX7_init, Cond.methodLink RX9 63 yX3_init, Cond.instanceMethod yX3_init, Cond.code yX3_init cX3_init 1 none, Cond.methodLink RX3 3 objectInit, Cond.classLink RX3 9 RX8, Cond.fieldLink RX3 14 "PolicyWorks$Fraction" "above" "LPolicyWorks$Whole;"]
def wsX9_init_r6 : List Cond := [Cond.fieldLink RX3 20 "PolicyWorks$Fraction" "below" "LPolicyWorks$Whole;", Cond.fieldLink RX3 23 "PolicyWorks$Fraction" "one" "LPolicyWorks$Whole;", Cond.fieldLink RX3 26 "PolicyWorks$Fraction" "other" "LPolicyWorks$Whole;", Cond.fieldLink RX3 29 "PolicyWorks$Fraction" "quotient" "LPolicyWorks$Whole;", Cond.methodLink RX3 11 yX8_init, Cond.methodLink RX9 70 yX8_init]
def wsX9_init : List Cond := .code yX9_init cX9_init 2 none :: ((wsX9_init_r1 ++ (wsX9_init_r2 ++ (wsX9_init_r3 ++ (wsX9_init_r4 ++ (wsX9_init_r5 ++ wsX9_init_r6))))) ++ wsX60 ++ wsX90 ++ wsX20 ++ wsX10 ++ wsX50 ++ wsX70 ++ wsX30 ++ wsX80 ++ wsX00 ++ wsX40)
def wsX9_forget : List Cond := .code yX9_forget cX9_forget 2 none :: ([.fieldLink RX9 81 "PolicyWorks" "rounds" "I", .fieldLink RX9 33 "PolicyWorks" "ladder" "LPolicyWorks$Ladder;", .fieldLink RX9 216 "PolicyWorks$Ladder" "known" "I", .fieldLink RX9 54 "PolicyWorks" "worthKnown" "[Z"] ++ wsX90 ++ wsX50)
def wsX9_state : List Cond := .code yX9_state cX9_state 1 (some .int) :: ([.fieldLink RX9 10 "PolicyWorks" "model" "LPolicyWorks$Model;", .fieldLink RX9 85 "PolicyWorks$Model" "states" "I", .methodLink RX9 88 yX9_forget, .instanceMethod yX9_forget, .selects RX9 yX9_forget yX9_forget, .initialized RX9, .code yX9_forget cX9_forget 2 none, .fieldLink RX9 81 "PolicyWorks" "rounds" "I", .fieldLink RX9 33 "PolicyWorks" "ladder" "LPolicyWorks$Ladder;", .fieldLink RX9 216 "PolicyWorks$Ladder" "known" "I", .fieldLink RX9 54 "PolicyWorks" "worthKnown" "[Z"] ++ wsX90 ++ wsX60 ++ wsX50)
def wsX9_action : List Cond := .code yX9_action cX9_action 2 (some .int) :: ([.fieldLink RX9 10 "PolicyWorks" "model" "LPolicyWorks$Model;", .fieldLink RX9 95 "PolicyWorks$Model" "actionCounts" "[I", .methodLink RX9 91 yX6_hasState, .instanceMethod yX6_hasState, .selects RX6 yX6_hasState yX6_hasState, .initialized RX6, .code yX6_hasState cX6_hasState 2 (some .boolean), .fieldLink RX6 22 "PolicyWorks$Model" "states" "I", .methodLink RX9 88 yX9_forget, .instanceMethod yX9_forget, .selects RX9 yX9_forget yX9_forget, .initialized RX9, .code yX9_forget cX9_forget 2 none, .fieldLink RX9 81 "PolicyWorks" "rounds" "I", .fieldLink RX9 33 "PolicyWorks" "ladder" "LPolicyWorks$Ladder;", .fieldLink RX9 216 "PolicyWorks$Ladder" "known" "I", .fieldLink RX9 54 "PolicyWorks" "worthKnown" "[Z"] ++ wsX90 ++ wsX60 ++ wsX50)
def wsX9_reward_r1 : List Cond := [Cond.fieldLink RX9 10 "PolicyWorks" "model" "LPolicyWorks$Model;", Cond.fieldLink RX9 106 "PolicyWorks$Action" "above" "I", Cond.fieldLink RX9 111 "PolicyWorks$Action" "below" "I", Cond.methodLink RX9 98 yX6_hasAction, Cond.instanceMethod yX6_hasAction, Cond.selects RX6 yX6_hasAction yX6_hasAction, Cond.initialized RX6, Cond.code yX6_hasAction cX6_hasAction 3 (some .boolean), Cond.fieldLink RX6 9 "PolicyWorks$Model" "actionCounts" "[I", Cond.methodLink RX6 32 yX6_hasState, Cond.instanceMethod yX6_hasState, Cond.selects RX6 yX6_hasState yX6_hasState, Cond.code yX6_hasState cX6_hasState 2 (some .boolean), Cond.fieldLink RX6 22 "PolicyWorks$Model" "states" "I", Cond.methodLink RX9 88 yX9_forget, Cond.instanceMethod yX9_forget, Cond.selects RX9 yX9_forget yX9_forget, Cond.initialized RX9, Cond.code yX9_forget cX9_forget 2 none, Cond.fieldLink RX9 81 "PolicyWorks" "rounds" "I", Cond.fieldLink RX9 33 "PolicyWorks" "ladder" "LPolicyWorks$Ladder;", Cond.fieldLink RX9 216 "PolicyWorks$Ladder" "known" "I", Cond.fieldLink RX9 54 "PolicyWorks" "worthKnown" "[Z", Cond.methodLink RX9 102 yX6_find]
def wsX9_reward_r2 : List Cond := [Cond.instanceMethod yX6_find, Cond.selects RX6 yX6_find yX6_find, Cond.code yX6_find cX6_find 3 (some (.object "PolicyWorks$Action")), Cond.fieldLink RX6 17 "PolicyWorks$Model" "actions" "[LPolicyWorks$Action;"]
def wsX9_reward : List Cond := .code yX9_reward cX9_reward 7 (some .boolean) :: ((wsX9_reward_r1 ++ wsX9_reward_r2) ++ wsX90 ++ wsX00 ++ wsX60 ++ wsX50)
def wsX9_move_r1 : List Cond := [Cond.fieldLink RX9 10 "PolicyWorks" "model" "LPolicyWorks$Model;", Cond.fieldLink RX9 114 "PolicyWorks$Action" "total" "I", Cond.fieldLink RX9 117 "PolicyWorks$Action" "weights" "[I", Cond.methodLink RX9 91 yX6_hasState, Cond.instanceMethod yX6_hasState, Cond.selects RX6 yX6_hasState yX6_hasState, Cond.initialized RX6, Cond.code yX6_hasState cX6_hasState 2 (some .boolean), Cond.fieldLink RX6 22 "PolicyWorks$Model" "states" "I", Cond.methodLink RX9 98 yX6_hasAction, Cond.instanceMethod yX6_hasAction, Cond.selects RX6 yX6_hasAction yX6_hasAction, Cond.code yX6_hasAction cX6_hasAction 3 (some .boolean), Cond.fieldLink RX6 9 "PolicyWorks$Model" "actionCounts" "[I", Cond.methodLink RX6 32 yX6_hasState, Cond.methodLink RX9 88 yX9_forget, Cond.instanceMethod yX9_forget, Cond.selects RX9 yX9_forget yX9_forget, Cond.initialized RX9, Cond.code yX9_forget cX9_forget 2 none, Cond.fieldLink RX9 81 "PolicyWorks" "rounds" "I", Cond.fieldLink RX9 33 "PolicyWorks" "ladder" "LPolicyWorks$Ladder;", Cond.fieldLink RX9 216 "PolicyWorks$Ladder" "known" "I", Cond.fieldLink RX9 54 "PolicyWorks" "worthKnown" "[Z"]
def wsX9_move_r2 : List Cond := [Cond.methodLink RX9 102 yX6_find, Cond.instanceMethod yX6_find, Cond.selects RX6 yX6_find yX6_find, Cond.code yX6_find cX6_find 3 (some (.object "PolicyWorks$Action")), Cond.fieldLink RX6 17 "PolicyWorks$Model" "actions" "[LPolicyWorks$Action;"]
def wsX9_move : List Cond := .code yX9_move cX9_move 7 (some .boolean) :: ((wsX9_move_r1 ++ wsX9_move_r2) ++ wsX90 ++ wsX00 ++ wsX60 ++ wsX50)
def wsX9_discount : List Cond := .code yX9_discount cX9_discount 3 (some .boolean) :: ([.fieldLink RX9 10 "PolicyWorks" "model" "LPolicyWorks$Model;", .fieldLink RX9 120 "PolicyWorks$Model" "discountAbove" "I", .fieldLink RX9 123 "PolicyWorks$Model" "discountBelow" "I", .methodLink RX9 88 yX9_forget, .instanceMethod yX9_forget, .selects RX9 yX9_forget yX9_forget, .initialized RX9, .code yX9_forget cX9_forget 2 none, .fieldLink RX9 81 "PolicyWorks" "rounds" "I", .fieldLink RX9 33 "PolicyWorks" "ladder" "LPolicyWorks$Ladder;", .fieldLink RX9 216 "PolicyWorks$Ladder" "known" "I", .fieldLink RX9 54 "PolicyWorks" "worthKnown" "[Z"] ++ wsX90 ++ wsX60 ++ wsX50)
def wsJ7_fill_53178 : List Cond := .code yJ7_fill_53178 cJ7_fill_53178 4 none :: ([])
def wsX9_improve_r1 : List Cond := [Cond.fieldLink RX9 10 "PolicyWorks" "model" "LPolicyWorks$Model;", Cond.fieldLink RX9 85 "PolicyWorks$Model" "states" "I", Cond.fieldLink RX9 26 "PolicyWorks" "chooser" "LPolicyWorks$Chooser;", Cond.fieldLink RX9 46 "PolicyWorks" "bestPolicy" "[I", Cond.fieldLink RX9 42 "PolicyWorks" "bestValues" "LPolicyWorks$Row;", Cond.methodLink RX9 219 yX1_greatest, Cond.instanceMethod yX1_greatest, Cond.selects RX1 yX1_greatest yX1_greatest, Cond.initialized RX1, Cond.code yX1_greatest cX1_greatest 8 (some .int), Cond.fieldLink RX1 12 "PolicyWorks$Chooser" "best" "LPolicyWorks$Gain;", Cond.fieldLink RX1 40 "PolicyWorks$Model" "actionCounts" "[I", Cond.fieldLink RX1 18 "PolicyWorks$Chooser" "rival" "LPolicyWorks$Gain;", Cond.methodLink RX1 30 yX6_find, Cond.instanceMethod yX6_find, Cond.selects RX6 yX6_find yX6_find, Cond.initialized RX6, Cond.code yX6_find cX6_find 3 (some (.object "PolicyWorks$Action")), Cond.fieldLink RX6 17 "PolicyWorks$Model" "actions" "[LPolicyWorks$Action;", Cond.methodLink RX1 36 yX4_weigh, Cond.instanceMethod yX4_weigh, Cond.selects RX4 yX4_weigh yX4_weigh, Cond.initialized RX4, Cond.code yX4_weigh cX4_weigh 5 none]
def wsX9_improve_r2 : List Cond := [Cond.fieldLink RX4 24 "PolicyWorks$Action" "below" "I", Cond.fieldLink RX4 29 "PolicyWorks$Model" "discountBelow" "I", Cond.fieldLink RX4 34 "PolicyWorks$Action" "total" "I", Cond.fieldLink RX4 20 "PolicyWorks$Gain" "scale" "I", Cond.fieldLink RX4 14 "PolicyWorks$Gain" "above" "LPolicyWorks$Whole;", Cond.fieldLink RX4 40 "PolicyWorks$Row" "below" "LPolicyWorks$Whole;", Cond.fieldLink RX4 44 "PolicyWorks$Action" "above" "I", Cond.fieldLink RX4 50 "PolicyWorks$Model" "states" "I", Cond.fieldLink RX4 53 "PolicyWorks$Row" "above" "[LPolicyWorks$Whole;", Cond.fieldLink RX4 56 "PolicyWorks$Model" "discountAbove" "I", Cond.fieldLink RX4 59 "PolicyWorks$Action" "weights" "[I", Cond.methodLink RX4 37 yX8_clear, Cond.instanceMethod yX8_clear, Cond.selects RX8 yX8_clear yX8_clear, Cond.initialized RX8, Cond.code yX8_clear cX8_clear 1 none, Cond.fieldLink RX8 7 "PolicyWorks$Whole" "limbs" "[J", Cond.fieldLink RX8 13 "PolicyWorks$Whole" "size" "I", Cond.fieldLink RX8 17 "PolicyWorks$Whole" "sign" "I", Cond.methodLink RX8 20 yJ7_fill_d0a16, Cond.static yJ7_fill_d0a16, Cond.initialized RJ7, Cond.code yJ7_fill_d0a16 cJ7_fill_d0a16 5 none, Cond.methodLink RX4 46 yX8_add]
def wsX9_improve_r3 : List Cond := [Cond.instanceMethod yX8_add, Cond.selects RX8 yX8_add yX8_add, Cond.code yX8_add cX8_add 6 none, Cond.methodLink RX8 32 Lib.Math.min.name, Cond.static Lib.Math.min.name, Cond.initialized "java/lang/Math", Cond.code Lib.Math.min.name Lib.Math.min.code 2 (some .int), Cond.methodLink RX4 63 yX8_settle, Cond.instanceMethod yX8_settle, Cond.selects RX8 yX8_settle yX8_settle, Cond.code yX8_settle cX8_settle 6 none, Cond.constantLong RX8 44 (1000000), Cond.methodLink RX8 46 yJ9_floorDiv_f86c9, Cond.static yJ9_floorDiv_f86c9, Cond.initialized RJ9, Cond.code yJ9_floorDiv_f86c9 cJ9_floorDiv_f86c9 6 (some .long), Cond.methodLink RX8 50 yX8_turnNegative, Cond.instanceMethod yX8_turnNegative, Cond.selects RX8 yX8_turnNegative yX8_turnNegative, Cond.code yX8_turnNegative cX8_turnNegative 3 none, Cond.constantLong RX8 56 (999999), Cond.methodLink RX8 53 yX8_measure, Cond.instanceMethod yX8_measure, Cond.selects RX8 yX8_measure yX8_measure]
def wsX9_improve_r4 : List Cond := [Cond.code yX8_measure cX8_measure 1 none, Cond.methodLink RX1 44 yX1_rivalIsMore, Cond.instanceMethod yX1_rivalIsMore, Cond.selects RX1 yX1_rivalIsMore yX1_rivalIsMore, Cond.code yX1_rivalIsMore cX1_rivalIsMore 1 (some .boolean), Cond.fieldLink RX1 26 "PolicyWorks$Chooser" "gap" "LPolicyWorks$Whole;", Cond.fieldLink RX1 51 "PolicyWorks$Gain" "above" "LPolicyWorks$Whole;", Cond.fieldLink RX1 54 "PolicyWorks$Gain" "scale" "I", Cond.fieldLink RX1 65 "PolicyWorks$Whole" "sign" "I", Cond.methodLink RX1 48 yX8_clear, Cond.methodLink RX1 58 yX8_add, Cond.methodLink RX1 62 yX8_settle]
def wsX9_improve : List Cond := .code yX9_improve cX9_improve 4 (some .boolean) :: ((wsX9_improve_r1 ++ (wsX9_improve_r2 ++ (wsX9_improve_r3 ++ wsX9_improve_r4))) ++ wsX90 ++ wsX60 ++ wsX10 ++ wsX00 ++ wsX40 ++ wsX70 ++ wsX80)
def wsX9_solve_r1 : List Cond := [Cond.fieldLink RX9 10 "PolicyWorks" "model" "LPolicyWorks$Model;", Cond.fieldLink RX9 81 "PolicyWorks" "rounds" "I", Cond.fieldLink RX9 46 "PolicyWorks" "bestPolicy" "[I", Cond.fieldLink RX9 19 "PolicyWorks" "equations" "LPolicyWorks$Equations;", Cond.fieldLink RX9 42 "PolicyWorks" "bestValues" "LPolicyWorks$Row;", Cond.methodLink RX9 126 yX6_allReady, Cond.instanceMethod yX6_allReady, Cond.selects RX6 yX6_allReady yX6_allReady, Cond.initialized RX6, Cond.code yX6_allReady cX6_allReady 2 (some .boolean), Cond.fieldLink RX6 22 "PolicyWorks$Model" "states" "I", Cond.fieldLink RX6 9 "PolicyWorks$Model" "actionCounts" "[I", Cond.methodLink RX6 43 yX6_countActions, Cond.instanceMethod yX6_countActions, Cond.selects RX6 yX6_countActions yX6_countActions, Cond.code yX6_countActions cX6_countActions 5 (some .int), Cond.fieldLink RX6 40 "PolicyWorks$Action" "total" "I", Cond.methodLink RX6 36 yX6_find, Cond.instanceMethod yX6_find, Cond.selects RX6 yX6_find yX6_find, Cond.code yX6_find cX6_find 3 (some (.object "PolicyWorks$Action")), Cond.fieldLink RX6 17 "PolicyWorks$Model" "actions" "[LPolicyWorks$Action;", Cond.methodLink RX9 130 yJ7_fill_53178, Cond.static yJ7_fill_53178]
def wsX9_solve_r2 : List Cond := [Cond.initialized RJ7, Cond.code yJ7_fill_53178 cJ7_fill_53178 4 none, Cond.methodLink RX9 136 yX2_findValues, Cond.instanceMethod yX2_findValues, Cond.selects RX2 yX2_findValues yX2_findValues, Cond.initialized RX2, Cond.code yX2_findValues cX2_findValues 8 none, Cond.fieldLink RX2 25 "PolicyWorks$Model" "states" "I", Cond.fieldLink RX2 18 "PolicyWorks$Equations" "minors" "[LPolicyWorks$Whole;", Cond.fieldLink RX2 47 "PolicyWorks$Row" "below" "LPolicyWorks$Whole;", Cond.fieldLink RX2 57 "PolicyWorks$Row" "above" "[LPolicyWorks$Whole;", Cond.constantLong RX2 60 (-1), Cond.methodLink RX2 31 yX6_find, Cond.methodLink RX2 35 yX2_writeRow, Cond.instanceMethod yX2_writeRow, Cond.selects RX2 yX2_writeRow yX2_writeRow, Cond.code yX2_writeRow cX2_writeRow 6 none, Cond.fieldLink RX2 11 "PolicyWorks$Equations" "rows" "[[I", Cond.fieldLink RX2 65 "PolicyWorks$Action" "below" "I", Cond.fieldLink RX2 69 "PolicyWorks$Model" "discountAbove" "I", Cond.fieldLink RX2 72 "PolicyWorks$Action" "weights" "[I", Cond.fieldLink RX2 76 "PolicyWorks$Model" "discountBelow" "I", Cond.fieldLink RX2 79 "PolicyWorks$Action" "total" "I", Cond.fieldLink RX2 82 "PolicyWorks$Action" "above" "I"]
def wsX9_solve_r3 : List Cond := [Cond.methodLink RX2 39 yX8_put, Cond.instanceMethod yX8_put, Cond.selects RX8 yX8_put yX8_put, Cond.initialized RX8, Cond.code yX8_put cX8_put 3 none, Cond.fieldLink RX8 7 "PolicyWorks$Whole" "limbs" "[J", Cond.methodLink RX8 26 yX8_clear, Cond.instanceMethod yX8_clear, Cond.selects RX8 yX8_clear yX8_clear, Cond.code yX8_clear cX8_clear 1 none, Cond.fieldLink RX8 13 "PolicyWorks$Whole" "size" "I", Cond.fieldLink RX8 17 "PolicyWorks$Whole" "sign" "I", Cond.methodLink RX8 20 yJ7_fill_d0a16, Cond.static yJ7_fill_d0a16, Cond.code yJ7_fill_d0a16 cJ7_fill_d0a16 5 none, Cond.methodLink RX8 29 yX8_settle, Cond.instanceMethod yX8_settle, Cond.selects RX8 yX8_settle yX8_settle, Cond.code yX8_settle cX8_settle 6 none, Cond.constantLong RX8 44 (1000000), Cond.methodLink RX8 46 yJ9_floorDiv_f86c9, Cond.static yJ9_floorDiv_f86c9, Cond.initialized RJ9, Cond.code yJ9_floorDiv_f86c9 cJ9_floorDiv_f86c9 6 (some .long)]
def wsX9_solve_r4 : List Cond := [Cond.methodLink RX8 50 yX8_turnNegative, Cond.instanceMethod yX8_turnNegative, Cond.selects RX8 yX8_turnNegative yX8_turnNegative, Cond.code yX8_turnNegative cX8_turnNegative 3 none, Cond.constantLong RX8 56 (999999), Cond.methodLink RX8 53 yX8_measure, Cond.instanceMethod yX8_measure, Cond.selects RX8 yX8_measure yX8_measure, Cond.code yX8_measure cX8_measure 1 none, Cond.methodLink RX2 43 yX2_expand, Cond.instanceMethod yX2_expand, Cond.selects RX2 yX2_expand yX2_expand, Cond.code yX2_expand cX2_expand 7 none, Cond.methodLink RX2 84 yJ6_bitCount_0f7a4, Cond.static yJ6_bitCount_0f7a4, Cond.initialized RJ6, Cond.code yJ6_bitCount_0f7a4 cJ6_bitCount_0f7a4 1 (some .int), Cond.constant RJ6 265 (1431655765), Cond.constant RJ6 266 (858993459), Cond.constant RJ6 267 (252645135), Cond.methodLink RX2 90 yX8_clear, Cond.methodLink RX2 93 yX8_add, Cond.instanceMethod yX8_add, Cond.selects RX8 yX8_add yX8_add]
def wsX9_solve_r5 : List Cond := [Cond.code yX8_add cX8_add 6 none, Cond.methodLink RX8 32 Lib.Math.min.name, Cond.static Lib.Math.min.name, Cond.initialized "java/lang/Math", Cond.code Lib.Math.min.name Lib.Math.min.code 2 (some .int), Cond.methodLink RX2 97 yX8_settle, Cond.methodLink RX2 53 yX8_copy, Cond.instanceMethod yX8_copy, Cond.selects RX8 yX8_copy yX8_copy, Cond.code yX8_copy cX8_copy 2 none, Cond.methodLink RX8 38 arraycopyName, Cond.native arraycopyName, Cond.static arraycopyName, Cond.initialized "java/lang/System", Cond.methodLink RX2 62 yX8_multiply, Cond.instanceMethod yX8_multiply, Cond.selects RX8 yX8_multiply yX8_multiply, Cond.code yX8_multiply cX8_multiply 4 none, Cond.methodLink RX9 140 yX9_improve, Cond.instanceMethod yX9_improve, Cond.selects RX9 yX9_improve yX9_improve, Cond.initialized RX9, Cond.code yX9_improve cX9_improve 4 (some .boolean), Cond.fieldLink RX9 85 "PolicyWorks$Model" "states" "I"]
def wsX9_solve_r6 : List Cond := [Cond.fieldLink RX9 26 "PolicyWorks" "chooser" "LPolicyWorks$Chooser;", Cond.methodLink RX9 219 yX1_greatest, Cond.instanceMethod yX1_greatest, Cond.selects RX1 yX1_greatest yX1_greatest, Cond.initialized RX1, Cond.code yX1_greatest cX1_greatest 8 (some .int), Cond.fieldLink RX1 12 "PolicyWorks$Chooser" "best" "LPolicyWorks$Gain;", Cond.fieldLink RX1 40 "PolicyWorks$Model" "actionCounts" "[I", Cond.fieldLink RX1 18 "PolicyWorks$Chooser" "rival" "LPolicyWorks$Gain;", Cond.methodLink RX1 30 yX6_find, Cond.methodLink RX1 36 yX4_weigh, Cond.instanceMethod yX4_weigh, Cond.selects RX4 yX4_weigh yX4_weigh, Cond.initialized RX4, Cond.code yX4_weigh cX4_weigh 5 none, Cond.fieldLink RX4 24 "PolicyWorks$Action" "below" "I", Cond.fieldLink RX4 29 "PolicyWorks$Model" "discountBelow" "I", Cond.fieldLink RX4 34 "PolicyWorks$Action" "total" "I", Cond.fieldLink RX4 20 "PolicyWorks$Gain" "scale" "I", Cond.fieldLink RX4 14 "PolicyWorks$Gain" "above" "LPolicyWorks$Whole;", Cond.fieldLink RX4 40 "PolicyWorks$Row" "below" "LPolicyWorks$Whole;", Cond.fieldLink RX4 44 "PolicyWorks$Action" "above" "I", Cond.fieldLink RX4 50 "PolicyWorks$Model" "states" "I", Cond.fieldLink RX4 53 "PolicyWorks$Row" "above" "[LPolicyWorks$Whole;"]
def wsX9_solve_r7 : List Cond := [Cond.fieldLink RX4 56 "PolicyWorks$Model" "discountAbove" "I", Cond.fieldLink RX4 59 "PolicyWorks$Action" "weights" "[I", Cond.methodLink RX4 37 yX8_clear, Cond.methodLink RX4 46 yX8_add, Cond.methodLink RX4 63 yX8_settle, Cond.methodLink RX1 44 yX1_rivalIsMore, Cond.instanceMethod yX1_rivalIsMore, Cond.selects RX1 yX1_rivalIsMore yX1_rivalIsMore, Cond.code yX1_rivalIsMore cX1_rivalIsMore 1 (some .boolean), Cond.fieldLink RX1 26 "PolicyWorks$Chooser" "gap" "LPolicyWorks$Whole;", Cond.fieldLink RX1 51 "PolicyWorks$Gain" "above" "LPolicyWorks$Whole;", Cond.fieldLink RX1 54 "PolicyWorks$Gain" "scale" "I", Cond.fieldLink RX1 65 "PolicyWorks$Whole" "sign" "I", Cond.methodLink RX1 48 yX8_clear, Cond.methodLink RX1 58 yX8_add, Cond.methodLink RX1 62 yX8_settle]
def wsX9_solve : List Cond := .code yX9_solve cX9_solve 3 (some .int) :: ((wsX9_solve_r1 ++ (wsX9_solve_r2 ++ (wsX9_solve_r3 ++ (wsX9_solve_r4 ++ (wsX9_solve_r5 ++ (wsX9_solve_r6 ++ wsX9_solve_r7)))))) ++ wsX90 ++ wsX60 ++ wsX00 ++ wsX20 ++ wsX70 ++ wsX80 ++ wsX10 ++ wsX40)
def wsX9_policy : List Cond := .code yX9_policy cX9_policy 2 (some .int) :: ([.fieldLink RX9 81 "PolicyWorks" "rounds" "I", .fieldLink RX9 10 "PolicyWorks" "model" "LPolicyWorks$Model;", .fieldLink RX9 46 "PolicyWorks" "bestPolicy" "[I", .methodLink RX9 91 yX6_hasState, .instanceMethod yX6_hasState, .selects RX6 yX6_hasState yX6_hasState, .initialized RX6, .code yX6_hasState cX6_hasState 2 (some .boolean), .fieldLink RX6 22 "PolicyWorks$Model" "states" "I"] ++ wsX90 ++ wsX60)
def wsX9_refusal : List Cond := .code yX9_refusal cX9_refusal 1 (some .long) :: ([.constantLong RX9 212 (-2), .constantLong RX9 214 (-1)])
def wsX9_hold_r1 : List Cond := [Cond.fieldLink RX9 64 "PolicyWorks" "told" "LPolicyWorks$Fraction;", Cond.fieldLink RX9 164 "PolicyWorks$Fraction" "above" "LPolicyWorks$Whole;", Cond.fieldLink RX9 232 "PolicyWorks$Row" "above" "[LPolicyWorks$Whole;", Cond.fieldLink RX9 171 "PolicyWorks$Fraction" "below" "LPolicyWorks$Whole;", Cond.fieldLink RX9 173 "PolicyWorks$Row" "below" "LPolicyWorks$Whole;", Cond.methodLink RX9 167 yX8_copy, Cond.instanceMethod yX8_copy, Cond.selects RX8 yX8_copy yX8_copy, Cond.initialized RX8, Cond.code yX8_copy cX8_copy 2 none, Cond.fieldLink RX8 13 "PolicyWorks$Whole" "size" "I", Cond.fieldLink RX8 7 "PolicyWorks$Whole" "limbs" "[J", Cond.methodLink RX8 32 Lib.Math.min.name, Cond.static Lib.Math.min.name, Cond.initialized "java/lang/Math", Cond.code Lib.Math.min.name Lib.Math.min.code 2 (some .int), Cond.methodLink RX8 38 arraycopyName, Cond.native arraycopyName, Cond.static arraycopyName, Cond.initialized "java/lang/System", Cond.fieldLink RX8 17 "PolicyWorks$Whole" "sign" "I", Cond.methodLink RX8 26 yX8_clear, Cond.instanceMethod yX8_clear, Cond.selects RX8 yX8_clear yX8_clear]
def wsX9_hold_r2 : List Cond := [Cond.code yX8_clear cX8_clear 1 none, Cond.methodLink RX8 20 yJ7_fill_d0a16, Cond.static yJ7_fill_d0a16, Cond.initialized RJ7, Cond.code yJ7_fill_d0a16 cJ7_fill_d0a16 5 none]
def wsX9_hold : List Cond := .code yX9_hold cX9_hold 3 none :: ((wsX9_hold_r1 ++ wsX9_hold_r2) ++ wsX90 ++ wsX30 ++ wsX70 ++ wsX80)
def wsX9_value_r1 : List Cond := [Cond.fieldLink RX9 81 "PolicyWorks" "rounds" "I", Cond.fieldLink RX9 10 "PolicyWorks" "model" "LPolicyWorks$Model;", Cond.fieldLink RX9 42 "PolicyWorks" "bestValues" "LPolicyWorks$Row;", Cond.fieldLink RX9 64 "PolicyWorks" "told" "LPolicyWorks$Fraction;", Cond.methodLink RX9 91 yX6_hasState, Cond.instanceMethod yX6_hasState, Cond.selects RX6 yX6_hasState yX6_hasState, Cond.initialized RX6, Cond.code yX6_hasState cX6_hasState 2 (some .boolean), Cond.fieldLink RX6 22 "PolicyWorks$Model" "states" "I", Cond.methodLink RX9 143 yX9_refusal, Cond.static yX9_refusal, Cond.initialized RX9, Cond.code yX9_refusal cX9_refusal 1 (some .long), Cond.constantLong RX9 212 (-2), Cond.constantLong RX9 214 (-1), Cond.methodLink RX9 147 yX9_hold, Cond.instanceMethod yX9_hold, Cond.selects RX9 yX9_hold yX9_hold, Cond.code yX9_hold cX9_hold 3 none, Cond.fieldLink RX9 164 "PolicyWorks$Fraction" "above" "LPolicyWorks$Whole;", Cond.fieldLink RX9 232 "PolicyWorks$Row" "above" "[LPolicyWorks$Whole;", Cond.fieldLink RX9 171 "PolicyWorks$Fraction" "below" "LPolicyWorks$Whole;", Cond.fieldLink RX9 173 "PolicyWorks$Row" "below" "LPolicyWorks$Whole;"]
def wsX9_value_r2 : List Cond := [Cond.methodLink RX9 167 yX8_copy, Cond.instanceMethod yX8_copy, Cond.selects RX8 yX8_copy yX8_copy, Cond.initialized RX8, Cond.code yX8_copy cX8_copy 2 none, Cond.fieldLink RX8 13 "PolicyWorks$Whole" "size" "I", Cond.fieldLink RX8 7 "PolicyWorks$Whole" "limbs" "[J", Cond.methodLink RX8 32 Lib.Math.min.name, Cond.static Lib.Math.min.name, Cond.initialized "java/lang/Math", Cond.code Lib.Math.min.name Lib.Math.min.code 2 (some .int), Cond.methodLink RX8 38 arraycopyName, Cond.native arraycopyName, Cond.static arraycopyName, Cond.initialized "java/lang/System", Cond.fieldLink RX8 17 "PolicyWorks$Whole" "sign" "I", Cond.methodLink RX8 26 yX8_clear, Cond.instanceMethod yX8_clear, Cond.selects RX8 yX8_clear yX8_clear, Cond.code yX8_clear cX8_clear 1 none, Cond.methodLink RX8 20 yJ7_fill_d0a16, Cond.static yJ7_fill_d0a16, Cond.initialized RJ7, Cond.code yJ7_fill_d0a16 cJ7_fill_d0a16 5 none]
def wsX9_value_r3 : List Cond := [Cond.methodLink RX9 151 yX3_tell, Cond.instanceMethod yX3_tell, Cond.selects RX3 yX3_tell yX3_tell, Cond.initialized RX3, Cond.code yX3_tell cX3_tell 2 (some .long), Cond.fieldLink RX3 14 "PolicyWorks$Fraction" "above" "LPolicyWorks$Whole;", Cond.fieldLink RX3 32 "PolicyWorks$Whole" "sign" "I", Cond.fieldLink RX3 20 "PolicyWorks$Fraction" "below" "LPolicyWorks$Whole;", Cond.methodLink RX3 36 yX3_reduce, Cond.instanceMethod yX3_reduce, Cond.selects RX3 yX3_reduce yX3_reduce, Cond.code yX3_reduce cX3_reduce 2 none, Cond.fieldLink RX3 29 "PolicyWorks$Fraction" "quotient" "LPolicyWorks$Whole;", Cond.methodLink RX3 43 yX8_dropSign, Cond.instanceMethod yX8_dropSign, Cond.selects RX8 yX8_dropSign yX8_dropSign, Cond.code yX8_dropSign cX8_dropSign 2 none, Cond.methodLink RX3 46 yX3_commonDivisor, Cond.instanceMethod yX3_commonDivisor, Cond.selects RX3 yX3_commonDivisor yX3_commonDivisor, Cond.code yX3_commonDivisor cX3_commonDivisor 5 (some (.object "PolicyWorks$Whole")), Cond.fieldLink RX3 23 "PolicyWorks$Fraction" "one" "LPolicyWorks$Whole;", Cond.fieldLink RX3 26 "PolicyWorks$Fraction" "other" "LPolicyWorks$Whole;", Cond.fieldLink RX3 58 "PolicyWorks$Whole" "size" "I"]
def wsX9_value_r4 : List Cond := [Cond.methodLink RX3 54 yX8_copy, Cond.methodLink RX3 50 yX8_divide, Cond.instanceMethod yX8_divide, Cond.selects RX8 yX8_divide yX8_divide, Cond.code yX8_divide cX8_divide 7 none, Cond.methodLink RX8 73 Lib.MathLoose.max_long.x, Cond.static Lib.MathLoose.max_long.x, Cond.code Lib.MathLoose.max_long.x Lib.MathLoose.max_long.code 4 (some .long), Cond.methodLink RX8 65 yX8_reaches, Cond.instanceMethod yX8_reaches, Cond.selects RX8 yX8_reaches yX8_reaches, Cond.code yX8_reaches cX8_reaches 4 (some .boolean), Cond.methodLink RX8 69 yX8_guess, Cond.instanceMethod yX8_guess, Cond.selects RX8 yX8_guess yX8_guess, Cond.code yX8_guess cX8_guess 8 (some .long), Cond.constantLong RX8 44 (1000000), Cond.methodLink RX8 61 yX8_limbAt, Cond.instanceMethod yX8_limbAt, Cond.selects RX8 yX8_limbAt yX8_limbAt, Cond.code yX8_limbAt cX8_limbAt 2 (some .long), Cond.methodLink RX8 75 yX8_takeAway, Cond.instanceMethod yX8_takeAway, Cond.selects RX8 yX8_takeAway yX8_takeAway]
def wsX9_value_r5 : List Cond := [Cond.code yX8_takeAway cX8_takeAway 10 none, Cond.methodLink RX8 46 yJ9_floorDiv_f86c9, Cond.static yJ9_floorDiv_f86c9, Cond.initialized RJ9, Cond.code yJ9_floorDiv_f86c9 cJ9_floorDiv_f86c9 6 (some .long), Cond.methodLink RX8 53 yX8_measure, Cond.instanceMethod yX8_measure, Cond.selects RX8 yX8_measure yX8_measure, Cond.code yX8_measure cX8_measure 1 none, Cond.methodLink RX3 39 yX8_eighteen, Cond.instanceMethod yX8_eighteen, Cond.selects RX8 yX8_eighteen yX8_eighteen, Cond.code yX8_eighteen cX8_eighteen 5 (some .long)]
def wsX9_value : List Cond := .code yX9_value cX9_value 3 (some .long) :: ((wsX9_value_r1 ++ (wsX9_value_r2 ++ (wsX9_value_r3 ++ (wsX9_value_r4 ++ wsX9_value_r5)))) ++ wsX90 ++ wsX60 ++ wsX30 ++ wsX70 ++ wsX80)
def wsX9_gain_r1 : List Cond := [Cond.fieldLink RX9 81 "PolicyWorks" "rounds" "I", Cond.fieldLink RX9 10 "PolicyWorks" "model" "LPolicyWorks$Model;", Cond.fieldLink RX9 26 "PolicyWorks" "chooser" "LPolicyWorks$Chooser;", Cond.fieldLink RX9 154 "PolicyWorks$Chooser" "best" "LPolicyWorks$Gain;", Cond.fieldLink RX9 42 "PolicyWorks" "bestValues" "LPolicyWorks$Row;", Cond.fieldLink RX9 64 "PolicyWorks" "told" "LPolicyWorks$Fraction;", Cond.fieldLink RX9 164 "PolicyWorks$Fraction" "above" "LPolicyWorks$Whole;", Cond.fieldLink RX9 166 "PolicyWorks$Gain" "above" "LPolicyWorks$Whole;", Cond.fieldLink RX9 171 "PolicyWorks$Fraction" "below" "LPolicyWorks$Whole;", Cond.fieldLink RX9 173 "PolicyWorks$Row" "below" "LPolicyWorks$Whole;", Cond.fieldLink RX9 174 "PolicyWorks$Gain" "scale" "I", Cond.methodLink RX9 98 yX6_hasAction, Cond.instanceMethod yX6_hasAction, Cond.selects RX6 yX6_hasAction yX6_hasAction, Cond.initialized RX6, Cond.code yX6_hasAction cX6_hasAction 3 (some .boolean), Cond.fieldLink RX6 9 "PolicyWorks$Model" "actionCounts" "[I", Cond.methodLink RX6 32 yX6_hasState, Cond.instanceMethod yX6_hasState, Cond.selects RX6 yX6_hasState yX6_hasState, Cond.code yX6_hasState cX6_hasState 2 (some .boolean), Cond.fieldLink RX6 22 "PolicyWorks$Model" "states" "I", Cond.methodLink RX9 143 yX9_refusal, Cond.static yX9_refusal]
def wsX9_gain_r2 : List Cond := [Cond.initialized RX9, Cond.code yX9_refusal cX9_refusal 1 (some .long), Cond.constantLong RX9 212 (-2), Cond.constantLong RX9 214 (-1), Cond.methodLink RX9 102 yX6_find, Cond.instanceMethod yX6_find, Cond.selects RX6 yX6_find yX6_find, Cond.code yX6_find cX6_find 3 (some (.object "PolicyWorks$Action")), Cond.fieldLink RX6 17 "PolicyWorks$Model" "actions" "[LPolicyWorks$Action;", Cond.methodLink RX9 158 yX4_weigh, Cond.instanceMethod yX4_weigh, Cond.selects RX4 yX4_weigh yX4_weigh, Cond.initialized RX4, Cond.code yX4_weigh cX4_weigh 5 none, Cond.fieldLink RX4 24 "PolicyWorks$Action" "below" "I", Cond.fieldLink RX4 29 "PolicyWorks$Model" "discountBelow" "I", Cond.fieldLink RX4 34 "PolicyWorks$Action" "total" "I", Cond.fieldLink RX4 20 "PolicyWorks$Gain" "scale" "I", Cond.fieldLink RX4 14 "PolicyWorks$Gain" "above" "LPolicyWorks$Whole;", Cond.fieldLink RX4 40 "PolicyWorks$Row" "below" "LPolicyWorks$Whole;", Cond.fieldLink RX4 44 "PolicyWorks$Action" "above" "I", Cond.fieldLink RX4 50 "PolicyWorks$Model" "states" "I", Cond.fieldLink RX4 53 "PolicyWorks$Row" "above" "[LPolicyWorks$Whole;", Cond.fieldLink RX4 56 "PolicyWorks$Model" "discountAbove" "I"]
def wsX9_gain_r3 : List Cond := [Cond.fieldLink RX4 59 "PolicyWorks$Action" "weights" "[I", Cond.methodLink RX4 37 yX8_clear, Cond.instanceMethod yX8_clear, Cond.selects RX8 yX8_clear yX8_clear, Cond.initialized RX8, Cond.code yX8_clear cX8_clear 1 none, Cond.fieldLink RX8 7 "PolicyWorks$Whole" "limbs" "[J", Cond.fieldLink RX8 13 "PolicyWorks$Whole" "size" "I", Cond.fieldLink RX8 17 "PolicyWorks$Whole" "sign" "I", Cond.methodLink RX8 20 yJ7_fill_d0a16, Cond.static yJ7_fill_d0a16, Cond.initialized RJ7, Cond.code yJ7_fill_d0a16 cJ7_fill_d0a16 5 none, Cond.methodLink RX4 46 yX8_add, Cond.instanceMethod yX8_add, Cond.selects RX8 yX8_add yX8_add, Cond.code yX8_add cX8_add 6 none, Cond.methodLink RX8 32 Lib.Math.min.name, Cond.static Lib.Math.min.name, Cond.initialized "java/lang/Math", Cond.code Lib.Math.min.name Lib.Math.min.code 2 (some .int), Cond.methodLink RX4 63 yX8_settle, Cond.instanceMethod yX8_settle, Cond.selects RX8 yX8_settle yX8_settle]
def wsX9_gain_r4 : List Cond := [Cond.code yX8_settle cX8_settle 6 none, Cond.constantLong RX8 44 (1000000), Cond.methodLink RX8 46 yJ9_floorDiv_f86c9, Cond.static yJ9_floorDiv_f86c9, Cond.initialized RJ9, Cond.code yJ9_floorDiv_f86c9 cJ9_floorDiv_f86c9 6 (some .long), Cond.methodLink RX8 50 yX8_turnNegative, Cond.instanceMethod yX8_turnNegative, Cond.selects RX8 yX8_turnNegative yX8_turnNegative, Cond.code yX8_turnNegative cX8_turnNegative 3 none, Cond.constantLong RX8 56 (999999), Cond.methodLink RX8 53 yX8_measure, Cond.instanceMethod yX8_measure, Cond.selects RX8 yX8_measure yX8_measure, Cond.code yX8_measure cX8_measure 1 none, Cond.methodLink RX9 167 yX8_copy, Cond.instanceMethod yX8_copy, Cond.selects RX8 yX8_copy yX8_copy, Cond.code yX8_copy cX8_copy 2 none, Cond.methodLink RX8 38 arraycopyName, Cond.native arraycopyName, Cond.static arraycopyName, Cond.initialized "java/lang/System", Cond.methodLink RX8 26 yX8_clear]
def wsX9_gain_r5 : List Cond := [Cond.methodLink RX9 177 yX8_multiply, Cond.instanceMethod yX8_multiply, Cond.selects RX8 yX8_multiply yX8_multiply, Cond.code yX8_multiply cX8_multiply 4 none, Cond.methodLink RX8 29 yX8_settle, Cond.methodLink RX9 151 yX3_tell, Cond.instanceMethod yX3_tell, Cond.selects RX3 yX3_tell yX3_tell, Cond.initialized RX3, Cond.code yX3_tell cX3_tell 2 (some .long), Cond.fieldLink RX3 14 "PolicyWorks$Fraction" "above" "LPolicyWorks$Whole;", Cond.fieldLink RX3 32 "PolicyWorks$Whole" "sign" "I", Cond.fieldLink RX3 20 "PolicyWorks$Fraction" "below" "LPolicyWorks$Whole;", Cond.methodLink RX3 36 yX3_reduce, Cond.instanceMethod yX3_reduce, Cond.selects RX3 yX3_reduce yX3_reduce, Cond.code yX3_reduce cX3_reduce 2 none, Cond.fieldLink RX3 29 "PolicyWorks$Fraction" "quotient" "LPolicyWorks$Whole;", Cond.methodLink RX3 43 yX8_dropSign, Cond.instanceMethod yX8_dropSign, Cond.selects RX8 yX8_dropSign yX8_dropSign, Cond.code yX8_dropSign cX8_dropSign 2 none, Cond.methodLink RX3 46 yX3_commonDivisor, Cond.instanceMethod yX3_commonDivisor]
def wsX9_gain_r6 : List Cond := [Cond.selects RX3 yX3_commonDivisor yX3_commonDivisor, Cond.code yX3_commonDivisor cX3_commonDivisor 5 (some (.object "PolicyWorks$Whole")), Cond.fieldLink RX3 23 "PolicyWorks$Fraction" "one" "LPolicyWorks$Whole;", Cond.fieldLink RX3 26 "PolicyWorks$Fraction" "other" "LPolicyWorks$Whole;", Cond.fieldLink RX3 58 "PolicyWorks$Whole" "size" "I", Cond.methodLink RX3 54 yX8_copy, Cond.methodLink RX3 50 yX8_divide, Cond.instanceMethod yX8_divide, Cond.selects RX8 yX8_divide yX8_divide, Cond.code yX8_divide cX8_divide 7 none, Cond.methodLink RX8 73 Lib.MathLoose.max_long.x, Cond.static Lib.MathLoose.max_long.x, Cond.code Lib.MathLoose.max_long.x Lib.MathLoose.max_long.code 4 (some .long), Cond.methodLink RX8 65 yX8_reaches, Cond.instanceMethod yX8_reaches, Cond.selects RX8 yX8_reaches yX8_reaches, Cond.code yX8_reaches cX8_reaches 4 (some .boolean), Cond.methodLink RX8 69 yX8_guess, Cond.instanceMethod yX8_guess, Cond.selects RX8 yX8_guess yX8_guess, Cond.code yX8_guess cX8_guess 8 (some .long), Cond.methodLink RX8 61 yX8_limbAt, Cond.instanceMethod yX8_limbAt, Cond.selects RX8 yX8_limbAt yX8_limbAt]
def wsX9_gain_r7 : List Cond := [Cond.code yX8_limbAt cX8_limbAt 2 (some .long), Cond.methodLink RX8 75 yX8_takeAway, Cond.instanceMethod yX8_takeAway, Cond.selects RX8 yX8_takeAway yX8_takeAway, Cond.code yX8_takeAway cX8_takeAway 10 none, Cond.methodLink RX3 39 yX8_eighteen, Cond.instanceMethod yX8_eighteen, Cond.selects RX8 yX8_eighteen yX8_eighteen, Cond.code yX8_eighteen cX8_eighteen 5 (some .long)]
def wsX9_gain : List Cond := .code yX9_gain cX9_gain 5 (some .long) :: ((wsX9_gain_r1 ++ (wsX9_gain_r2 ++ (wsX9_gain_r3 ++ (wsX9_gain_r4 ++ (wsX9_gain_r5 ++ (wsX9_gain_r6 ++ wsX9_gain_r7)))))) ++ wsX90 ++ wsX10 ++ wsX30 ++ wsX40 ++ wsX70 ++ wsX60 ++ wsX00 ++ wsX80)
def wsX9_findWorth_r1 : List Cond := [Cond.fieldLink RX9 54 "PolicyWorks" "worthKnown" "[Z", Cond.fieldLink RX9 10 "PolicyWorks" "model" "LPolicyWorks$Model;", Cond.fieldLink RX9 85 "PolicyWorks$Model" "states" "I", Cond.fieldLink RX9 58 "PolicyWorks" "trial" "[I", Cond.fieldLink RX9 95 "PolicyWorks$Model" "actionCounts" "[I", Cond.methodLink RX9 223 Lib.Math.min.name, Cond.static Lib.Math.min.name, Cond.initialized "java/lang/Math", Cond.code Lib.Math.min.name Lib.Math.min.code 2 (some .int), Cond.fieldLink RX9 19 "PolicyWorks" "equations" "LPolicyWorks$Equations;", Cond.fieldLink RX9 50 "PolicyWorks" "worths" "[LPolicyWorks$Row;", Cond.methodLink RX9 136 yX2_findValues, Cond.instanceMethod yX2_findValues, Cond.selects RX2 yX2_findValues yX2_findValues, Cond.initialized RX2, Cond.code yX2_findValues cX2_findValues 8 none, Cond.fieldLink RX2 25 "PolicyWorks$Model" "states" "I", Cond.fieldLink RX2 18 "PolicyWorks$Equations" "minors" "[LPolicyWorks$Whole;", Cond.fieldLink RX2 47 "PolicyWorks$Row" "below" "LPolicyWorks$Whole;", Cond.fieldLink RX2 57 "PolicyWorks$Row" "above" "[LPolicyWorks$Whole;", Cond.constantLong RX2 60 (-1), Cond.methodLink RX2 31 yX6_find, Cond.instanceMethod yX6_find, Cond.selects RX6 yX6_find yX6_find]
def wsX9_findWorth_r2 : List Cond := [Cond.initialized RX6, Cond.code yX6_find cX6_find 3 (some (.object "PolicyWorks$Action")), Cond.fieldLink RX6 17 "PolicyWorks$Model" "actions" "[LPolicyWorks$Action;", Cond.methodLink RX2 35 yX2_writeRow, Cond.instanceMethod yX2_writeRow, Cond.selects RX2 yX2_writeRow yX2_writeRow, Cond.code yX2_writeRow cX2_writeRow 6 none, Cond.fieldLink RX2 11 "PolicyWorks$Equations" "rows" "[[I", Cond.fieldLink RX2 65 "PolicyWorks$Action" "below" "I", Cond.fieldLink RX2 69 "PolicyWorks$Model" "discountAbove" "I", Cond.fieldLink RX2 72 "PolicyWorks$Action" "weights" "[I", Cond.fieldLink RX2 76 "PolicyWorks$Model" "discountBelow" "I", Cond.fieldLink RX2 79 "PolicyWorks$Action" "total" "I", Cond.fieldLink RX2 82 "PolicyWorks$Action" "above" "I", Cond.methodLink RX2 39 yX8_put, Cond.instanceMethod yX8_put, Cond.selects RX8 yX8_put yX8_put, Cond.initialized RX8, Cond.code yX8_put cX8_put 3 none, Cond.fieldLink RX8 7 "PolicyWorks$Whole" "limbs" "[J", Cond.methodLink RX8 26 yX8_clear, Cond.instanceMethod yX8_clear, Cond.selects RX8 yX8_clear yX8_clear, Cond.code yX8_clear cX8_clear 1 none]
def wsX9_findWorth_r3 : List Cond := [Cond.fieldLink RX8 13 "PolicyWorks$Whole" "size" "I", Cond.fieldLink RX8 17 "PolicyWorks$Whole" "sign" "I", Cond.methodLink RX8 20 yJ7_fill_d0a16, Cond.static yJ7_fill_d0a16, Cond.initialized RJ7, Cond.code yJ7_fill_d0a16 cJ7_fill_d0a16 5 none, Cond.methodLink RX8 29 yX8_settle, Cond.instanceMethod yX8_settle, Cond.selects RX8 yX8_settle yX8_settle, Cond.code yX8_settle cX8_settle 6 none, Cond.constantLong RX8 44 (1000000), Cond.methodLink RX8 46 yJ9_floorDiv_f86c9, Cond.static yJ9_floorDiv_f86c9, Cond.initialized RJ9, Cond.code yJ9_floorDiv_f86c9 cJ9_floorDiv_f86c9 6 (some .long), Cond.methodLink RX8 50 yX8_turnNegative, Cond.instanceMethod yX8_turnNegative, Cond.selects RX8 yX8_turnNegative yX8_turnNegative, Cond.code yX8_turnNegative cX8_turnNegative 3 none, Cond.constantLong RX8 56 (999999), Cond.methodLink RX8 53 yX8_measure, Cond.instanceMethod yX8_measure, Cond.selects RX8 yX8_measure yX8_measure, Cond.code yX8_measure cX8_measure 1 none]
def wsX9_findWorth_r4 : List Cond := [Cond.methodLink RX2 43 yX2_expand, Cond.instanceMethod yX2_expand, Cond.selects RX2 yX2_expand yX2_expand, Cond.code yX2_expand cX2_expand 7 none, Cond.methodLink RX2 84 yJ6_bitCount_0f7a4, Cond.static yJ6_bitCount_0f7a4, Cond.initialized RJ6, Cond.code yJ6_bitCount_0f7a4 cJ6_bitCount_0f7a4 1 (some .int), Cond.constant RJ6 265 (1431655765), Cond.constant RJ6 266 (858993459), Cond.constant RJ6 267 (252645135), Cond.methodLink RX2 90 yX8_clear, Cond.methodLink RX2 93 yX8_add, Cond.instanceMethod yX8_add, Cond.selects RX8 yX8_add yX8_add, Cond.code yX8_add cX8_add 6 none, Cond.methodLink RX8 32 Lib.Math.min.name, Cond.methodLink RX2 97 yX8_settle, Cond.methodLink RX2 53 yX8_copy, Cond.instanceMethod yX8_copy, Cond.selects RX8 yX8_copy yX8_copy, Cond.code yX8_copy cX8_copy 2 none, Cond.methodLink RX8 38 arraycopyName, Cond.native arraycopyName]
def wsX9_findWorth_r5 : List Cond := [Cond.static arraycopyName, Cond.initialized "java/lang/System", Cond.methodLink RX2 62 yX8_multiply, Cond.instanceMethod yX8_multiply, Cond.selects RX8 yX8_multiply yX8_multiply, Cond.code yX8_multiply cX8_multiply 4 none]
def wsX9_findWorth : List Cond := .code yX9_findWorth cX9_findWorth 3 (some (.object "PolicyWorks$Row")) :: ((wsX9_findWorth_r1 ++ (wsX9_findWorth_r2 ++ (wsX9_findWorth_r3 ++ (wsX9_findWorth_r4 ++ wsX9_findWorth_r5)))) ++ wsX90 ++ wsX60 ++ wsX20 ++ wsX70 ++ wsX00 ++ wsX80)
def wsX9_worth_r1 : List Cond := [Cond.fieldLink RX9 10 "PolicyWorks" "model" "LPolicyWorks$Model;", Cond.fieldLink RX9 64 "PolicyWorks" "told" "LPolicyWorks$Fraction;", Cond.methodLink RX9 91 yX6_hasState, Cond.instanceMethod yX6_hasState, Cond.selects RX6 yX6_hasState yX6_hasState, Cond.initialized RX6, Cond.code yX6_hasState cX6_hasState 2 (some .boolean), Cond.fieldLink RX6 22 "PolicyWorks$Model" "states" "I", Cond.methodLink RX9 126 yX6_allReady, Cond.instanceMethod yX6_allReady, Cond.selects RX6 yX6_allReady yX6_allReady, Cond.code yX6_allReady cX6_allReady 2 (some .boolean), Cond.fieldLink RX6 9 "PolicyWorks$Model" "actionCounts" "[I", Cond.methodLink RX6 43 yX6_countActions, Cond.instanceMethod yX6_countActions, Cond.selects RX6 yX6_countActions yX6_countActions, Cond.code yX6_countActions cX6_countActions 5 (some .int), Cond.fieldLink RX6 40 "PolicyWorks$Action" "total" "I", Cond.methodLink RX6 36 yX6_find, Cond.instanceMethod yX6_find, Cond.selects RX6 yX6_find yX6_find, Cond.code yX6_find cX6_find 3 (some (.object "PolicyWorks$Action")), Cond.fieldLink RX6 17 "PolicyWorks$Model" "actions" "[LPolicyWorks$Action;", Cond.methodLink RX9 143 yX9_refusal]
def wsX9_worth_r2 : List Cond := [Cond.static yX9_refusal, Cond.initialized RX9, Cond.code yX9_refusal cX9_refusal 1 (some .long), Cond.constantLong RX9 212 (-2), Cond.constantLong RX9 214 (-1), Cond.methodLink RX9 181 yX9_findWorth, Cond.instanceMethod yX9_findWorth, Cond.selects RX9 yX9_findWorth yX9_findWorth, Cond.code yX9_findWorth cX9_findWorth 3 (some (.object "PolicyWorks$Row")), Cond.fieldLink RX9 54 "PolicyWorks" "worthKnown" "[Z", Cond.fieldLink RX9 85 "PolicyWorks$Model" "states" "I", Cond.fieldLink RX9 58 "PolicyWorks" "trial" "[I", Cond.fieldLink RX9 95 "PolicyWorks$Model" "actionCounts" "[I", Cond.methodLink RX9 223 Lib.Math.min.name, Cond.static Lib.Math.min.name, Cond.initialized "java/lang/Math", Cond.code Lib.Math.min.name Lib.Math.min.code 2 (some .int), Cond.fieldLink RX9 19 "PolicyWorks" "equations" "LPolicyWorks$Equations;", Cond.fieldLink RX9 50 "PolicyWorks" "worths" "[LPolicyWorks$Row;", Cond.methodLink RX9 136 yX2_findValues, Cond.instanceMethod yX2_findValues, Cond.selects RX2 yX2_findValues yX2_findValues, Cond.initialized RX2, Cond.code yX2_findValues cX2_findValues 8 none]
def wsX9_worth_r3 : List Cond := [Cond.fieldLink RX2 25 "PolicyWorks$Model" "states" "I", Cond.fieldLink RX2 18 "PolicyWorks$Equations" "minors" "[LPolicyWorks$Whole;", Cond.fieldLink RX2 47 "PolicyWorks$Row" "below" "LPolicyWorks$Whole;", Cond.fieldLink RX2 57 "PolicyWorks$Row" "above" "[LPolicyWorks$Whole;", Cond.constantLong RX2 60 (-1), Cond.methodLink RX2 31 yX6_find, Cond.methodLink RX2 35 yX2_writeRow, Cond.instanceMethod yX2_writeRow, Cond.selects RX2 yX2_writeRow yX2_writeRow, Cond.code yX2_writeRow cX2_writeRow 6 none, Cond.fieldLink RX2 11 "PolicyWorks$Equations" "rows" "[[I", Cond.fieldLink RX2 65 "PolicyWorks$Action" "below" "I", Cond.fieldLink RX2 69 "PolicyWorks$Model" "discountAbove" "I", Cond.fieldLink RX2 72 "PolicyWorks$Action" "weights" "[I", Cond.fieldLink RX2 76 "PolicyWorks$Model" "discountBelow" "I", Cond.fieldLink RX2 79 "PolicyWorks$Action" "total" "I", Cond.fieldLink RX2 82 "PolicyWorks$Action" "above" "I", Cond.methodLink RX2 39 yX8_put, Cond.instanceMethod yX8_put, Cond.selects RX8 yX8_put yX8_put, Cond.initialized RX8, Cond.code yX8_put cX8_put 3 none, Cond.fieldLink RX8 7 "PolicyWorks$Whole" "limbs" "[J", Cond.methodLink RX8 26 yX8_clear]
def wsX9_worth_r4 : List Cond := [Cond.instanceMethod yX8_clear, Cond.selects RX8 yX8_clear yX8_clear, Cond.code yX8_clear cX8_clear 1 none, Cond.fieldLink RX8 13 "PolicyWorks$Whole" "size" "I", Cond.fieldLink RX8 17 "PolicyWorks$Whole" "sign" "I", Cond.methodLink RX8 20 yJ7_fill_d0a16, Cond.static yJ7_fill_d0a16, Cond.initialized RJ7, Cond.code yJ7_fill_d0a16 cJ7_fill_d0a16 5 none, Cond.methodLink RX8 29 yX8_settle, Cond.instanceMethod yX8_settle, Cond.selects RX8 yX8_settle yX8_settle, Cond.code yX8_settle cX8_settle 6 none, Cond.constantLong RX8 44 (1000000), Cond.methodLink RX8 46 yJ9_floorDiv_f86c9, Cond.static yJ9_floorDiv_f86c9, Cond.initialized RJ9, Cond.code yJ9_floorDiv_f86c9 cJ9_floorDiv_f86c9 6 (some .long), Cond.methodLink RX8 50 yX8_turnNegative, Cond.instanceMethod yX8_turnNegative, Cond.selects RX8 yX8_turnNegative yX8_turnNegative, Cond.code yX8_turnNegative cX8_turnNegative 3 none, Cond.constantLong RX8 56 (999999), Cond.methodLink RX8 53 yX8_measure]
def wsX9_worth_r5 : List Cond := [Cond.instanceMethod yX8_measure, Cond.selects RX8 yX8_measure yX8_measure, Cond.code yX8_measure cX8_measure 1 none, Cond.methodLink RX2 43 yX2_expand, Cond.instanceMethod yX2_expand, Cond.selects RX2 yX2_expand yX2_expand, Cond.code yX2_expand cX2_expand 7 none, Cond.methodLink RX2 84 yJ6_bitCount_0f7a4, Cond.static yJ6_bitCount_0f7a4, Cond.initialized RJ6, Cond.code yJ6_bitCount_0f7a4 cJ6_bitCount_0f7a4 1 (some .int), Cond.constant RJ6 265 (1431655765), Cond.constant RJ6 266 (858993459), Cond.constant RJ6 267 (252645135), Cond.methodLink RX2 90 yX8_clear, Cond.methodLink RX2 93 yX8_add, Cond.instanceMethod yX8_add, Cond.selects RX8 yX8_add yX8_add, Cond.code yX8_add cX8_add 6 none, Cond.methodLink RX8 32 Lib.Math.min.name, Cond.methodLink RX2 97 yX8_settle, Cond.methodLink RX2 53 yX8_copy, Cond.instanceMethod yX8_copy, Cond.selects RX8 yX8_copy yX8_copy]
def wsX9_worth_r6 : List Cond := [Cond.code yX8_copy cX8_copy 2 none, Cond.methodLink RX8 38 arraycopyName, Cond.native arraycopyName, Cond.static arraycopyName, Cond.initialized "java/lang/System", Cond.methodLink RX2 62 yX8_multiply, Cond.instanceMethod yX8_multiply, Cond.selects RX8 yX8_multiply yX8_multiply, Cond.code yX8_multiply cX8_multiply 4 none, Cond.methodLink RX9 147 yX9_hold, Cond.instanceMethod yX9_hold, Cond.selects RX9 yX9_hold yX9_hold, Cond.code yX9_hold cX9_hold 3 none, Cond.fieldLink RX9 164 "PolicyWorks$Fraction" "above" "LPolicyWorks$Whole;", Cond.fieldLink RX9 232 "PolicyWorks$Row" "above" "[LPolicyWorks$Whole;", Cond.fieldLink RX9 171 "PolicyWorks$Fraction" "below" "LPolicyWorks$Whole;", Cond.fieldLink RX9 173 "PolicyWorks$Row" "below" "LPolicyWorks$Whole;", Cond.methodLink RX9 167 yX8_copy, Cond.methodLink RX9 151 yX3_tell, Cond.instanceMethod yX3_tell, Cond.selects RX3 yX3_tell yX3_tell, Cond.initialized RX3, Cond.code yX3_tell cX3_tell 2 (some .long), Cond.fieldLink RX3 14 "PolicyWorks$Fraction" "above" "LPolicyWorks$Whole;"]
def wsX9_worth_r7 : List Cond := [Cond.fieldLink RX3 32 "PolicyWorks$Whole" "sign" "I", Cond.fieldLink RX3 20 "PolicyWorks$Fraction" "below" "LPolicyWorks$Whole;", Cond.methodLink RX3 36 yX3_reduce, Cond.instanceMethod yX3_reduce, Cond.selects RX3 yX3_reduce yX3_reduce, Cond.code yX3_reduce cX3_reduce 2 none, Cond.fieldLink RX3 29 "PolicyWorks$Fraction" "quotient" "LPolicyWorks$Whole;", Cond.methodLink RX3 43 yX8_dropSign, Cond.instanceMethod yX8_dropSign, Cond.selects RX8 yX8_dropSign yX8_dropSign, Cond.code yX8_dropSign cX8_dropSign 2 none, Cond.methodLink RX3 46 yX3_commonDivisor, Cond.instanceMethod yX3_commonDivisor, Cond.selects RX3 yX3_commonDivisor yX3_commonDivisor, Cond.code yX3_commonDivisor cX3_commonDivisor 5 (some (.object "PolicyWorks$Whole")), Cond.fieldLink RX3 23 "PolicyWorks$Fraction" "one" "LPolicyWorks$Whole;", Cond.fieldLink RX3 26 "PolicyWorks$Fraction" "other" "LPolicyWorks$Whole;", Cond.fieldLink RX3 58 "PolicyWorks$Whole" "size" "I", Cond.methodLink RX3 54 yX8_copy, Cond.methodLink RX3 50 yX8_divide, Cond.instanceMethod yX8_divide, Cond.selects RX8 yX8_divide yX8_divide, Cond.code yX8_divide cX8_divide 7 none, Cond.methodLink RX8 73 Lib.MathLoose.max_long.x]
def wsX9_worth_r8 : List Cond := [Cond.static Lib.MathLoose.max_long.x, Cond.code Lib.MathLoose.max_long.x Lib.MathLoose.max_long.code 4 (some .long), Cond.methodLink RX8 65 yX8_reaches, Cond.instanceMethod yX8_reaches, Cond.selects RX8 yX8_reaches yX8_reaches, Cond.code yX8_reaches cX8_reaches 4 (some .boolean), Cond.methodLink RX8 69 yX8_guess, Cond.instanceMethod yX8_guess, Cond.selects RX8 yX8_guess yX8_guess, Cond.code yX8_guess cX8_guess 8 (some .long), Cond.methodLink RX8 61 yX8_limbAt, Cond.instanceMethod yX8_limbAt, Cond.selects RX8 yX8_limbAt yX8_limbAt, Cond.code yX8_limbAt cX8_limbAt 2 (some .long), Cond.methodLink RX8 75 yX8_takeAway, Cond.instanceMethod yX8_takeAway, Cond.selects RX8 yX8_takeAway yX8_takeAway, Cond.code yX8_takeAway cX8_takeAway 10 none, Cond.methodLink RX3 39 yX8_eighteen, Cond.instanceMethod yX8_eighteen, Cond.selects RX8 yX8_eighteen yX8_eighteen, Cond.code yX8_eighteen cX8_eighteen 5 (some .long)]
def wsX9_worth : List Cond := .code yX9_worth cX9_worth 5 (some .long) :: ((wsX9_worth_r1 ++ (wsX9_worth_r2 ++ (wsX9_worth_r3 ++ (wsX9_worth_r4 ++ (wsX9_worth_r5 ++ (wsX9_worth_r6 ++ (wsX9_worth_r7 ++ wsX9_worth_r8))))))) ++ wsX90 ++ wsX60 ++ wsX00 ++ wsX20 ++ wsX70 ++ wsX80 ++ wsX30)
def wsX9_steps_r1 : List Cond := [Cond.fieldLink RX9 10 "PolicyWorks" "model" "LPolicyWorks$Model;", Cond.fieldLink RX9 33 "PolicyWorks" "ladder" "LPolicyWorks$Ladder;", Cond.fieldLink RX9 26 "PolicyWorks" "chooser" "LPolicyWorks$Chooser;", Cond.fieldLink RX9 189 "PolicyWorks$Ladder" "rows" "[LPolicyWorks$Row;", Cond.fieldLink RX9 64 "PolicyWorks" "told" "LPolicyWorks$Fraction;", Cond.methodLink RX9 91 yX6_hasState, Cond.instanceMethod yX6_hasState, Cond.selects RX6 yX6_hasState yX6_hasState, Cond.initialized RX6, Cond.code yX6_hasState cX6_hasState 2 (some .boolean), Cond.fieldLink RX6 22 "PolicyWorks$Model" "states" "I", Cond.methodLink RX9 126 yX6_allReady, Cond.instanceMethod yX6_allReady, Cond.selects RX6 yX6_allReady yX6_allReady, Cond.code yX6_allReady cX6_allReady 2 (some .boolean), Cond.fieldLink RX6 9 "PolicyWorks$Model" "actionCounts" "[I", Cond.methodLink RX6 43 yX6_countActions, Cond.instanceMethod yX6_countActions, Cond.selects RX6 yX6_countActions yX6_countActions, Cond.code yX6_countActions cX6_countActions 5 (some .int), Cond.fieldLink RX6 40 "PolicyWorks$Action" "total" "I", Cond.methodLink RX6 36 yX6_find, Cond.instanceMethod yX6_find, Cond.selects RX6 yX6_find yX6_find]
def wsX9_steps_r2 : List Cond := [Cond.code yX6_find cX6_find 3 (some (.object "PolicyWorks$Action")), Cond.fieldLink RX6 17 "PolicyWorks$Model" "actions" "[LPolicyWorks$Action;", Cond.methodLink RX9 143 yX9_refusal, Cond.static yX9_refusal, Cond.initialized RX9, Cond.code yX9_refusal cX9_refusal 1 (some .long), Cond.constantLong RX9 212 (-2), Cond.constantLong RX9 214 (-1), Cond.methodLink RX9 185 yX5_climb, Cond.instanceMethod yX5_climb, Cond.selects RX5 yX5_climb yX5_climb, Cond.initialized RX5, Cond.code yX5_climb cX5_climb 4 none, Cond.fieldLink RX5 25 "PolicyWorks$Ladder" "known" "I", Cond.methodLink RX5 29 yX5_begin, Cond.instanceMethod yX5_begin, Cond.selects RX5 yX5_begin yX5_begin, Cond.code yX5_begin cX5_begin 3 none, Cond.fieldLink RX5 11 "PolicyWorks$Ladder" "rows" "[LPolicyWorks$Row;", Cond.fieldLink RX5 37 "PolicyWorks$Row" "above" "[LPolicyWorks$Whole;", Cond.fieldLink RX5 46 "PolicyWorks$Row" "below" "LPolicyWorks$Whole;", Cond.methodLink RX5 41 yX8_clear, Cond.instanceMethod yX8_clear, Cond.selects RX8 yX8_clear yX8_clear]
def wsX9_steps_r3 : List Cond := [Cond.initialized RX8, Cond.code yX8_clear cX8_clear 1 none, Cond.fieldLink RX8 7 "PolicyWorks$Whole" "limbs" "[J", Cond.fieldLink RX8 13 "PolicyWorks$Whole" "size" "I", Cond.fieldLink RX8 17 "PolicyWorks$Whole" "sign" "I", Cond.methodLink RX8 20 yJ7_fill_d0a16, Cond.static yJ7_fill_d0a16, Cond.initialized RJ7, Cond.code yJ7_fill_d0a16 cJ7_fill_d0a16 5 none, Cond.methodLink RX5 50 yX6_commonRewardBelow, Cond.instanceMethod yX6_commonRewardBelow, Cond.selects RX6 yX6_commonRewardBelow yX6_commonRewardBelow, Cond.code yX6_commonRewardBelow cX6_commonRewardBelow 5 (some .int), Cond.fieldLink RX6 47 "PolicyWorks$Action" "below" "I", Cond.methodLink RX6 50 yX6_commonDivisor, Cond.static yX6_commonDivisor, Cond.code yX6_commonDivisor cX6_commonDivisor 3 (some .int), Cond.methodLink RX6 54 Lib.Math.max.name, Cond.static Lib.Math.max.name, Cond.initialized "java/lang/Math", Cond.code Lib.Math.max.name Lib.Math.max.code 2 (some .int), Cond.methodLink RX5 56 yX8_put, Cond.instanceMethod yX8_put, Cond.selects RX8 yX8_put yX8_put]
def wsX9_steps_r4 : List Cond := [Cond.code yX8_put cX8_put 3 none, Cond.methodLink RX8 26 yX8_clear, Cond.methodLink RX8 29 yX8_settle, Cond.instanceMethod yX8_settle, Cond.selects RX8 yX8_settle yX8_settle, Cond.code yX8_settle cX8_settle 6 none, Cond.constantLong RX8 44 (1000000), Cond.methodLink RX8 46 yJ9_floorDiv_f86c9, Cond.static yJ9_floorDiv_f86c9, Cond.initialized RJ9, Cond.code yJ9_floorDiv_f86c9 cJ9_floorDiv_f86c9 6 (some .long), Cond.methodLink RX8 50 yX8_turnNegative, Cond.instanceMethod yX8_turnNegative, Cond.selects RX8 yX8_turnNegative yX8_turnNegative, Cond.code yX8_turnNegative cX8_turnNegative 3 none, Cond.constantLong RX8 56 (999999), Cond.methodLink RX8 53 yX8_measure, Cond.instanceMethod yX8_measure, Cond.selects RX8 yX8_measure yX8_measure, Cond.code yX8_measure cX8_measure 1 none, Cond.methodLink RX5 33 yX5_step, Cond.instanceMethod yX5_step, Cond.selects RX5 yX5_step yX5_step, Cond.code yX5_step cX5_step 11 none]
def wsX9_steps_r5 : List Cond := [Cond.fieldLink RX5 60 "PolicyWorks$Model" "states" "I", Cond.fieldLink RX5 22 "PolicyWorks$Ladder" "picks" "[[I", Cond.fieldLink RX5 73 "PolicyWorks$Action" "total" "I", Cond.fieldLink RX5 78 "PolicyWorks$Chooser" "best" "LPolicyWorks$Gain;", Cond.fieldLink RX5 82 "PolicyWorks$Gain" "above" "LPolicyWorks$Whole;", Cond.fieldLink RX5 90 "PolicyWorks$Action" "below" "I", Cond.methodLink RX5 95 Lib.Math.max.name, Cond.fieldLink RX5 104 "PolicyWorks$Model" "discountBelow" "I", Cond.methodLink RX5 63 yX1_greatest, Cond.instanceMethod yX1_greatest, Cond.selects RX1 yX1_greatest yX1_greatest, Cond.initialized RX1, Cond.code yX1_greatest cX1_greatest 8 (some .int), Cond.fieldLink RX1 12 "PolicyWorks$Chooser" "best" "LPolicyWorks$Gain;", Cond.fieldLink RX1 40 "PolicyWorks$Model" "actionCounts" "[I", Cond.fieldLink RX1 18 "PolicyWorks$Chooser" "rival" "LPolicyWorks$Gain;", Cond.methodLink RX1 30 yX6_find, Cond.methodLink RX1 36 yX4_weigh, Cond.instanceMethod yX4_weigh, Cond.selects RX4 yX4_weigh yX4_weigh, Cond.initialized RX4, Cond.code yX4_weigh cX4_weigh 5 none, Cond.fieldLink RX4 24 "PolicyWorks$Action" "below" "I", Cond.fieldLink RX4 29 "PolicyWorks$Model" "discountBelow" "I"]
def wsX9_steps_r6 : List Cond := [Cond.fieldLink RX4 34 "PolicyWorks$Action" "total" "I", Cond.fieldLink RX4 20 "PolicyWorks$Gain" "scale" "I", Cond.fieldLink RX4 14 "PolicyWorks$Gain" "above" "LPolicyWorks$Whole;", Cond.fieldLink RX4 40 "PolicyWorks$Row" "below" "LPolicyWorks$Whole;", Cond.fieldLink RX4 44 "PolicyWorks$Action" "above" "I", Cond.fieldLink RX4 50 "PolicyWorks$Model" "states" "I", Cond.fieldLink RX4 53 "PolicyWorks$Row" "above" "[LPolicyWorks$Whole;", Cond.fieldLink RX4 56 "PolicyWorks$Model" "discountAbove" "I", Cond.fieldLink RX4 59 "PolicyWorks$Action" "weights" "[I", Cond.methodLink RX4 37 yX8_clear, Cond.methodLink RX4 46 yX8_add, Cond.instanceMethod yX8_add, Cond.selects RX8 yX8_add yX8_add, Cond.code yX8_add cX8_add 6 none, Cond.methodLink RX8 32 Lib.Math.min.name, Cond.static Lib.Math.min.name, Cond.code Lib.Math.min.name Lib.Math.min.code 2 (some .int), Cond.methodLink RX4 63 yX8_settle, Cond.methodLink RX1 44 yX1_rivalIsMore, Cond.instanceMethod yX1_rivalIsMore, Cond.selects RX1 yX1_rivalIsMore yX1_rivalIsMore, Cond.code yX1_rivalIsMore cX1_rivalIsMore 1 (some .boolean), Cond.fieldLink RX1 26 "PolicyWorks$Chooser" "gap" "LPolicyWorks$Whole;", Cond.fieldLink RX1 51 "PolicyWorks$Gain" "above" "LPolicyWorks$Whole;"]
def wsX9_steps_r7 : List Cond := [Cond.fieldLink RX1 54 "PolicyWorks$Gain" "scale" "I", Cond.fieldLink RX1 65 "PolicyWorks$Whole" "sign" "I", Cond.methodLink RX1 48 yX8_clear, Cond.methodLink RX1 58 yX8_add, Cond.methodLink RX1 62 yX8_settle, Cond.methodLink RX5 69 yX6_find, Cond.methodLink RX5 86 yX8_copy, Cond.instanceMethod yX8_copy, Cond.selects RX8 yX8_copy yX8_copy, Cond.code yX8_copy cX8_copy 2 none, Cond.methodLink RX8 38 arraycopyName, Cond.native arraycopyName, Cond.static arraycopyName, Cond.initialized "java/lang/System", Cond.methodLink RX5 92 yX8_divideSmall, Cond.instanceMethod yX8_divideSmall, Cond.selects RX8 yX8_divideSmall yX8_divideSmall, Cond.code yX8_divideSmall cX8_divideSmall 7 none, Cond.methodLink RX5 101 yX8_multiply, Cond.instanceMethod yX8_multiply, Cond.selects RX8 yX8_multiply yX8_multiply, Cond.code yX8_multiply cX8_multiply 4 none, Cond.methodLink RX9 147 yX9_hold, Cond.instanceMethod yX9_hold]
def wsX9_steps_r8 : List Cond := [Cond.selects RX9 yX9_hold yX9_hold, Cond.code yX9_hold cX9_hold 3 none, Cond.fieldLink RX9 164 "PolicyWorks$Fraction" "above" "LPolicyWorks$Whole;", Cond.fieldLink RX9 232 "PolicyWorks$Row" "above" "[LPolicyWorks$Whole;", Cond.fieldLink RX9 171 "PolicyWorks$Fraction" "below" "LPolicyWorks$Whole;", Cond.fieldLink RX9 173 "PolicyWorks$Row" "below" "LPolicyWorks$Whole;", Cond.methodLink RX9 167 yX8_copy, Cond.methodLink RX9 151 yX3_tell, Cond.instanceMethod yX3_tell, Cond.selects RX3 yX3_tell yX3_tell, Cond.initialized RX3, Cond.code yX3_tell cX3_tell 2 (some .long), Cond.fieldLink RX3 14 "PolicyWorks$Fraction" "above" "LPolicyWorks$Whole;", Cond.fieldLink RX3 32 "PolicyWorks$Whole" "sign" "I", Cond.fieldLink RX3 20 "PolicyWorks$Fraction" "below" "LPolicyWorks$Whole;", Cond.methodLink RX3 36 yX3_reduce, Cond.instanceMethod yX3_reduce, Cond.selects RX3 yX3_reduce yX3_reduce, Cond.code yX3_reduce cX3_reduce 2 none, Cond.fieldLink RX3 29 "PolicyWorks$Fraction" "quotient" "LPolicyWorks$Whole;", Cond.methodLink RX3 43 yX8_dropSign, Cond.instanceMethod yX8_dropSign, Cond.selects RX8 yX8_dropSign yX8_dropSign, Cond.code yX8_dropSign cX8_dropSign 2 none]
def wsX9_steps_r9 : List Cond := [Cond.methodLink RX3 46 yX3_commonDivisor, Cond.instanceMethod yX3_commonDivisor, Cond.selects RX3 yX3_commonDivisor yX3_commonDivisor, Cond.code yX3_commonDivisor cX3_commonDivisor 5 (some (.object "PolicyWorks$Whole")), Cond.fieldLink RX3 23 "PolicyWorks$Fraction" "one" "LPolicyWorks$Whole;", Cond.fieldLink RX3 26 "PolicyWorks$Fraction" "other" "LPolicyWorks$Whole;", Cond.fieldLink RX3 58 "PolicyWorks$Whole" "size" "I", Cond.methodLink RX3 54 yX8_copy, Cond.methodLink RX3 50 yX8_divide, Cond.instanceMethod yX8_divide, Cond.selects RX8 yX8_divide yX8_divide, Cond.code yX8_divide cX8_divide 7 none, Cond.methodLink RX8 73 Lib.MathLoose.max_long.x, Cond.static Lib.MathLoose.max_long.x, Cond.code Lib.MathLoose.max_long.x Lib.MathLoose.max_long.code 4 (some .long), Cond.methodLink RX8 65 yX8_reaches, Cond.instanceMethod yX8_reaches, Cond.selects RX8 yX8_reaches yX8_reaches, Cond.code yX8_reaches cX8_reaches 4 (some .boolean), Cond.methodLink RX8 69 yX8_guess, Cond.instanceMethod yX8_guess, Cond.selects RX8 yX8_guess yX8_guess, Cond.code yX8_guess cX8_guess 8 (some .long), Cond.methodLink RX8 61 yX8_limbAt]
def wsX9_steps_r10 : List Cond := [Cond.instanceMethod yX8_limbAt, Cond.selects RX8 yX8_limbAt yX8_limbAt, Cond.code yX8_limbAt cX8_limbAt 2 (some .long), Cond.methodLink RX8 75 yX8_takeAway, Cond.instanceMethod yX8_takeAway, Cond.selects RX8 yX8_takeAway yX8_takeAway, Cond.code yX8_takeAway cX8_takeAway 10 none, Cond.methodLink RX3 39 yX8_eighteen, Cond.instanceMethod yX8_eighteen, Cond.selects RX8 yX8_eighteen yX8_eighteen, Cond.code yX8_eighteen cX8_eighteen 5 (some .long)]
def wsX9_steps : List Cond := .code yX9_steps cX9_steps 5 (some .long) :: ((wsX9_steps_r1 ++ (wsX9_steps_r2 ++ (wsX9_steps_r3 ++ (wsX9_steps_r4 ++ (wsX9_steps_r5 ++ (wsX9_steps_r6 ++ (wsX9_steps_r7 ++ (wsX9_steps_r8 ++ (wsX9_steps_r9 ++ wsX9_steps_r10))))))))) ++ wsX90 ++ wsX50 ++ wsX60 ++ wsX00 ++ wsX70 ++ wsX80 ++ wsX10 ++ wsX40 ++ wsX30)
def wsX9_plan_r1 : List Cond := [Cond.fieldLink RX9 10 "PolicyWorks" "model" "LPolicyWorks$Model;", Cond.fieldLink RX9 33 "PolicyWorks" "ladder" "LPolicyWorks$Ladder;", Cond.fieldLink RX9 26 "PolicyWorks" "chooser" "LPolicyWorks$Chooser;", Cond.fieldLink RX9 192 "PolicyWorks$Ladder" "picks" "[[I", Cond.methodLink RX9 91 yX6_hasState, Cond.instanceMethod yX6_hasState, Cond.selects RX6 yX6_hasState yX6_hasState, Cond.initialized RX6, Cond.code yX6_hasState cX6_hasState 2 (some .boolean), Cond.fieldLink RX6 22 "PolicyWorks$Model" "states" "I", Cond.methodLink RX9 126 yX6_allReady, Cond.instanceMethod yX6_allReady, Cond.selects RX6 yX6_allReady yX6_allReady, Cond.code yX6_allReady cX6_allReady 2 (some .boolean), Cond.fieldLink RX6 9 "PolicyWorks$Model" "actionCounts" "[I", Cond.methodLink RX6 43 yX6_countActions, Cond.instanceMethod yX6_countActions, Cond.selects RX6 yX6_countActions yX6_countActions, Cond.code yX6_countActions cX6_countActions 5 (some .int), Cond.fieldLink RX6 40 "PolicyWorks$Action" "total" "I", Cond.methodLink RX6 36 yX6_find, Cond.instanceMethod yX6_find, Cond.selects RX6 yX6_find yX6_find, Cond.code yX6_find cX6_find 3 (some (.object "PolicyWorks$Action"))]
def wsX9_plan_r2 : List Cond := [Cond.fieldLink RX6 17 "PolicyWorks$Model" "actions" "[LPolicyWorks$Action;", Cond.methodLink RX9 185 yX5_climb, Cond.instanceMethod yX5_climb, Cond.selects RX5 yX5_climb yX5_climb, Cond.initialized RX5, Cond.code yX5_climb cX5_climb 4 none, Cond.fieldLink RX5 25 "PolicyWorks$Ladder" "known" "I", Cond.methodLink RX5 29 yX5_begin, Cond.instanceMethod yX5_begin, Cond.selects RX5 yX5_begin yX5_begin, Cond.code yX5_begin cX5_begin 3 none, Cond.fieldLink RX5 11 "PolicyWorks$Ladder" "rows" "[LPolicyWorks$Row;", Cond.fieldLink RX5 37 "PolicyWorks$Row" "above" "[LPolicyWorks$Whole;", Cond.fieldLink RX5 46 "PolicyWorks$Row" "below" "LPolicyWorks$Whole;", Cond.methodLink RX5 41 yX8_clear, Cond.instanceMethod yX8_clear, Cond.selects RX8 yX8_clear yX8_clear, Cond.initialized RX8, Cond.code yX8_clear cX8_clear 1 none, Cond.fieldLink RX8 7 "PolicyWorks$Whole" "limbs" "[J", Cond.fieldLink RX8 13 "PolicyWorks$Whole" "size" "I", Cond.fieldLink RX8 17 "PolicyWorks$Whole" "sign" "I", Cond.methodLink RX8 20 yJ7_fill_d0a16, Cond.static yJ7_fill_d0a16]
def wsX9_plan_r3 : List Cond := [Cond.initialized RJ7, Cond.code yJ7_fill_d0a16 cJ7_fill_d0a16 5 none, Cond.methodLink RX5 50 yX6_commonRewardBelow, Cond.instanceMethod yX6_commonRewardBelow, Cond.selects RX6 yX6_commonRewardBelow yX6_commonRewardBelow, Cond.code yX6_commonRewardBelow cX6_commonRewardBelow 5 (some .int), Cond.fieldLink RX6 47 "PolicyWorks$Action" "below" "I", Cond.methodLink RX6 50 yX6_commonDivisor, Cond.static yX6_commonDivisor, Cond.code yX6_commonDivisor cX6_commonDivisor 3 (some .int), Cond.methodLink RX6 54 Lib.Math.max.name, Cond.static Lib.Math.max.name, Cond.initialized "java/lang/Math", Cond.code Lib.Math.max.name Lib.Math.max.code 2 (some .int), Cond.methodLink RX5 56 yX8_put, Cond.instanceMethod yX8_put, Cond.selects RX8 yX8_put yX8_put, Cond.code yX8_put cX8_put 3 none, Cond.methodLink RX8 26 yX8_clear, Cond.methodLink RX8 29 yX8_settle, Cond.instanceMethod yX8_settle, Cond.selects RX8 yX8_settle yX8_settle, Cond.code yX8_settle cX8_settle 6 none, Cond.constantLong RX8 44 (1000000)]
def wsX9_plan_r4 : List Cond := [Cond.methodLink RX8 46 yJ9_floorDiv_f86c9, Cond.static yJ9_floorDiv_f86c9, Cond.initialized RJ9, Cond.code yJ9_floorDiv_f86c9 cJ9_floorDiv_f86c9 6 (some .long), Cond.methodLink RX8 50 yX8_turnNegative, Cond.instanceMethod yX8_turnNegative, Cond.selects RX8 yX8_turnNegative yX8_turnNegative, Cond.code yX8_turnNegative cX8_turnNegative 3 none, Cond.constantLong RX8 56 (999999), Cond.methodLink RX8 53 yX8_measure, Cond.instanceMethod yX8_measure, Cond.selects RX8 yX8_measure yX8_measure, Cond.code yX8_measure cX8_measure 1 none, Cond.methodLink RX5 33 yX5_step, Cond.instanceMethod yX5_step, Cond.selects RX5 yX5_step yX5_step, Cond.code yX5_step cX5_step 11 none, Cond.fieldLink RX5 60 "PolicyWorks$Model" "states" "I", Cond.fieldLink RX5 22 "PolicyWorks$Ladder" "picks" "[[I", Cond.fieldLink RX5 73 "PolicyWorks$Action" "total" "I", Cond.fieldLink RX5 78 "PolicyWorks$Chooser" "best" "LPolicyWorks$Gain;", Cond.fieldLink RX5 82 "PolicyWorks$Gain" "above" "LPolicyWorks$Whole;", Cond.fieldLink RX5 90 "PolicyWorks$Action" "below" "I", Cond.methodLink RX5 95 Lib.Math.max.name]
def wsX9_plan_r5 : List Cond := [Cond.fieldLink RX5 104 "PolicyWorks$Model" "discountBelow" "I", Cond.methodLink RX5 63 yX1_greatest, Cond.instanceMethod yX1_greatest, Cond.selects RX1 yX1_greatest yX1_greatest, Cond.initialized RX1, Cond.code yX1_greatest cX1_greatest 8 (some .int), Cond.fieldLink RX1 12 "PolicyWorks$Chooser" "best" "LPolicyWorks$Gain;", Cond.fieldLink RX1 40 "PolicyWorks$Model" "actionCounts" "[I", Cond.fieldLink RX1 18 "PolicyWorks$Chooser" "rival" "LPolicyWorks$Gain;", Cond.methodLink RX1 30 yX6_find, Cond.methodLink RX1 36 yX4_weigh, Cond.instanceMethod yX4_weigh, Cond.selects RX4 yX4_weigh yX4_weigh, Cond.initialized RX4, Cond.code yX4_weigh cX4_weigh 5 none, Cond.fieldLink RX4 24 "PolicyWorks$Action" "below" "I", Cond.fieldLink RX4 29 "PolicyWorks$Model" "discountBelow" "I", Cond.fieldLink RX4 34 "PolicyWorks$Action" "total" "I", Cond.fieldLink RX4 20 "PolicyWorks$Gain" "scale" "I", Cond.fieldLink RX4 14 "PolicyWorks$Gain" "above" "LPolicyWorks$Whole;", Cond.fieldLink RX4 40 "PolicyWorks$Row" "below" "LPolicyWorks$Whole;", Cond.fieldLink RX4 44 "PolicyWorks$Action" "above" "I", Cond.fieldLink RX4 50 "PolicyWorks$Model" "states" "I", Cond.fieldLink RX4 53 "PolicyWorks$Row" "above" "[LPolicyWorks$Whole;"]
def wsX9_plan_r6 : List Cond := [Cond.fieldLink RX4 56 "PolicyWorks$Model" "discountAbove" "I", Cond.fieldLink RX4 59 "PolicyWorks$Action" "weights" "[I", Cond.methodLink RX4 37 yX8_clear, Cond.methodLink RX4 46 yX8_add, Cond.instanceMethod yX8_add, Cond.selects RX8 yX8_add yX8_add, Cond.code yX8_add cX8_add 6 none, Cond.methodLink RX8 32 Lib.Math.min.name, Cond.static Lib.Math.min.name, Cond.code Lib.Math.min.name Lib.Math.min.code 2 (some .int), Cond.methodLink RX4 63 yX8_settle, Cond.methodLink RX1 44 yX1_rivalIsMore, Cond.instanceMethod yX1_rivalIsMore, Cond.selects RX1 yX1_rivalIsMore yX1_rivalIsMore, Cond.code yX1_rivalIsMore cX1_rivalIsMore 1 (some .boolean), Cond.fieldLink RX1 26 "PolicyWorks$Chooser" "gap" "LPolicyWorks$Whole;", Cond.fieldLink RX1 51 "PolicyWorks$Gain" "above" "LPolicyWorks$Whole;", Cond.fieldLink RX1 54 "PolicyWorks$Gain" "scale" "I", Cond.fieldLink RX1 65 "PolicyWorks$Whole" "sign" "I", Cond.methodLink RX1 48 yX8_clear, Cond.methodLink RX1 58 yX8_add, Cond.methodLink RX1 62 yX8_settle, Cond.methodLink RX5 69 yX6_find, Cond.methodLink RX5 86 yX8_copy]
def wsX9_plan_r7 : List Cond := [Cond.instanceMethod yX8_copy, Cond.selects RX8 yX8_copy yX8_copy, Cond.code yX8_copy cX8_copy 2 none, Cond.methodLink RX8 38 arraycopyName, Cond.native arraycopyName, Cond.static arraycopyName, Cond.initialized "java/lang/System", Cond.methodLink RX5 92 yX8_divideSmall, Cond.instanceMethod yX8_divideSmall, Cond.selects RX8 yX8_divideSmall yX8_divideSmall, Cond.code yX8_divideSmall cX8_divideSmall 7 none, Cond.methodLink RX5 101 yX8_multiply, Cond.instanceMethod yX8_multiply, Cond.selects RX8 yX8_multiply yX8_multiply, Cond.code yX8_multiply cX8_multiply 4 none]
def wsX9_plan : List Cond := .code yX9_plan cX9_plan 4 (some .int) :: ((wsX9_plan_r1 ++ (wsX9_plan_r2 ++ (wsX9_plan_r3 ++ (wsX9_plan_r4 ++ (wsX9_plan_r5 ++ (wsX9_plan_r6 ++ wsX9_plan_r7)))))) ++ wsX90 ++ wsX50 ++ wsX60 ++ wsX00 ++ wsX70 ++ wsX80 ++ wsX10 ++ wsX40)
def wsX9_findBound_r1 : List Cond := [Cond.fieldLink RX9 33 "PolicyWorks" "ladder" "LPolicyWorks$Ladder;", Cond.fieldLink RX9 189 "PolicyWorks$Ladder" "rows" "[LPolicyWorks$Row;", Cond.fieldLink RX9 71 "PolicyWorks" "left" "LPolicyWorks$Whole;", Cond.fieldLink RX9 10 "PolicyWorks" "model" "LPolicyWorks$Model;", Cond.fieldLink RX9 85 "PolicyWorks$Model" "states" "I", Cond.fieldLink RX9 75 "PolicyWorks" "right" "LPolicyWorks$Whole;", Cond.fieldLink RX9 232 "PolicyWorks$Row" "above" "[LPolicyWorks$Whole;", Cond.fieldLink RX9 64 "PolicyWorks" "told" "LPolicyWorks$Fraction;", Cond.fieldLink RX9 164 "PolicyWorks$Fraction" "above" "LPolicyWorks$Whole;", Cond.fieldLink RX9 123 "PolicyWorks$Model" "discountBelow" "I", Cond.fieldLink RX9 171 "PolicyWorks$Fraction" "below" "LPolicyWorks$Whole;", Cond.fieldLink RX9 173 "PolicyWorks$Row" "below" "LPolicyWorks$Whole;", Cond.fieldLink RX9 120 "PolicyWorks$Model" "discountAbove" "I", Cond.methodLink RX9 229 yX8_clear, Cond.instanceMethod yX8_clear, Cond.selects RX8 yX8_clear yX8_clear, Cond.initialized RX8, Cond.code yX8_clear cX8_clear 1 none, Cond.fieldLink RX8 7 "PolicyWorks$Whole" "limbs" "[J", Cond.fieldLink RX8 13 "PolicyWorks$Whole" "size" "I", Cond.fieldLink RX8 17 "PolicyWorks$Whole" "sign" "I", Cond.methodLink RX8 20 yJ7_fill_d0a16, Cond.static yJ7_fill_d0a16, Cond.initialized RJ7]
def wsX9_findBound_r2 : List Cond := [Cond.code yJ7_fill_d0a16 cJ7_fill_d0a16 5 none, Cond.methodLink RX9 167 yX8_copy, Cond.instanceMethod yX8_copy, Cond.selects RX8 yX8_copy yX8_copy, Cond.code yX8_copy cX8_copy 2 none, Cond.methodLink RX8 32 Lib.Math.min.name, Cond.static Lib.Math.min.name, Cond.initialized "java/lang/Math", Cond.code Lib.Math.min.name Lib.Math.min.code 2 (some .int), Cond.methodLink RX8 38 arraycopyName, Cond.native arraycopyName, Cond.static arraycopyName, Cond.initialized "java/lang/System", Cond.methodLink RX8 26 yX8_clear, Cond.methodLink RX9 235 yX8_dropSign, Cond.instanceMethod yX8_dropSign, Cond.selects RX8 yX8_dropSign yX8_dropSign, Cond.code yX8_dropSign cX8_dropSign 2 none, Cond.methodLink RX9 238 yX8_compare, Cond.instanceMethod yX8_compare, Cond.selects RX8 yX8_compare yX8_compare, Cond.code yX8_compare cX8_compare 7 (some .int), Cond.methodLink RX8 58 Lib.Math.max.name, Cond.static Lib.Math.max.name]
def wsX9_findBound_r3 : List Cond := [Cond.code Lib.Math.max.name Lib.Math.max.code 2 (some .int), Cond.methodLink RX8 61 yX8_limbAt, Cond.instanceMethod yX8_limbAt, Cond.selects RX8 yX8_limbAt yX8_limbAt, Cond.code yX8_limbAt cX8_limbAt 2 (some .long), Cond.methodLink RX9 177 yX8_multiply, Cond.instanceMethod yX8_multiply, Cond.selects RX8 yX8_multiply yX8_multiply, Cond.code yX8_multiply cX8_multiply 4 none, Cond.methodLink RX8 29 yX8_settle, Cond.instanceMethod yX8_settle, Cond.selects RX8 yX8_settle yX8_settle, Cond.code yX8_settle cX8_settle 6 none, Cond.constantLong RX8 44 (1000000), Cond.methodLink RX8 46 yJ9_floorDiv_f86c9, Cond.static yJ9_floorDiv_f86c9, Cond.initialized RJ9, Cond.code yJ9_floorDiv_f86c9 cJ9_floorDiv_f86c9 6 (some .long), Cond.methodLink RX8 50 yX8_turnNegative, Cond.instanceMethod yX8_turnNegative, Cond.selects RX8 yX8_turnNegative yX8_turnNegative, Cond.code yX8_turnNegative cX8_turnNegative 3 none, Cond.constantLong RX8 56 (999999), Cond.methodLink RX8 53 yX8_measure]
def wsX9_findBound_r4 : List Cond := [Cond.instanceMethod yX8_measure, Cond.selects RX8 yX8_measure yX8_measure, Cond.code yX8_measure cX8_measure 1 none]
def wsX9_findBound : List Cond := .code yX9_findBound cX9_findBound 4 none :: ((wsX9_findBound_r1 ++ (wsX9_findBound_r2 ++ (wsX9_findBound_r3 ++ wsX9_findBound_r4))) ++ wsX90 ++ wsX50 ++ wsX60 ++ wsX70 ++ wsX30 ++ wsX80)
def wsX9_bound_r1 : List Cond := [Cond.fieldLink RX9 10 "PolicyWorks" "model" "LPolicyWorks$Model;", Cond.fieldLink RX9 33 "PolicyWorks" "ladder" "LPolicyWorks$Ladder;", Cond.fieldLink RX9 26 "PolicyWorks" "chooser" "LPolicyWorks$Chooser;", Cond.fieldLink RX9 64 "PolicyWorks" "told" "LPolicyWorks$Fraction;", Cond.methodLink RX9 126 yX6_allReady, Cond.instanceMethod yX6_allReady, Cond.selects RX6 yX6_allReady yX6_allReady, Cond.initialized RX6, Cond.code yX6_allReady cX6_allReady 2 (some .boolean), Cond.fieldLink RX6 22 "PolicyWorks$Model" "states" "I", Cond.fieldLink RX6 9 "PolicyWorks$Model" "actionCounts" "[I", Cond.methodLink RX6 43 yX6_countActions, Cond.instanceMethod yX6_countActions, Cond.selects RX6 yX6_countActions yX6_countActions, Cond.code yX6_countActions cX6_countActions 5 (some .int), Cond.fieldLink RX6 40 "PolicyWorks$Action" "total" "I", Cond.methodLink RX6 36 yX6_find, Cond.instanceMethod yX6_find, Cond.selects RX6 yX6_find yX6_find, Cond.code yX6_find cX6_find 3 (some (.object "PolicyWorks$Action")), Cond.fieldLink RX6 17 "PolicyWorks$Model" "actions" "[LPolicyWorks$Action;", Cond.methodLink RX9 143 yX9_refusal, Cond.static yX9_refusal, Cond.initialized RX9]
def wsX9_bound_r2 : List Cond := [Cond.code yX9_refusal cX9_refusal 1 (some .long), Cond.constantLong RX9 212 (-2), Cond.constantLong RX9 214 (-1), Cond.methodLink RX9 185 yX5_climb, Cond.instanceMethod yX5_climb, Cond.selects RX5 yX5_climb yX5_climb, Cond.initialized RX5, Cond.code yX5_climb cX5_climb 4 none, Cond.fieldLink RX5 25 "PolicyWorks$Ladder" "known" "I", Cond.methodLink RX5 29 yX5_begin, Cond.instanceMethod yX5_begin, Cond.selects RX5 yX5_begin yX5_begin, Cond.code yX5_begin cX5_begin 3 none, Cond.fieldLink RX5 11 "PolicyWorks$Ladder" "rows" "[LPolicyWorks$Row;", Cond.fieldLink RX5 37 "PolicyWorks$Row" "above" "[LPolicyWorks$Whole;", Cond.fieldLink RX5 46 "PolicyWorks$Row" "below" "LPolicyWorks$Whole;", Cond.methodLink RX5 41 yX8_clear, Cond.instanceMethod yX8_clear, Cond.selects RX8 yX8_clear yX8_clear, Cond.initialized RX8, Cond.code yX8_clear cX8_clear 1 none, Cond.fieldLink RX8 7 "PolicyWorks$Whole" "limbs" "[J", Cond.fieldLink RX8 13 "PolicyWorks$Whole" "size" "I", Cond.fieldLink RX8 17 "PolicyWorks$Whole" "sign" "I"]
def wsX9_bound_r3 : List Cond := [Cond.methodLink RX8 20 yJ7_fill_d0a16, Cond.static yJ7_fill_d0a16, Cond.initialized RJ7, Cond.code yJ7_fill_d0a16 cJ7_fill_d0a16 5 none, Cond.methodLink RX5 50 yX6_commonRewardBelow, Cond.instanceMethod yX6_commonRewardBelow, Cond.selects RX6 yX6_commonRewardBelow yX6_commonRewardBelow, Cond.code yX6_commonRewardBelow cX6_commonRewardBelow 5 (some .int), Cond.fieldLink RX6 47 "PolicyWorks$Action" "below" "I", Cond.methodLink RX6 50 yX6_commonDivisor, Cond.static yX6_commonDivisor, Cond.code yX6_commonDivisor cX6_commonDivisor 3 (some .int), Cond.methodLink RX6 54 Lib.Math.max.name, Cond.static Lib.Math.max.name, Cond.initialized "java/lang/Math", Cond.code Lib.Math.max.name Lib.Math.max.code 2 (some .int), Cond.methodLink RX5 56 yX8_put, Cond.instanceMethod yX8_put, Cond.selects RX8 yX8_put yX8_put, Cond.code yX8_put cX8_put 3 none, Cond.methodLink RX8 26 yX8_clear, Cond.methodLink RX8 29 yX8_settle, Cond.instanceMethod yX8_settle, Cond.selects RX8 yX8_settle yX8_settle]
def wsX9_bound_r4 : List Cond := [Cond.code yX8_settle cX8_settle 6 none, Cond.constantLong RX8 44 (1000000), Cond.methodLink RX8 46 yJ9_floorDiv_f86c9, Cond.static yJ9_floorDiv_f86c9, Cond.initialized RJ9, Cond.code yJ9_floorDiv_f86c9 cJ9_floorDiv_f86c9 6 (some .long), Cond.methodLink RX8 50 yX8_turnNegative, Cond.instanceMethod yX8_turnNegative, Cond.selects RX8 yX8_turnNegative yX8_turnNegative, Cond.code yX8_turnNegative cX8_turnNegative 3 none, Cond.constantLong RX8 56 (999999), Cond.methodLink RX8 53 yX8_measure, Cond.instanceMethod yX8_measure, Cond.selects RX8 yX8_measure yX8_measure, Cond.code yX8_measure cX8_measure 1 none, Cond.methodLink RX5 33 yX5_step, Cond.instanceMethod yX5_step, Cond.selects RX5 yX5_step yX5_step, Cond.code yX5_step cX5_step 11 none, Cond.fieldLink RX5 60 "PolicyWorks$Model" "states" "I", Cond.fieldLink RX5 22 "PolicyWorks$Ladder" "picks" "[[I", Cond.fieldLink RX5 73 "PolicyWorks$Action" "total" "I", Cond.fieldLink RX5 78 "PolicyWorks$Chooser" "best" "LPolicyWorks$Gain;", Cond.fieldLink RX5 82 "PolicyWorks$Gain" "above" "LPolicyWorks$Whole;"]
def wsX9_bound_r5 : List Cond := [Cond.fieldLink RX5 90 "PolicyWorks$Action" "below" "I", Cond.methodLink RX5 95 Lib.Math.max.name, Cond.fieldLink RX5 104 "PolicyWorks$Model" "discountBelow" "I", Cond.methodLink RX5 63 yX1_greatest, Cond.instanceMethod yX1_greatest, Cond.selects RX1 yX1_greatest yX1_greatest, Cond.initialized RX1, Cond.code yX1_greatest cX1_greatest 8 (some .int), Cond.fieldLink RX1 12 "PolicyWorks$Chooser" "best" "LPolicyWorks$Gain;", Cond.fieldLink RX1 40 "PolicyWorks$Model" "actionCounts" "[I", Cond.fieldLink RX1 18 "PolicyWorks$Chooser" "rival" "LPolicyWorks$Gain;", Cond.methodLink RX1 30 yX6_find, Cond.methodLink RX1 36 yX4_weigh, Cond.instanceMethod yX4_weigh, Cond.selects RX4 yX4_weigh yX4_weigh, Cond.initialized RX4, Cond.code yX4_weigh cX4_weigh 5 none, Cond.fieldLink RX4 24 "PolicyWorks$Action" "below" "I", Cond.fieldLink RX4 29 "PolicyWorks$Model" "discountBelow" "I", Cond.fieldLink RX4 34 "PolicyWorks$Action" "total" "I", Cond.fieldLink RX4 20 "PolicyWorks$Gain" "scale" "I", Cond.fieldLink RX4 14 "PolicyWorks$Gain" "above" "LPolicyWorks$Whole;", Cond.fieldLink RX4 40 "PolicyWorks$Row" "below" "LPolicyWorks$Whole;", Cond.fieldLink RX4 44 "PolicyWorks$Action" "above" "I"]
def wsX9_bound_r6 : List Cond := [Cond.fieldLink RX4 50 "PolicyWorks$Model" "states" "I", Cond.fieldLink RX4 53 "PolicyWorks$Row" "above" "[LPolicyWorks$Whole;", Cond.fieldLink RX4 56 "PolicyWorks$Model" "discountAbove" "I", Cond.fieldLink RX4 59 "PolicyWorks$Action" "weights" "[I", Cond.methodLink RX4 37 yX8_clear, Cond.methodLink RX4 46 yX8_add, Cond.instanceMethod yX8_add, Cond.selects RX8 yX8_add yX8_add, Cond.code yX8_add cX8_add 6 none, Cond.methodLink RX8 32 Lib.Math.min.name, Cond.static Lib.Math.min.name, Cond.code Lib.Math.min.name Lib.Math.min.code 2 (some .int), Cond.methodLink RX4 63 yX8_settle, Cond.methodLink RX1 44 yX1_rivalIsMore, Cond.instanceMethod yX1_rivalIsMore, Cond.selects RX1 yX1_rivalIsMore yX1_rivalIsMore, Cond.code yX1_rivalIsMore cX1_rivalIsMore 1 (some .boolean), Cond.fieldLink RX1 26 "PolicyWorks$Chooser" "gap" "LPolicyWorks$Whole;", Cond.fieldLink RX1 51 "PolicyWorks$Gain" "above" "LPolicyWorks$Whole;", Cond.fieldLink RX1 54 "PolicyWorks$Gain" "scale" "I", Cond.fieldLink RX1 65 "PolicyWorks$Whole" "sign" "I", Cond.methodLink RX1 48 yX8_clear, Cond.methodLink RX1 58 yX8_add, Cond.methodLink RX1 62 yX8_settle]
def wsX9_bound_r7 : List Cond := [Cond.methodLink RX5 69 yX6_find, Cond.methodLink RX5 86 yX8_copy, Cond.instanceMethod yX8_copy, Cond.selects RX8 yX8_copy yX8_copy, Cond.code yX8_copy cX8_copy 2 none, Cond.methodLink RX8 38 arraycopyName, Cond.native arraycopyName, Cond.static arraycopyName, Cond.initialized "java/lang/System", Cond.methodLink RX5 92 yX8_divideSmall, Cond.instanceMethod yX8_divideSmall, Cond.selects RX8 yX8_divideSmall yX8_divideSmall, Cond.code yX8_divideSmall cX8_divideSmall 7 none, Cond.methodLink RX5 101 yX8_multiply, Cond.instanceMethod yX8_multiply, Cond.selects RX8 yX8_multiply yX8_multiply, Cond.code yX8_multiply cX8_multiply 4 none, Cond.methodLink RX9 196 yX9_findBound, Cond.instanceMethod yX9_findBound, Cond.selects RX9 yX9_findBound yX9_findBound, Cond.code yX9_findBound cX9_findBound 4 none, Cond.fieldLink RX9 189 "PolicyWorks$Ladder" "rows" "[LPolicyWorks$Row;", Cond.fieldLink RX9 71 "PolicyWorks" "left" "LPolicyWorks$Whole;", Cond.fieldLink RX9 85 "PolicyWorks$Model" "states" "I"]
def wsX9_bound_r8 : List Cond := [Cond.fieldLink RX9 75 "PolicyWorks" "right" "LPolicyWorks$Whole;", Cond.fieldLink RX9 232 "PolicyWorks$Row" "above" "[LPolicyWorks$Whole;", Cond.fieldLink RX9 164 "PolicyWorks$Fraction" "above" "LPolicyWorks$Whole;", Cond.fieldLink RX9 123 "PolicyWorks$Model" "discountBelow" "I", Cond.fieldLink RX9 171 "PolicyWorks$Fraction" "below" "LPolicyWorks$Whole;", Cond.fieldLink RX9 173 "PolicyWorks$Row" "below" "LPolicyWorks$Whole;", Cond.fieldLink RX9 120 "PolicyWorks$Model" "discountAbove" "I", Cond.methodLink RX9 229 yX8_clear, Cond.methodLink RX9 167 yX8_copy, Cond.methodLink RX9 235 yX8_dropSign, Cond.instanceMethod yX8_dropSign, Cond.selects RX8 yX8_dropSign yX8_dropSign, Cond.code yX8_dropSign cX8_dropSign 2 none, Cond.methodLink RX9 238 yX8_compare, Cond.instanceMethod yX8_compare, Cond.selects RX8 yX8_compare yX8_compare, Cond.code yX8_compare cX8_compare 7 (some .int), Cond.methodLink RX8 58 Lib.Math.max.name, Cond.methodLink RX8 61 yX8_limbAt, Cond.instanceMethod yX8_limbAt, Cond.selects RX8 yX8_limbAt yX8_limbAt, Cond.code yX8_limbAt cX8_limbAt 2 (some .long), Cond.methodLink RX9 177 yX8_multiply, Cond.methodLink RX9 151 yX3_tell]
def wsX9_bound_r9 : List Cond := [Cond.instanceMethod yX3_tell, Cond.selects RX3 yX3_tell yX3_tell, Cond.initialized RX3, Cond.code yX3_tell cX3_tell 2 (some .long), Cond.fieldLink RX3 14 "PolicyWorks$Fraction" "above" "LPolicyWorks$Whole;", Cond.fieldLink RX3 32 "PolicyWorks$Whole" "sign" "I", Cond.fieldLink RX3 20 "PolicyWorks$Fraction" "below" "LPolicyWorks$Whole;", Cond.methodLink RX3 36 yX3_reduce, Cond.instanceMethod yX3_reduce, Cond.selects RX3 yX3_reduce yX3_reduce, Cond.code yX3_reduce cX3_reduce 2 none, Cond.fieldLink RX3 29 "PolicyWorks$Fraction" "quotient" "LPolicyWorks$Whole;", Cond.methodLink RX3 43 yX8_dropSign, Cond.methodLink RX3 46 yX3_commonDivisor, Cond.instanceMethod yX3_commonDivisor, Cond.selects RX3 yX3_commonDivisor yX3_commonDivisor, Cond.code yX3_commonDivisor cX3_commonDivisor 5 (some (.object "PolicyWorks$Whole")), Cond.fieldLink RX3 23 "PolicyWorks$Fraction" "one" "LPolicyWorks$Whole;", Cond.fieldLink RX3 26 "PolicyWorks$Fraction" "other" "LPolicyWorks$Whole;", Cond.fieldLink RX3 58 "PolicyWorks$Whole" "size" "I", Cond.methodLink RX3 54 yX8_copy, Cond.methodLink RX3 50 yX8_divide, Cond.instanceMethod yX8_divide, Cond.selects RX8 yX8_divide yX8_divide]
def wsX9_bound_r10 : List Cond := [Cond.code yX8_divide cX8_divide 7 none, Cond.methodLink RX8 73 Lib.MathLoose.max_long.x, Cond.static Lib.MathLoose.max_long.x, Cond.code Lib.MathLoose.max_long.x Lib.MathLoose.max_long.code 4 (some .long), Cond.methodLink RX8 65 yX8_reaches, Cond.instanceMethod yX8_reaches, Cond.selects RX8 yX8_reaches yX8_reaches, Cond.code yX8_reaches cX8_reaches 4 (some .boolean), Cond.methodLink RX8 69 yX8_guess, Cond.instanceMethod yX8_guess, Cond.selects RX8 yX8_guess yX8_guess, Cond.code yX8_guess cX8_guess 8 (some .long), Cond.methodLink RX8 75 yX8_takeAway, Cond.instanceMethod yX8_takeAway, Cond.selects RX8 yX8_takeAway yX8_takeAway, Cond.code yX8_takeAway cX8_takeAway 10 none, Cond.methodLink RX3 39 yX8_eighteen, Cond.instanceMethod yX8_eighteen, Cond.selects RX8 yX8_eighteen yX8_eighteen, Cond.code yX8_eighteen cX8_eighteen 5 (some .long)]
def wsX9_bound : List Cond := .code yX9_bound cX9_bound 4 (some .long) :: ((wsX9_bound_r1 ++ (wsX9_bound_r2 ++ (wsX9_bound_r3 ++ (wsX9_bound_r4 ++ (wsX9_bound_r5 ++ (wsX9_bound_r6 ++ (wsX9_bound_r7 ++ (wsX9_bound_r8 ++ (wsX9_bound_r9 ++ wsX9_bound_r10))))))))) ++ wsX90 ++ wsX60 ++ wsX00 ++ wsX50 ++ wsX70 ++ wsX80 ++ wsX10 ++ wsX40 ++ wsX30)
def wsX9_valuesAreGreatestGains_r1 : List Cond := [Cond.fieldLink RX9 26 "PolicyWorks" "chooser" "LPolicyWorks$Chooser;", Cond.fieldLink RX9 154 "PolicyWorks$Chooser" "best" "LPolicyWorks$Gain;", Cond.fieldLink RX9 10 "PolicyWorks" "model" "LPolicyWorks$Model;", Cond.fieldLink RX9 85 "PolicyWorks$Model" "states" "I", Cond.fieldLink RX9 95 "PolicyWorks$Model" "actionCounts" "[I", Cond.fieldLink RX9 42 "PolicyWorks" "bestValues" "LPolicyWorks$Row;", Cond.fieldLink RX9 71 "PolicyWorks" "left" "LPolicyWorks$Whole;", Cond.fieldLink RX9 232 "PolicyWorks$Row" "above" "[LPolicyWorks$Whole;", Cond.fieldLink RX9 174 "PolicyWorks$Gain" "scale" "I", Cond.fieldLink RX9 166 "PolicyWorks$Gain" "above" "LPolicyWorks$Whole;", Cond.fieldLink RX9 46 "PolicyWorks" "bestPolicy" "[I", Cond.methodLink RX9 102 yX6_find, Cond.instanceMethod yX6_find, Cond.selects RX6 yX6_find yX6_find, Cond.initialized RX6, Cond.code yX6_find cX6_find 3 (some (.object "PolicyWorks$Action")), Cond.fieldLink RX6 17 "PolicyWorks$Model" "actions" "[LPolicyWorks$Action;", Cond.methodLink RX9 158 yX4_weigh, Cond.instanceMethod yX4_weigh, Cond.selects RX4 yX4_weigh yX4_weigh, Cond.initialized RX4, Cond.code yX4_weigh cX4_weigh 5 none, Cond.fieldLink RX4 24 "PolicyWorks$Action" "below" "I", Cond.fieldLink RX4 29 "PolicyWorks$Model" "discountBelow" "I"]
def wsX9_valuesAreGreatestGains_r2 : List Cond := [Cond.fieldLink RX4 34 "PolicyWorks$Action" "total" "I", Cond.fieldLink RX4 20 "PolicyWorks$Gain" "scale" "I", Cond.fieldLink RX4 14 "PolicyWorks$Gain" "above" "LPolicyWorks$Whole;", Cond.fieldLink RX4 40 "PolicyWorks$Row" "below" "LPolicyWorks$Whole;", Cond.fieldLink RX4 44 "PolicyWorks$Action" "above" "I", Cond.fieldLink RX4 50 "PolicyWorks$Model" "states" "I", Cond.fieldLink RX4 53 "PolicyWorks$Row" "above" "[LPolicyWorks$Whole;", Cond.fieldLink RX4 56 "PolicyWorks$Model" "discountAbove" "I", Cond.fieldLink RX4 59 "PolicyWorks$Action" "weights" "[I", Cond.methodLink RX4 37 yX8_clear, Cond.instanceMethod yX8_clear, Cond.selects RX8 yX8_clear yX8_clear, Cond.initialized RX8, Cond.code yX8_clear cX8_clear 1 none, Cond.fieldLink RX8 7 "PolicyWorks$Whole" "limbs" "[J", Cond.fieldLink RX8 13 "PolicyWorks$Whole" "size" "I", Cond.fieldLink RX8 17 "PolicyWorks$Whole" "sign" "I", Cond.methodLink RX8 20 yJ7_fill_d0a16, Cond.static yJ7_fill_d0a16, Cond.initialized RJ7, Cond.code yJ7_fill_d0a16 cJ7_fill_d0a16 5 none, Cond.methodLink RX4 46 yX8_add, Cond.instanceMethod yX8_add, Cond.selects RX8 yX8_add yX8_add]
def wsX9_valuesAreGreatestGains_r3 : List Cond := [Cond.code yX8_add cX8_add 6 none, Cond.methodLink RX8 32 Lib.Math.min.name, Cond.static Lib.Math.min.name, Cond.initialized "java/lang/Math", Cond.code Lib.Math.min.name Lib.Math.min.code 2 (some .int), Cond.methodLink RX4 63 yX8_settle, Cond.instanceMethod yX8_settle, Cond.selects RX8 yX8_settle yX8_settle, Cond.code yX8_settle cX8_settle 6 none, Cond.constantLong RX8 44 (1000000), Cond.methodLink RX8 46 yJ9_floorDiv_f86c9, Cond.static yJ9_floorDiv_f86c9, Cond.initialized RJ9, Cond.code yJ9_floorDiv_f86c9 cJ9_floorDiv_f86c9 6 (some .long), Cond.methodLink RX8 50 yX8_turnNegative, Cond.instanceMethod yX8_turnNegative, Cond.selects RX8 yX8_turnNegative yX8_turnNegative, Cond.code yX8_turnNegative cX8_turnNegative 3 none, Cond.constantLong RX8 56 (999999), Cond.methodLink RX8 53 yX8_measure, Cond.instanceMethod yX8_measure, Cond.selects RX8 yX8_measure yX8_measure, Cond.code yX8_measure cX8_measure 1 none, Cond.methodLink RX9 167 yX8_copy]
def wsX9_valuesAreGreatestGains_r4 : List Cond := [Cond.instanceMethod yX8_copy, Cond.selects RX8 yX8_copy yX8_copy, Cond.code yX8_copy cX8_copy 2 none, Cond.methodLink RX8 38 arraycopyName, Cond.native arraycopyName, Cond.static arraycopyName, Cond.initialized "java/lang/System", Cond.methodLink RX8 26 yX8_clear, Cond.methodLink RX9 177 yX8_multiply, Cond.instanceMethod yX8_multiply, Cond.selects RX8 yX8_multiply yX8_multiply, Cond.code yX8_multiply cX8_multiply 4 none, Cond.methodLink RX8 29 yX8_settle, Cond.methodLink RX9 238 yX8_compare, Cond.instanceMethod yX8_compare, Cond.selects RX8 yX8_compare yX8_compare, Cond.code yX8_compare cX8_compare 7 (some .int), Cond.methodLink RX8 58 Lib.Math.max.name, Cond.static Lib.Math.max.name, Cond.code Lib.Math.max.name Lib.Math.max.code 2 (some .int), Cond.methodLink RX8 61 yX8_limbAt, Cond.instanceMethod yX8_limbAt, Cond.selects RX8 yX8_limbAt yX8_limbAt, Cond.code yX8_limbAt cX8_limbAt 2 (some .long)]
def wsX9_valuesAreGreatestGains : List Cond := .code yX9_valuesAreGreatestGains cX9_valuesAreGreatestGains 5 (some .boolean) :: ((wsX9_valuesAreGreatestGains_r1 ++ (wsX9_valuesAreGreatestGains_r2 ++ (wsX9_valuesAreGreatestGains_r3 ++ wsX9_valuesAreGreatestGains_r4))) ++ wsX90 ++ wsX10 ++ wsX60 ++ wsX70 ++ wsX40 ++ wsX00 ++ wsX80)
def wsX9_noWorthIsMore_r1 : List Cond := [Cond.fieldLink RX9 10 "PolicyWorks" "model" "LPolicyWorks$Model;", Cond.fieldLink RX9 85 "PolicyWorks$Model" "states" "I", Cond.fieldLink RX9 71 "PolicyWorks" "left" "LPolicyWorks$Whole;", Cond.fieldLink RX9 42 "PolicyWorks" "bestValues" "LPolicyWorks$Row;", Cond.fieldLink RX9 232 "PolicyWorks$Row" "above" "[LPolicyWorks$Whole;", Cond.fieldLink RX9 173 "PolicyWorks$Row" "below" "LPolicyWorks$Whole;", Cond.fieldLink RX9 75 "PolicyWorks" "right" "LPolicyWorks$Whole;", Cond.methodLink RX9 181 yX9_findWorth, Cond.instanceMethod yX9_findWorth, Cond.selects RX9 yX9_findWorth yX9_findWorth, Cond.initialized RX9, Cond.code yX9_findWorth cX9_findWorth 3 (some (.object "PolicyWorks$Row")), Cond.fieldLink RX9 54 "PolicyWorks" "worthKnown" "[Z", Cond.fieldLink RX9 58 "PolicyWorks" "trial" "[I", Cond.fieldLink RX9 95 "PolicyWorks$Model" "actionCounts" "[I", Cond.methodLink RX9 223 Lib.Math.min.name, Cond.static Lib.Math.min.name, Cond.initialized "java/lang/Math", Cond.code Lib.Math.min.name Lib.Math.min.code 2 (some .int), Cond.fieldLink RX9 19 "PolicyWorks" "equations" "LPolicyWorks$Equations;", Cond.fieldLink RX9 50 "PolicyWorks" "worths" "[LPolicyWorks$Row;", Cond.methodLink RX9 136 yX2_findValues, Cond.instanceMethod yX2_findValues, Cond.selects RX2 yX2_findValues yX2_findValues]
def wsX9_noWorthIsMore_r2 : List Cond := [Cond.initialized RX2, Cond.code yX2_findValues cX2_findValues 8 none, Cond.fieldLink RX2 25 "PolicyWorks$Model" "states" "I", Cond.fieldLink RX2 18 "PolicyWorks$Equations" "minors" "[LPolicyWorks$Whole;", Cond.fieldLink RX2 47 "PolicyWorks$Row" "below" "LPolicyWorks$Whole;", Cond.fieldLink RX2 57 "PolicyWorks$Row" "above" "[LPolicyWorks$Whole;", Cond.constantLong RX2 60 (-1), Cond.methodLink RX2 31 yX6_find, Cond.instanceMethod yX6_find, Cond.selects RX6 yX6_find yX6_find, Cond.initialized RX6, Cond.code yX6_find cX6_find 3 (some (.object "PolicyWorks$Action")), Cond.fieldLink RX6 17 "PolicyWorks$Model" "actions" "[LPolicyWorks$Action;", Cond.methodLink RX2 35 yX2_writeRow, Cond.instanceMethod yX2_writeRow, Cond.selects RX2 yX2_writeRow yX2_writeRow, Cond.code yX2_writeRow cX2_writeRow 6 none, Cond.fieldLink RX2 11 "PolicyWorks$Equations" "rows" "[[I", Cond.fieldLink RX2 65 "PolicyWorks$Action" "below" "I", Cond.fieldLink RX2 69 "PolicyWorks$Model" "discountAbove" "I", Cond.fieldLink RX2 72 "PolicyWorks$Action" "weights" "[I", Cond.fieldLink RX2 76 "PolicyWorks$Model" "discountBelow" "I", Cond.fieldLink RX2 79 "PolicyWorks$Action" "total" "I", Cond.fieldLink RX2 82 "PolicyWorks$Action" "above" "I"]
def wsX9_noWorthIsMore_r3 : List Cond := [Cond.methodLink RX2 39 yX8_put, Cond.instanceMethod yX8_put, Cond.selects RX8 yX8_put yX8_put, Cond.initialized RX8, Cond.code yX8_put cX8_put 3 none, Cond.fieldLink RX8 7 "PolicyWorks$Whole" "limbs" "[J", Cond.methodLink RX8 26 yX8_clear, Cond.instanceMethod yX8_clear, Cond.selects RX8 yX8_clear yX8_clear, Cond.code yX8_clear cX8_clear 1 none, Cond.fieldLink RX8 13 "PolicyWorks$Whole" "size" "I", Cond.fieldLink RX8 17 "PolicyWorks$Whole" "sign" "I", Cond.methodLink RX8 20 yJ7_fill_d0a16, Cond.static yJ7_fill_d0a16, Cond.initialized RJ7, Cond.code yJ7_fill_d0a16 cJ7_fill_d0a16 5 none, Cond.methodLink RX8 29 yX8_settle, Cond.instanceMethod yX8_settle, Cond.selects RX8 yX8_settle yX8_settle, Cond.code yX8_settle cX8_settle 6 none, Cond.constantLong RX8 44 (1000000), Cond.methodLink RX8 46 yJ9_floorDiv_f86c9, Cond.static yJ9_floorDiv_f86c9, Cond.initialized RJ9]
def wsX9_noWorthIsMore_r4 : List Cond := [Cond.code yJ9_floorDiv_f86c9 cJ9_floorDiv_f86c9 6 (some .long), Cond.methodLink RX8 50 yX8_turnNegative, Cond.instanceMethod yX8_turnNegative, Cond.selects RX8 yX8_turnNegative yX8_turnNegative, Cond.code yX8_turnNegative cX8_turnNegative 3 none, Cond.constantLong RX8 56 (999999), Cond.methodLink RX8 53 yX8_measure, Cond.instanceMethod yX8_measure, Cond.selects RX8 yX8_measure yX8_measure, Cond.code yX8_measure cX8_measure 1 none, Cond.methodLink RX2 43 yX2_expand, Cond.instanceMethod yX2_expand, Cond.selects RX2 yX2_expand yX2_expand, Cond.code yX2_expand cX2_expand 7 none, Cond.methodLink RX2 84 yJ6_bitCount_0f7a4, Cond.static yJ6_bitCount_0f7a4, Cond.initialized RJ6, Cond.code yJ6_bitCount_0f7a4 cJ6_bitCount_0f7a4 1 (some .int), Cond.constant RJ6 265 (1431655765), Cond.constant RJ6 266 (858993459), Cond.constant RJ6 267 (252645135), Cond.methodLink RX2 90 yX8_clear, Cond.methodLink RX2 93 yX8_add, Cond.instanceMethod yX8_add]
def wsX9_noWorthIsMore_r5 : List Cond := [Cond.selects RX8 yX8_add yX8_add, Cond.code yX8_add cX8_add 6 none, Cond.methodLink RX8 32 Lib.Math.min.name, Cond.methodLink RX2 97 yX8_settle, Cond.methodLink RX2 53 yX8_copy, Cond.instanceMethod yX8_copy, Cond.selects RX8 yX8_copy yX8_copy, Cond.code yX8_copy cX8_copy 2 none, Cond.methodLink RX8 38 arraycopyName, Cond.native arraycopyName, Cond.static arraycopyName, Cond.initialized "java/lang/System", Cond.methodLink RX2 62 yX8_multiply, Cond.instanceMethod yX8_multiply, Cond.selects RX8 yX8_multiply yX8_multiply, Cond.code yX8_multiply cX8_multiply 4 none, Cond.methodLink RX9 242 yX8_product, Cond.instanceMethod yX8_product, Cond.selects RX8 yX8_product yX8_product, Cond.code yX8_product cX8_product 6 none, Cond.methodLink RX9 238 yX8_compare, Cond.instanceMethod yX8_compare, Cond.selects RX8 yX8_compare yX8_compare, Cond.code yX8_compare cX8_compare 7 (some .int)]
def wsX9_noWorthIsMore_r6 : List Cond := [Cond.methodLink RX8 58 Lib.Math.max.name, Cond.static Lib.Math.max.name, Cond.code Lib.Math.max.name Lib.Math.max.code 2 (some .int), Cond.methodLink RX8 61 yX8_limbAt, Cond.instanceMethod yX8_limbAt, Cond.selects RX8 yX8_limbAt yX8_limbAt, Cond.code yX8_limbAt cX8_limbAt 2 (some .long)]
def wsX9_noWorthIsMore : List Cond := .code yX9_noWorthIsMore cX9_noWorthIsMore 4 (some .boolean) :: ((wsX9_noWorthIsMore_r1 ++ (wsX9_noWorthIsMore_r2 ++ (wsX9_noWorthIsMore_r3 ++ (wsX9_noWorthIsMore_r4 ++ (wsX9_noWorthIsMore_r5 ++ wsX9_noWorthIsMore_r6))))) ++ wsX90 ++ wsX60 ++ wsX70 ++ wsX20 ++ wsX00 ++ wsX80)
def wsX9_isFartherThanTold_r1 : List Cond := [Cond.fieldLink RX9 71 "PolicyWorks" "left" "LPolicyWorks$Whole;", Cond.fieldLink RX9 42 "PolicyWorks" "bestValues" "LPolicyWorks$Row;", Cond.fieldLink RX9 232 "PolicyWorks$Row" "above" "[LPolicyWorks$Whole;", Cond.fieldLink RX9 173 "PolicyWorks$Row" "below" "LPolicyWorks$Whole;", Cond.fieldLink RX9 75 "PolicyWorks" "right" "LPolicyWorks$Whole;", Cond.constantLong RX9 214 (-1), Cond.fieldLink RX9 64 "PolicyWorks" "told" "LPolicyWorks$Fraction;", Cond.fieldLink RX9 171 "PolicyWorks$Fraction" "below" "LPolicyWorks$Whole;", Cond.fieldLink RX9 78 "PolicyWorks" "factor" "LPolicyWorks$Whole;", Cond.fieldLink RX9 164 "PolicyWorks$Fraction" "above" "LPolicyWorks$Whole;", Cond.methodLink RX9 242 yX8_product, Cond.instanceMethod yX8_product, Cond.selects RX8 yX8_product yX8_product, Cond.initialized RX8, Cond.code yX8_product cX8_product 6 none, Cond.fieldLink RX8 13 "PolicyWorks$Whole" "size" "I", Cond.fieldLink RX8 7 "PolicyWorks$Whole" "limbs" "[J", Cond.methodLink RX8 32 Lib.Math.min.name, Cond.static Lib.Math.min.name, Cond.initialized "java/lang/Math", Cond.code Lib.Math.min.name Lib.Math.min.code 2 (some .int), Cond.methodLink RX8 26 yX8_clear, Cond.instanceMethod yX8_clear, Cond.selects RX8 yX8_clear yX8_clear]
def wsX9_isFartherThanTold_r2 : List Cond := [Cond.code yX8_clear cX8_clear 1 none, Cond.fieldLink RX8 17 "PolicyWorks$Whole" "sign" "I", Cond.methodLink RX8 20 yJ7_fill_d0a16, Cond.static yJ7_fill_d0a16, Cond.initialized RJ7, Cond.code yJ7_fill_d0a16 cJ7_fill_d0a16 5 none, Cond.methodLink RX8 29 yX8_settle, Cond.instanceMethod yX8_settle, Cond.selects RX8 yX8_settle yX8_settle, Cond.code yX8_settle cX8_settle 6 none, Cond.constantLong RX8 44 (1000000), Cond.methodLink RX8 46 yJ9_floorDiv_f86c9, Cond.static yJ9_floorDiv_f86c9, Cond.initialized RJ9, Cond.code yJ9_floorDiv_f86c9 cJ9_floorDiv_f86c9 6 (some .long), Cond.methodLink RX8 50 yX8_turnNegative, Cond.instanceMethod yX8_turnNegative, Cond.selects RX8 yX8_turnNegative yX8_turnNegative, Cond.code yX8_turnNegative cX8_turnNegative 3 none, Cond.constantLong RX8 56 (999999), Cond.methodLink RX8 53 yX8_measure, Cond.instanceMethod yX8_measure, Cond.selects RX8 yX8_measure yX8_measure, Cond.code yX8_measure cX8_measure 1 none]
def wsX9_isFartherThanTold_r3 : List Cond := [Cond.methodLink RX9 250 yX8_add, Cond.instanceMethod yX8_add, Cond.selects RX8 yX8_add yX8_add, Cond.code yX8_add cX8_add 6 none, Cond.methodLink RX9 254 yX8_settle, Cond.methodLink RX9 235 yX8_dropSign, Cond.instanceMethod yX8_dropSign, Cond.selects RX8 yX8_dropSign yX8_dropSign, Cond.code yX8_dropSign cX8_dropSign 2 none, Cond.methodLink RX9 238 yX8_compare, Cond.instanceMethod yX8_compare, Cond.selects RX8 yX8_compare yX8_compare, Cond.code yX8_compare cX8_compare 7 (some .int), Cond.methodLink RX8 58 Lib.Math.max.name, Cond.static Lib.Math.max.name, Cond.code Lib.Math.max.name Lib.Math.max.code 2 (some .int), Cond.methodLink RX8 61 yX8_limbAt, Cond.instanceMethod yX8_limbAt, Cond.selects RX8 yX8_limbAt yX8_limbAt, Cond.code yX8_limbAt cX8_limbAt 2 (some .long)]
def wsX9_isFartherThanTold : List Cond := .code yX9_isFartherThanTold cX9_isFartherThanTold 3 (some .boolean) :: ((wsX9_isFartherThanTold_r1 ++ (wsX9_isFartherThanTold_r2 ++ wsX9_isFartherThanTold_r3)) ++ wsX90 ++ wsX70 ++ wsX30 ++ wsX80)
def wsX9_stepsKeepBounds_r1 : List Cond := [Cond.fieldLink RX9 10 "PolicyWorks" "model" "LPolicyWorks$Model;", Cond.fieldLink RX9 85 "PolicyWorks$Model" "states" "I", Cond.fieldLink RX9 33 "PolicyWorks" "ladder" "LPolicyWorks$Ladder;", Cond.fieldLink RX9 189 "PolicyWorks$Ladder" "rows" "[LPolicyWorks$Row;", Cond.methodLink RX9 196 yX9_findBound, Cond.instanceMethod yX9_findBound, Cond.selects RX9 yX9_findBound yX9_findBound, Cond.initialized RX9, Cond.code yX9_findBound cX9_findBound 4 none, Cond.fieldLink RX9 71 "PolicyWorks" "left" "LPolicyWorks$Whole;", Cond.fieldLink RX9 75 "PolicyWorks" "right" "LPolicyWorks$Whole;", Cond.fieldLink RX9 232 "PolicyWorks$Row" "above" "[LPolicyWorks$Whole;", Cond.fieldLink RX9 64 "PolicyWorks" "told" "LPolicyWorks$Fraction;", Cond.fieldLink RX9 164 "PolicyWorks$Fraction" "above" "LPolicyWorks$Whole;", Cond.fieldLink RX9 123 "PolicyWorks$Model" "discountBelow" "I", Cond.fieldLink RX9 171 "PolicyWorks$Fraction" "below" "LPolicyWorks$Whole;", Cond.fieldLink RX9 173 "PolicyWorks$Row" "below" "LPolicyWorks$Whole;", Cond.fieldLink RX9 120 "PolicyWorks$Model" "discountAbove" "I", Cond.methodLink RX9 229 yX8_clear, Cond.instanceMethod yX8_clear, Cond.selects RX8 yX8_clear yX8_clear, Cond.initialized RX8, Cond.code yX8_clear cX8_clear 1 none, Cond.fieldLink RX8 7 "PolicyWorks$Whole" "limbs" "[J"]
def wsX9_stepsKeepBounds_r2 : List Cond := [Cond.fieldLink RX8 13 "PolicyWorks$Whole" "size" "I", Cond.fieldLink RX8 17 "PolicyWorks$Whole" "sign" "I", Cond.methodLink RX8 20 yJ7_fill_d0a16, Cond.static yJ7_fill_d0a16, Cond.initialized RJ7, Cond.code yJ7_fill_d0a16 cJ7_fill_d0a16 5 none, Cond.methodLink RX9 167 yX8_copy, Cond.instanceMethod yX8_copy, Cond.selects RX8 yX8_copy yX8_copy, Cond.code yX8_copy cX8_copy 2 none, Cond.methodLink RX8 32 Lib.Math.min.name, Cond.static Lib.Math.min.name, Cond.initialized "java/lang/Math", Cond.code Lib.Math.min.name Lib.Math.min.code 2 (some .int), Cond.methodLink RX8 38 arraycopyName, Cond.native arraycopyName, Cond.static arraycopyName, Cond.initialized "java/lang/System", Cond.methodLink RX8 26 yX8_clear, Cond.methodLink RX9 235 yX8_dropSign, Cond.instanceMethod yX8_dropSign, Cond.selects RX8 yX8_dropSign yX8_dropSign, Cond.code yX8_dropSign cX8_dropSign 2 none, Cond.methodLink RX9 238 yX8_compare]
def wsX9_stepsKeepBounds_r3 : List Cond := [Cond.instanceMethod yX8_compare, Cond.selects RX8 yX8_compare yX8_compare, Cond.code yX8_compare cX8_compare 7 (some .int), Cond.methodLink RX8 58 Lib.Math.max.name, Cond.static Lib.Math.max.name, Cond.code Lib.Math.max.name Lib.Math.max.code 2 (some .int), Cond.methodLink RX8 61 yX8_limbAt, Cond.instanceMethod yX8_limbAt, Cond.selects RX8 yX8_limbAt yX8_limbAt, Cond.code yX8_limbAt cX8_limbAt 2 (some .long), Cond.methodLink RX9 177 yX8_multiply, Cond.instanceMethod yX8_multiply, Cond.selects RX8 yX8_multiply yX8_multiply, Cond.code yX8_multiply cX8_multiply 4 none, Cond.methodLink RX8 29 yX8_settle, Cond.instanceMethod yX8_settle, Cond.selects RX8 yX8_settle yX8_settle, Cond.code yX8_settle cX8_settle 6 none, Cond.constantLong RX8 44 (1000000), Cond.methodLink RX8 46 yJ9_floorDiv_f86c9, Cond.static yJ9_floorDiv_f86c9, Cond.initialized RJ9, Cond.code yJ9_floorDiv_f86c9 cJ9_floorDiv_f86c9 6 (some .long), Cond.methodLink RX8 50 yX8_turnNegative]
def wsX9_stepsKeepBounds_r4 : List Cond := [Cond.instanceMethod yX8_turnNegative, Cond.selects RX8 yX8_turnNegative yX8_turnNegative, Cond.code yX8_turnNegative cX8_turnNegative 3 none, Cond.constantLong RX8 56 (999999), Cond.methodLink RX8 53 yX8_measure, Cond.instanceMethod yX8_measure, Cond.selects RX8 yX8_measure yX8_measure, Cond.code yX8_measure cX8_measure 1 none, Cond.methodLink RX9 246 yX9_isFartherThanTold, Cond.instanceMethod yX9_isFartherThanTold, Cond.selects RX9 yX9_isFartherThanTold yX9_isFartherThanTold, Cond.code yX9_isFartherThanTold cX9_isFartherThanTold 3 (some .boolean), Cond.fieldLink RX9 42 "PolicyWorks" "bestValues" "LPolicyWorks$Row;", Cond.constantLong RX9 214 (-1), Cond.fieldLink RX9 78 "PolicyWorks" "factor" "LPolicyWorks$Whole;", Cond.methodLink RX9 242 yX8_product, Cond.instanceMethod yX8_product, Cond.selects RX8 yX8_product yX8_product, Cond.code yX8_product cX8_product 6 none, Cond.methodLink RX9 250 yX8_add, Cond.instanceMethod yX8_add, Cond.selects RX8 yX8_add yX8_add, Cond.code yX8_add cX8_add 6 none, Cond.methodLink RX9 254 yX8_settle]
def wsX9_stepsKeepBounds : List Cond := .code yX9_stepsKeepBounds cX9_stepsKeepBounds 3 (some .boolean) :: ((wsX9_stepsKeepBounds_r1 ++ (wsX9_stepsKeepBounds_r2 ++ (wsX9_stepsKeepBounds_r3 ++ wsX9_stepsKeepBounds_r4))) ++ wsX90 ++ wsX60 ++ wsX50 ++ wsX70 ++ wsX30 ++ wsX80)
def wsX9_best_r1 : List Cond := [Cond.fieldLink RX9 81 "PolicyWorks" "rounds" "I", Cond.fieldLink RX9 33 "PolicyWorks" "ladder" "LPolicyWorks$Ladder;", Cond.fieldLink RX9 10 "PolicyWorks" "model" "LPolicyWorks$Model;", Cond.fieldLink RX9 26 "PolicyWorks" "chooser" "LPolicyWorks$Chooser;", Cond.methodLink RX9 185 yX5_climb, Cond.instanceMethod yX5_climb, Cond.selects RX5 yX5_climb yX5_climb, Cond.initialized RX5, Cond.code yX5_climb cX5_climb 4 none, Cond.fieldLink RX5 25 "PolicyWorks$Ladder" "known" "I", Cond.methodLink RX5 29 yX5_begin, Cond.instanceMethod yX5_begin, Cond.selects RX5 yX5_begin yX5_begin, Cond.code yX5_begin cX5_begin 3 none, Cond.fieldLink RX5 11 "PolicyWorks$Ladder" "rows" "[LPolicyWorks$Row;", Cond.fieldLink RX5 37 "PolicyWorks$Row" "above" "[LPolicyWorks$Whole;", Cond.fieldLink RX5 46 "PolicyWorks$Row" "below" "LPolicyWorks$Whole;", Cond.methodLink RX5 41 yX8_clear, Cond.instanceMethod yX8_clear, Cond.selects RX8 yX8_clear yX8_clear, Cond.initialized RX8, Cond.code yX8_clear cX8_clear 1 none, Cond.fieldLink RX8 7 "PolicyWorks$Whole" "limbs" "[J", Cond.fieldLink RX8 13 "PolicyWorks$Whole" "size" "I"]
def wsX9_best_r2 : List Cond := [Cond.fieldLink RX8 17 "PolicyWorks$Whole" "sign" "I", Cond.methodLink RX8 20 yJ7_fill_d0a16, Cond.static yJ7_fill_d0a16, Cond.initialized RJ7, Cond.code yJ7_fill_d0a16 cJ7_fill_d0a16 5 none, Cond.methodLink RX5 50 yX6_commonRewardBelow, Cond.instanceMethod yX6_commonRewardBelow, Cond.selects RX6 yX6_commonRewardBelow yX6_commonRewardBelow, Cond.initialized RX6, Cond.code yX6_commonRewardBelow cX6_commonRewardBelow 5 (some .int), Cond.fieldLink RX6 22 "PolicyWorks$Model" "states" "I", Cond.fieldLink RX6 9 "PolicyWorks$Model" "actionCounts" "[I", Cond.fieldLink RX6 47 "PolicyWorks$Action" "below" "I", Cond.methodLink RX6 36 yX6_find, Cond.instanceMethod yX6_find, Cond.selects RX6 yX6_find yX6_find, Cond.code yX6_find cX6_find 3 (some (.object "PolicyWorks$Action")), Cond.fieldLink RX6 17 "PolicyWorks$Model" "actions" "[LPolicyWorks$Action;", Cond.methodLink RX6 50 yX6_commonDivisor, Cond.static yX6_commonDivisor, Cond.code yX6_commonDivisor cX6_commonDivisor 3 (some .int), Cond.methodLink RX6 54 Lib.Math.max.name, Cond.static Lib.Math.max.name, Cond.initialized "java/lang/Math"]
def wsX9_best_r3 : List Cond := [Cond.code Lib.Math.max.name Lib.Math.max.code 2 (some .int), Cond.methodLink RX5 56 yX8_put, Cond.instanceMethod yX8_put, Cond.selects RX8 yX8_put yX8_put, Cond.code yX8_put cX8_put 3 none, Cond.methodLink RX8 26 yX8_clear, Cond.methodLink RX8 29 yX8_settle, Cond.instanceMethod yX8_settle, Cond.selects RX8 yX8_settle yX8_settle, Cond.code yX8_settle cX8_settle 6 none, Cond.constantLong RX8 44 (1000000), Cond.methodLink RX8 46 yJ9_floorDiv_f86c9, Cond.static yJ9_floorDiv_f86c9, Cond.initialized RJ9, Cond.code yJ9_floorDiv_f86c9 cJ9_floorDiv_f86c9 6 (some .long), Cond.methodLink RX8 50 yX8_turnNegative, Cond.instanceMethod yX8_turnNegative, Cond.selects RX8 yX8_turnNegative yX8_turnNegative, Cond.code yX8_turnNegative cX8_turnNegative 3 none, Cond.constantLong RX8 56 (999999), Cond.methodLink RX8 53 yX8_measure, Cond.instanceMethod yX8_measure, Cond.selects RX8 yX8_measure yX8_measure, Cond.code yX8_measure cX8_measure 1 none]
def wsX9_best_r4 : List Cond := [Cond.methodLink RX5 33 yX5_step, Cond.instanceMethod yX5_step, Cond.selects RX5 yX5_step yX5_step, Cond.code yX5_step cX5_step 11 none, Cond.fieldLink RX5 60 "PolicyWorks$Model" "states" "I", Cond.fieldLink RX5 22 "PolicyWorks$Ladder" "picks" "[[I", Cond.fieldLink RX5 73 "PolicyWorks$Action" "total" "I", Cond.fieldLink RX5 78 "PolicyWorks$Chooser" "best" "LPolicyWorks$Gain;", Cond.fieldLink RX5 82 "PolicyWorks$Gain" "above" "LPolicyWorks$Whole;", Cond.fieldLink RX5 90 "PolicyWorks$Action" "below" "I", Cond.methodLink RX5 95 Lib.Math.max.name, Cond.fieldLink RX5 104 "PolicyWorks$Model" "discountBelow" "I", Cond.methodLink RX5 63 yX1_greatest, Cond.instanceMethod yX1_greatest, Cond.selects RX1 yX1_greatest yX1_greatest, Cond.initialized RX1, Cond.code yX1_greatest cX1_greatest 8 (some .int), Cond.fieldLink RX1 12 "PolicyWorks$Chooser" "best" "LPolicyWorks$Gain;", Cond.fieldLink RX1 40 "PolicyWorks$Model" "actionCounts" "[I", Cond.fieldLink RX1 18 "PolicyWorks$Chooser" "rival" "LPolicyWorks$Gain;", Cond.methodLink RX1 30 yX6_find, Cond.methodLink RX1 36 yX4_weigh, Cond.instanceMethod yX4_weigh, Cond.selects RX4 yX4_weigh yX4_weigh]
def wsX9_best_r5 : List Cond := [Cond.initialized RX4, Cond.code yX4_weigh cX4_weigh 5 none, Cond.fieldLink RX4 24 "PolicyWorks$Action" "below" "I", Cond.fieldLink RX4 29 "PolicyWorks$Model" "discountBelow" "I", Cond.fieldLink RX4 34 "PolicyWorks$Action" "total" "I", Cond.fieldLink RX4 20 "PolicyWorks$Gain" "scale" "I", Cond.fieldLink RX4 14 "PolicyWorks$Gain" "above" "LPolicyWorks$Whole;", Cond.fieldLink RX4 40 "PolicyWorks$Row" "below" "LPolicyWorks$Whole;", Cond.fieldLink RX4 44 "PolicyWorks$Action" "above" "I", Cond.fieldLink RX4 50 "PolicyWorks$Model" "states" "I", Cond.fieldLink RX4 53 "PolicyWorks$Row" "above" "[LPolicyWorks$Whole;", Cond.fieldLink RX4 56 "PolicyWorks$Model" "discountAbove" "I", Cond.fieldLink RX4 59 "PolicyWorks$Action" "weights" "[I", Cond.methodLink RX4 37 yX8_clear, Cond.methodLink RX4 46 yX8_add, Cond.instanceMethod yX8_add, Cond.selects RX8 yX8_add yX8_add, Cond.code yX8_add cX8_add 6 none, Cond.methodLink RX8 32 Lib.Math.min.name, Cond.static Lib.Math.min.name, Cond.code Lib.Math.min.name Lib.Math.min.code 2 (some .int), Cond.methodLink RX4 63 yX8_settle, Cond.methodLink RX1 44 yX1_rivalIsMore, Cond.instanceMethod yX1_rivalIsMore]
def wsX9_best_r6 : List Cond := [Cond.selects RX1 yX1_rivalIsMore yX1_rivalIsMore, Cond.code yX1_rivalIsMore cX1_rivalIsMore 1 (some .boolean), Cond.fieldLink RX1 26 "PolicyWorks$Chooser" "gap" "LPolicyWorks$Whole;", Cond.fieldLink RX1 51 "PolicyWorks$Gain" "above" "LPolicyWorks$Whole;", Cond.fieldLink RX1 54 "PolicyWorks$Gain" "scale" "I", Cond.fieldLink RX1 65 "PolicyWorks$Whole" "sign" "I", Cond.methodLink RX1 48 yX8_clear, Cond.methodLink RX1 58 yX8_add, Cond.methodLink RX1 62 yX8_settle, Cond.methodLink RX5 69 yX6_find, Cond.methodLink RX5 86 yX8_copy, Cond.instanceMethod yX8_copy, Cond.selects RX8 yX8_copy yX8_copy, Cond.code yX8_copy cX8_copy 2 none, Cond.methodLink RX8 38 arraycopyName, Cond.native arraycopyName, Cond.static arraycopyName, Cond.initialized "java/lang/System", Cond.methodLink RX5 92 yX8_divideSmall, Cond.instanceMethod yX8_divideSmall, Cond.selects RX8 yX8_divideSmall yX8_divideSmall, Cond.code yX8_divideSmall cX8_divideSmall 7 none, Cond.methodLink RX5 101 yX8_multiply, Cond.instanceMethod yX8_multiply]
def wsX9_best_r7 : List Cond := [Cond.selects RX8 yX8_multiply yX8_multiply, Cond.code yX8_multiply cX8_multiply 4 none, Cond.methodLink RX9 199 yX9_valuesAreGreatestGains, Cond.instanceMethod yX9_valuesAreGreatestGains, Cond.selects RX9 yX9_valuesAreGreatestGains yX9_valuesAreGreatestGains, Cond.initialized RX9, Cond.code yX9_valuesAreGreatestGains cX9_valuesAreGreatestGains 5 (some .boolean), Cond.fieldLink RX9 154 "PolicyWorks$Chooser" "best" "LPolicyWorks$Gain;", Cond.fieldLink RX9 85 "PolicyWorks$Model" "states" "I", Cond.fieldLink RX9 95 "PolicyWorks$Model" "actionCounts" "[I", Cond.fieldLink RX9 42 "PolicyWorks" "bestValues" "LPolicyWorks$Row;", Cond.fieldLink RX9 71 "PolicyWorks" "left" "LPolicyWorks$Whole;", Cond.fieldLink RX9 232 "PolicyWorks$Row" "above" "[LPolicyWorks$Whole;", Cond.fieldLink RX9 174 "PolicyWorks$Gain" "scale" "I", Cond.fieldLink RX9 166 "PolicyWorks$Gain" "above" "LPolicyWorks$Whole;", Cond.fieldLink RX9 46 "PolicyWorks" "bestPolicy" "[I", Cond.methodLink RX9 102 yX6_find, Cond.methodLink RX9 158 yX4_weigh, Cond.methodLink RX9 167 yX8_copy, Cond.methodLink RX9 177 yX8_multiply, Cond.methodLink RX9 238 yX8_compare, Cond.instanceMethod yX8_compare, Cond.selects RX8 yX8_compare yX8_compare, Cond.code yX8_compare cX8_compare 7 (some .int)]
def wsX9_best_r8 : List Cond := [Cond.methodLink RX8 58 Lib.Math.max.name, Cond.methodLink RX8 61 yX8_limbAt, Cond.instanceMethod yX8_limbAt, Cond.selects RX8 yX8_limbAt yX8_limbAt, Cond.code yX8_limbAt cX8_limbAt 2 (some .long), Cond.methodLink RX9 202 yX9_noWorthIsMore, Cond.instanceMethod yX9_noWorthIsMore, Cond.selects RX9 yX9_noWorthIsMore yX9_noWorthIsMore, Cond.code yX9_noWorthIsMore cX9_noWorthIsMore 4 (some .boolean), Cond.fieldLink RX9 173 "PolicyWorks$Row" "below" "LPolicyWorks$Whole;", Cond.fieldLink RX9 75 "PolicyWorks" "right" "LPolicyWorks$Whole;", Cond.methodLink RX9 181 yX9_findWorth, Cond.instanceMethod yX9_findWorth, Cond.selects RX9 yX9_findWorth yX9_findWorth, Cond.code yX9_findWorth cX9_findWorth 3 (some (.object "PolicyWorks$Row")), Cond.fieldLink RX9 54 "PolicyWorks" "worthKnown" "[Z", Cond.fieldLink RX9 58 "PolicyWorks" "trial" "[I", Cond.methodLink RX9 223 Lib.Math.min.name, Cond.fieldLink RX9 19 "PolicyWorks" "equations" "LPolicyWorks$Equations;", Cond.fieldLink RX9 50 "PolicyWorks" "worths" "[LPolicyWorks$Row;", Cond.methodLink RX9 136 yX2_findValues, Cond.instanceMethod yX2_findValues, Cond.selects RX2 yX2_findValues yX2_findValues, Cond.initialized RX2]
def wsX9_best_r9 : List Cond := [Cond.code yX2_findValues cX2_findValues 8 none, Cond.fieldLink RX2 25 "PolicyWorks$Model" "states" "I", Cond.fieldLink RX2 18 "PolicyWorks$Equations" "minors" "[LPolicyWorks$Whole;", Cond.fieldLink RX2 47 "PolicyWorks$Row" "below" "LPolicyWorks$Whole;", Cond.fieldLink RX2 57 "PolicyWorks$Row" "above" "[LPolicyWorks$Whole;", Cond.constantLong RX2 60 (-1), Cond.methodLink RX2 31 yX6_find, Cond.methodLink RX2 35 yX2_writeRow, Cond.instanceMethod yX2_writeRow, Cond.selects RX2 yX2_writeRow yX2_writeRow, Cond.code yX2_writeRow cX2_writeRow 6 none, Cond.fieldLink RX2 11 "PolicyWorks$Equations" "rows" "[[I", Cond.fieldLink RX2 65 "PolicyWorks$Action" "below" "I", Cond.fieldLink RX2 69 "PolicyWorks$Model" "discountAbove" "I", Cond.fieldLink RX2 72 "PolicyWorks$Action" "weights" "[I", Cond.fieldLink RX2 76 "PolicyWorks$Model" "discountBelow" "I", Cond.fieldLink RX2 79 "PolicyWorks$Action" "total" "I", Cond.fieldLink RX2 82 "PolicyWorks$Action" "above" "I", Cond.methodLink RX2 39 yX8_put, Cond.methodLink RX2 43 yX2_expand, Cond.instanceMethod yX2_expand, Cond.selects RX2 yX2_expand yX2_expand, Cond.code yX2_expand cX2_expand 7 none, Cond.methodLink RX2 84 yJ6_bitCount_0f7a4]
def wsX9_best_r10 : List Cond := [Cond.static yJ6_bitCount_0f7a4, Cond.initialized RJ6, Cond.code yJ6_bitCount_0f7a4 cJ6_bitCount_0f7a4 1 (some .int), Cond.constant RJ6 265 (1431655765), Cond.constant RJ6 266 (858993459), Cond.constant RJ6 267 (252645135), Cond.methodLink RX2 90 yX8_clear, Cond.methodLink RX2 93 yX8_add, Cond.methodLink RX2 97 yX8_settle, Cond.methodLink RX2 53 yX8_copy, Cond.methodLink RX2 62 yX8_multiply, Cond.methodLink RX9 242 yX8_product, Cond.instanceMethod yX8_product, Cond.selects RX8 yX8_product yX8_product, Cond.code yX8_product cX8_product 6 none, Cond.methodLink RX9 205 yX9_stepsKeepBounds, Cond.instanceMethod yX9_stepsKeepBounds, Cond.selects RX9 yX9_stepsKeepBounds yX9_stepsKeepBounds, Cond.code yX9_stepsKeepBounds cX9_stepsKeepBounds 3 (some .boolean), Cond.fieldLink RX9 189 "PolicyWorks$Ladder" "rows" "[LPolicyWorks$Row;", Cond.methodLink RX9 196 yX9_findBound, Cond.instanceMethod yX9_findBound, Cond.selects RX9 yX9_findBound yX9_findBound, Cond.code yX9_findBound cX9_findBound 4 none]
def wsX9_best_r11 : List Cond := [Cond.fieldLink RX9 64 "PolicyWorks" "told" "LPolicyWorks$Fraction;", Cond.fieldLink RX9 164 "PolicyWorks$Fraction" "above" "LPolicyWorks$Whole;", Cond.fieldLink RX9 123 "PolicyWorks$Model" "discountBelow" "I", Cond.fieldLink RX9 171 "PolicyWorks$Fraction" "below" "LPolicyWorks$Whole;", Cond.fieldLink RX9 120 "PolicyWorks$Model" "discountAbove" "I", Cond.methodLink RX9 229 yX8_clear, Cond.methodLink RX9 235 yX8_dropSign, Cond.instanceMethod yX8_dropSign, Cond.selects RX8 yX8_dropSign yX8_dropSign, Cond.code yX8_dropSign cX8_dropSign 2 none, Cond.methodLink RX9 246 yX9_isFartherThanTold, Cond.instanceMethod yX9_isFartherThanTold, Cond.selects RX9 yX9_isFartherThanTold yX9_isFartherThanTold, Cond.code yX9_isFartherThanTold cX9_isFartherThanTold 3 (some .boolean), Cond.constantLong RX9 214 (-1), Cond.fieldLink RX9 78 "PolicyWorks" "factor" "LPolicyWorks$Whole;", Cond.methodLink RX9 250 yX8_add, Cond.methodLink RX9 254 yX8_settle]
def wsX9_best : List Cond := .code yX9_best cX9_best 1 (some .boolean) :: ((wsX9_best_r1 ++ (wsX9_best_r2 ++ (wsX9_best_r3 ++ (wsX9_best_r4 ++ (wsX9_best_r5 ++ (wsX9_best_r6 ++ (wsX9_best_r7 ++ (wsX9_best_r8 ++ (wsX9_best_r9 ++ (wsX9_best_r10 ++ wsX9_best_r11)))))))))) ++ wsX90 ++ wsX50 ++ wsX70 ++ wsX80 ++ wsX60 ++ wsX00 ++ wsX10 ++ wsX40 ++ wsX20 ++ wsX30)
def wsX9_count : List Cond := .code yX9_count cX9_count 2 (some .int) :: ([.fieldLink RX9 10 "PolicyWorks" "model" "LPolicyWorks$Model;", .fieldLink RX9 85 "PolicyWorks$Model" "states" "I", .fieldLink RX9 81 "PolicyWorks" "rounds" "I", .methodLink RX9 208 yX6_countActions, .instanceMethod yX6_countActions, .selects RX6 yX6_countActions yX6_countActions, .initialized RX6, .code yX6_countActions cX6_countActions 5 (some .int), .fieldLink RX6 22 "PolicyWorks$Model" "states" "I", .fieldLink RX6 9 "PolicyWorks$Model" "actionCounts" "[I", .fieldLink RX6 40 "PolicyWorks$Action" "total" "I", .methodLink RX6 36 yX6_find, .instanceMethod yX6_find, .selects RX6 yX6_find yX6_find, .code yX6_find cX6_find 3 (some (.object "PolicyWorks$Action")), .fieldLink RX6 17 "PolicyWorks$Model" "actions" "[LPolicyWorks$Action;"] ++ wsX90 ++ wsX60 ++ wsX00)
def wsX10_init : List Cond := .code yX10_init cX10_init 1 none :: ([.methodLink RX10 1 objectInit, .instanceMethod objectInit, .code objectInit ⟨#[0xb1]⟩ 1 none, .arrayClass .int, .fieldLink RX10 7 "PolicyWorksModel" "actionCounts" "[I", .fieldLink RX10 13 "PolicyWorksModel" "ups" "[I", .fieldLink RX10 16 "PolicyWorksModel" "downs" "[I", .fieldLink RX10 19 "PolicyWorksModel" "weights" "[I", .fieldLink RX10 22 "PolicyWorksModel" "discountUp" "I", .fieldLink RX10 26 "PolicyWorksModel" "discountDown" "I", .fieldLink RX10 29 "PolicyWorksModel" "best" "[I", .fieldLink RX10 32 "PolicyWorksModel" "chosen" "[I", .fieldLink RX10 35 "PolicyWorksModel" "next" "[I", .fieldLink RX10 38 "PolicyWorksModel" "limbs" "[I", .fieldLink RX10 41 "PolicyWorksModel" "lengths" "[I", .fieldLink RX10 44 "PolicyWorksModel" "signs" "[I", .fieldLink RX10 47 "PolicyWorksModel" "primes" "[I", .fieldLink RX10 50 "PolicyWorksModel" "own" "[I", .fieldLink RX10 53 "PolicyWorksModel" "together" "[I"] ++ wsX100)
def wsX10_in : List Cond := .code yX10_in cX10_in 6 (some .boolean) :: ([])
def wsX10_setSmall : List Cond := .code yX10_setSmall cX10_setSmall 7 none :: ([.fieldLink RX10 44 "PolicyWorksModel" "signs" "[I", .fieldLink RX10 38 "PolicyWorksModel" "limbs" "[I", .constantLong RX10 59 (268435455), .fieldLink RX10 41 "PolicyWorksModel" "lengths" "[I"] ++ wsX100)
def wsX10_copy : List Cond := .code yX10_copy cX10_copy 4 none :: ([.fieldLink RX10 44 "PolicyWorksModel" "signs" "[I", .fieldLink RX10 41 "PolicyWorksModel" "lengths" "[I", .fieldLink RX10 38 "PolicyWorksModel" "limbs" "[I"] ++ wsX100)
def wsX10_compareSizes : List Cond := .code yX10_compareSizes cX10_compareSizes 4 (some .int) :: ([.fieldLink RX10 41 "PolicyWorksModel" "lengths" "[I", .fieldLink RX10 38 "PolicyWorksModel" "limbs" "[I"] ++ wsX100)
def wsX10_compare : List Cond := .code yX10_compare cX10_compare 3 (some .int) :: ([.fieldLink RX10 44 "PolicyWorksModel" "signs" "[I", .methodLink RX10 61 yX10_compareSizes, .instanceMethod yX10_compareSizes, .selects RX10 yX10_compareSizes yX10_compareSizes, .initialized RX10, .code yX10_compareSizes cX10_compareSizes 4 (some .int), .fieldLink RX10 41 "PolicyWorksModel" "lengths" "[I", .fieldLink RX10 38 "PolicyWorksModel" "limbs" "[I"] ++ wsX100)
def wsX10_trim : List Cond := .code yX10_trim cX10_trim 4 none :: ([.fieldLink RX10 38 "PolicyWorksModel" "limbs" "[I", .fieldLink RX10 41 "PolicyWorksModel" "lengths" "[I", .fieldLink RX10 44 "PolicyWorksModel" "signs" "[I"] ++ wsX100)
def wsX10_limb : List Cond := .code yX10_limb cX10_limb 3 (some .int) :: ([.fieldLink RX10 41 "PolicyWorksModel" "lengths" "[I", .fieldLink RX10 38 "PolicyWorksModel" "limbs" "[I"] ++ wsX100)
def wsX10_plus : List Cond := .code yX10_plus cX10_plus 10 none :: ([.fieldLink RX10 44 "PolicyWorksModel" "signs" "[I", .fieldLink RX10 41 "PolicyWorksModel" "lengths" "[I", .fieldLink RX10 38 "PolicyWorksModel" "limbs" "[I", .constant RX10 68 (268435455), .constant RX10 73 (268435456), .methodLink RX10 65 yX10_limb, .instanceMethod yX10_limb, .selects RX10 yX10_limb yX10_limb, .initialized RX10, .code yX10_limb cX10_limb 3 (some .int), .methodLink RX10 69 yX10_trim, .instanceMethod yX10_trim, .selects RX10 yX10_trim yX10_trim, .code yX10_trim cX10_trim 4 none, .methodLink RX10 61 yX10_compareSizes, .instanceMethod yX10_compareSizes, .selects RX10 yX10_compareSizes yX10_compareSizes, .code yX10_compareSizes cX10_compareSizes 4 (some .int)] ++ wsX100)
def wsX10_times : List Cond := .code yX10_times cX10_times 11 none :: ([.fieldLink RX10 41 "PolicyWorksModel" "lengths" "[I", .fieldLink RX10 38 "PolicyWorksModel" "limbs" "[I", .constantLong RX10 59 (268435455), .fieldLink RX10 44 "PolicyWorksModel" "signs" "[I", .methodLink RX10 69 yX10_trim, .instanceMethod yX10_trim, .selects RX10 yX10_trim yX10_trim, .initialized RX10, .code yX10_trim cX10_trim 4 none] ++ wsX100)
def wsX10_multiply : List Cond := .code yX10_multiply cX10_multiply 13 none :: ([.fieldLink RX10 41 "PolicyWorksModel" "lengths" "[I", .fieldLink RX10 38 "PolicyWorksModel" "limbs" "[I", .constantLong RX10 59 (268435455), .fieldLink RX10 44 "PolicyWorksModel" "signs" "[I", .methodLink RX10 69 yX10_trim, .instanceMethod yX10_trim, .selects RX10 yX10_trim yX10_trim, .initialized RX10, .code yX10_trim cX10_trim 4 none] ++ wsX100)
def wsX10_overSmall : List Cond := .code yX10_overSmall cX10_overSmall 8 (some .int) :: ([.fieldLink RX10 41 "PolicyWorksModel" "lengths" "[I", .constantLong RX10 74 (268435456), .fieldLink RX10 38 "PolicyWorksModel" "limbs" "[I", .methodLink RX10 69 yX10_trim, .instanceMethod yX10_trim, .selects RX10 yX10_trim yX10_trim, .initialized RX10, .code yX10_trim cX10_trim 4 none, .fieldLink RX10 44 "PolicyWorksModel" "signs" "[I"] ++ wsX100)
def wsX10_over_r1 : List Cond := [Cond.fieldLink RX10 44 "PolicyWorksModel" "signs" "[I", Cond.fieldLink RX10 41 "PolicyWorksModel" "lengths" "[I", Cond.fieldLink RX10 38 "PolicyWorksModel" "limbs" "[I", Cond.methodLink RX10 76 yX10_setSmall, Cond.instanceMethod yX10_setSmall, Cond.selects RX10 yX10_setSmall yX10_setSmall, Cond.initialized RX10, Cond.code yX10_setSmall cX10_setSmall 7 none, Cond.constantLong RX10 59 (268435455), Cond.methodLink RX10 80 yX10_times, Cond.instanceMethod yX10_times, Cond.selects RX10 yX10_times yX10_times, Cond.code yX10_times cX10_times 11 none, Cond.methodLink RX10 69 yX10_trim, Cond.instanceMethod yX10_trim, Cond.selects RX10 yX10_trim yX10_trim, Cond.code yX10_trim cX10_trim 4 none, Cond.methodLink RX10 61 yX10_compareSizes, Cond.instanceMethod yX10_compareSizes, Cond.selects RX10 yX10_compareSizes yX10_compareSizes, Cond.code yX10_compareSizes cX10_compareSizes 4 (some .int), Cond.methodLink RX10 83 yX10_plus, Cond.instanceMethod yX10_plus, Cond.selects RX10 yX10_plus yX10_plus]
def wsX10_over_r2 : List Cond := [Cond.code yX10_plus cX10_plus 10 none, Cond.constant RX10 68 (268435455), Cond.constant RX10 73 (268435456), Cond.methodLink RX10 65 yX10_limb, Cond.instanceMethod yX10_limb, Cond.selects RX10 yX10_limb yX10_limb, Cond.code yX10_limb cX10_limb 3 (some .int)]
def wsX10_over : List Cond := .code yX10_over cX10_over 9 none :: ((wsX10_over_r1 ++ wsX10_over_r2) ++ wsX100)
def wsX10_swapped : List Cond := .code yX10_swapped cX10_swapped 3 (some .int) :: ([.methodLink RX10 90 yX10_copy, .instanceMethod yX10_copy, .selects RX10 yX10_copy yX10_copy, .initialized RX10, .code yX10_copy cX10_copy 4 none, .fieldLink RX10 44 "PolicyWorksModel" "signs" "[I", .fieldLink RX10 41 "PolicyWorksModel" "lengths" "[I", .fieldLink RX10 38 "PolicyWorksModel" "limbs" "[I", .methodLink RX10 76 yX10_setSmall, .instanceMethod yX10_setSmall, .selects RX10 yX10_setSmall yX10_setSmall, .code yX10_setSmall cX10_setSmall 7 none, .constantLong RX10 59 (268435455)] ++ wsX100)
def wsX10_divisor_r1 : List Cond := [Cond.fieldLink RX10 44 "PolicyWorksModel" "signs" "[I", Cond.fieldLink RX10 38 "PolicyWorksModel" "limbs" "[I", Cond.methodLink RX10 87 yX10_overSmall, Cond.instanceMethod yX10_overSmall, Cond.selects RX10 yX10_overSmall yX10_overSmall, Cond.initialized RX10, Cond.code yX10_overSmall cX10_overSmall 8 (some .int), Cond.fieldLink RX10 41 "PolicyWorksModel" "lengths" "[I", Cond.constantLong RX10 74 (268435456), Cond.methodLink RX10 69 yX10_trim, Cond.instanceMethod yX10_trim, Cond.selects RX10 yX10_trim yX10_trim, Cond.code yX10_trim cX10_trim 4 none, Cond.methodLink RX10 61 yX10_compareSizes, Cond.instanceMethod yX10_compareSizes, Cond.selects RX10 yX10_compareSizes yX10_compareSizes, Cond.code yX10_compareSizes cX10_compareSizes 4 (some .int), Cond.methodLink RX10 83 yX10_plus, Cond.instanceMethod yX10_plus, Cond.selects RX10 yX10_plus yX10_plus, Cond.code yX10_plus cX10_plus 10 none, Cond.constant RX10 68 (268435455), Cond.constant RX10 73 (268435456), Cond.methodLink RX10 65 yX10_limb]
def wsX10_divisor_r2 : List Cond := [Cond.instanceMethod yX10_limb, Cond.selects RX10 yX10_limb yX10_limb, Cond.code yX10_limb cX10_limb 3 (some .int), Cond.methodLink RX10 90 yX10_copy, Cond.instanceMethod yX10_copy, Cond.selects RX10 yX10_copy yX10_copy, Cond.code yX10_copy cX10_copy 4 none, Cond.methodLink RX10 93 yX10_swapped, Cond.instanceMethod yX10_swapped, Cond.selects RX10 yX10_swapped yX10_swapped, Cond.code yX10_swapped cX10_swapped 3 (some .int), Cond.methodLink RX10 76 yX10_setSmall, Cond.instanceMethod yX10_setSmall, Cond.selects RX10 yX10_setSmall yX10_setSmall, Cond.code yX10_setSmall cX10_setSmall 7 none, Cond.constantLong RX10 59 (268435455), Cond.methodLink RX10 80 yX10_times, Cond.instanceMethod yX10_times, Cond.selects RX10 yX10_times yX10_times, Cond.code yX10_times cX10_times 11 none]
def wsX10_divisor : List Cond := .code yX10_divisor cX10_divisor 5 none :: ((wsX10_divisor_r1 ++ wsX10_divisor_r2) ++ wsX100)
def wsX10_change : List Cond := .code yX10_change cX10_change 1 none :: ([.fieldLink RX10 96 "PolicyWorksModel" "solved" "Z", .fieldLink RX10 100 "PolicyWorksModel" "rounds" "I"] ++ wsX100)
def wsX10_state : List Cond := .code yX10_state cX10_state 1 (some .int) :: ([.fieldLink RX10 56 "PolicyWorksModel" "thrown" "I", .fieldLink RX10 103 "PolicyWorksModel" "states" "I", .fieldLink RX10 7 "PolicyWorksModel" "actionCounts" "[I", .methodLink RX10 106 yX10_change, .instanceMethod yX10_change, .selects RX10 yX10_change yX10_change, .initialized RX10, .code yX10_change cX10_change 1 none, .fieldLink RX10 96 "PolicyWorksModel" "solved" "Z", .fieldLink RX10 100 "PolicyWorksModel" "rounds" "I"] ++ wsX100)
def wsX10_isState : List Cond := .code yX10_isState cX10_isState 2 (some .boolean) :: ([.fieldLink RX10 103 "PolicyWorksModel" "states" "I"] ++ wsX100)
def wsX10_isAction : List Cond := .code yX10_isAction cX10_isAction 3 (some .boolean) :: ([.fieldLink RX10 7 "PolicyWorksModel" "actionCounts" "[I", .methodLink RX10 109 yX10_isState, .instanceMethod yX10_isState, .selects RX10 yX10_isState yX10_isState, .initialized RX10, .code yX10_isState cX10_isState 2 (some .boolean), .fieldLink RX10 103 "PolicyWorksModel" "states" "I"] ++ wsX100)
def wsX10_action : List Cond := .code yX10_action cX10_action 4 (some .int) :: ([.fieldLink RX10 56 "PolicyWorksModel" "thrown" "I", .fieldLink RX10 7 "PolicyWorksModel" "actionCounts" "[I", .fieldLink RX10 13 "PolicyWorksModel" "ups" "[I", .fieldLink RX10 16 "PolicyWorksModel" "downs" "[I", .fieldLink RX10 19 "PolicyWorksModel" "weights" "[I", .methodLink RX10 109 yX10_isState, .instanceMethod yX10_isState, .selects RX10 yX10_isState yX10_isState, .initialized RX10, .code yX10_isState cX10_isState 2 (some .boolean), .fieldLink RX10 103 "PolicyWorksModel" "states" "I", .methodLink RX10 106 yX10_change, .instanceMethod yX10_change, .selects RX10 yX10_change yX10_change, .code yX10_change cX10_change 1 none, .fieldLink RX10 96 "PolicyWorksModel" "solved" "Z", .fieldLink RX10 100 "PolicyWorksModel" "rounds" "I"] ++ wsX100)
def wsX10_reward_r1 : List Cond := [Cond.fieldLink RX10 56 "PolicyWorksModel" "thrown" "I", Cond.constantLong RX10 117 (-1000), Cond.constantLong RX10 119 (1000), Cond.constantLong RX10 125 (20), Cond.fieldLink RX10 13 "PolicyWorksModel" "ups" "[I", Cond.fieldLink RX10 16 "PolicyWorksModel" "downs" "[I", Cond.methodLink RX10 113 yX10_isAction, Cond.instanceMethod yX10_isAction, Cond.selects RX10 yX10_isAction yX10_isAction, Cond.initialized RX10, Cond.code yX10_isAction cX10_isAction 3 (some .boolean), Cond.fieldLink RX10 7 "PolicyWorksModel" "actionCounts" "[I", Cond.methodLink RX10 109 yX10_isState, Cond.instanceMethod yX10_isState, Cond.selects RX10 yX10_isState yX10_isState, Cond.code yX10_isState cX10_isState 2 (some .boolean), Cond.fieldLink RX10 103 "PolicyWorksModel" "states" "I", Cond.methodLink RX10 121 yX10_in, Cond.static yX10_in, Cond.code yX10_in cX10_in 6 (some .boolean), Cond.methodLink RX10 106 yX10_change, Cond.instanceMethod yX10_change, Cond.selects RX10 yX10_change yX10_change, Cond.code yX10_change cX10_change 1 none]
def wsX10_reward_r2 : List Cond := [Cond.fieldLink RX10 96 "PolicyWorksModel" "solved" "Z", Cond.fieldLink RX10 100 "PolicyWorksModel" "rounds" "I"]
def wsX10_reward : List Cond := .code yX10_reward cX10_reward 5 (some .boolean) :: ((wsX10_reward_r1 ++ wsX10_reward_r2) ++ wsX100)
def wsX10_move : List Cond := .code yX10_move cX10_move 5 (some .boolean) :: ([.fieldLink RX10 56 "PolicyWorksModel" "thrown" "I", .constantLong RX10 125 (20), .fieldLink RX10 19 "PolicyWorksModel" "weights" "[I", .methodLink RX10 113 yX10_isAction, .instanceMethod yX10_isAction, .selects RX10 yX10_isAction yX10_isAction, .initialized RX10, .code yX10_isAction cX10_isAction 3 (some .boolean), .fieldLink RX10 7 "PolicyWorksModel" "actionCounts" "[I", .methodLink RX10 109 yX10_isState, .instanceMethod yX10_isState, .selects RX10 yX10_isState yX10_isState, .code yX10_isState cX10_isState 2 (some .boolean), .fieldLink RX10 103 "PolicyWorksModel" "states" "I", .methodLink RX10 121 yX10_in, .static yX10_in, .code yX10_in cX10_in 6 (some .boolean), .methodLink RX10 106 yX10_change, .instanceMethod yX10_change, .selects RX10 yX10_change yX10_change, .code yX10_change cX10_change 1 none, .fieldLink RX10 96 "PolicyWorksModel" "solved" "Z", .fieldLink RX10 100 "PolicyWorksModel" "rounds" "I"] ++ wsX100)
def wsX10_discount : List Cond := .code yX10_discount cX10_discount 3 (some .boolean) :: ([.fieldLink RX10 56 "PolicyWorksModel" "thrown" "I", .fieldLink RX10 22 "PolicyWorksModel" "discountUp" "I", .fieldLink RX10 26 "PolicyWorksModel" "discountDown" "I", .methodLink RX10 106 yX10_change, .instanceMethod yX10_change, .selects RX10 yX10_change yX10_change, .initialized RX10, .code yX10_change cX10_change 1 none, .fieldLink RX10 96 "PolicyWorksModel" "solved" "Z", .fieldLink RX10 100 "PolicyWorksModel" "rounds" "I"] ++ wsX100)
def wsX10_sumOf : List Cond := .code yX10_sumOf cX10_sumOf 4 (some .int) :: ([.fieldLink RX10 19 "PolicyWorksModel" "weights" "[I"] ++ wsX100)
def wsX10_readyCount : List Cond := .code yX10_readyCount cX10_readyCount 4 (some .int) :: ([.fieldLink RX10 103 "PolicyWorksModel" "states" "I", .fieldLink RX10 7 "PolicyWorksModel" "actionCounts" "[I", .methodLink RX10 127 yX10_sumOf, .instanceMethod yX10_sumOf, .selects RX10 yX10_sumOf yX10_sumOf, .initialized RX10, .code yX10_sumOf cX10_sumOf 4 (some .int), .fieldLink RX10 19 "PolicyWorksModel" "weights" "[I"] ++ wsX100)
def wsX10_allActions : List Cond := .code yX10_allActions cX10_allActions 3 (some .int) :: ([.fieldLink RX10 103 "PolicyWorksModel" "states" "I", .fieldLink RX10 7 "PolicyWorksModel" "actionCounts" "[I"] ++ wsX100)
def wsX10_isReady : List Cond := .code yX10_isReady cX10_isReady 3 (some .boolean) :: ([.fieldLink RX10 103 "PolicyWorksModel" "states" "I", .fieldLink RX10 7 "PolicyWorksModel" "actionCounts" "[I", .methodLink RX10 131 yX10_readyCount, .instanceMethod yX10_readyCount, .selects RX10 yX10_readyCount yX10_readyCount, .initialized RX10, .code yX10_readyCount cX10_readyCount 4 (some .int), .methodLink RX10 127 yX10_sumOf, .instanceMethod yX10_sumOf, .selects RX10 yX10_sumOf yX10_sumOf, .code yX10_sumOf cX10_sumOf 4 (some .int), .fieldLink RX10 19 "PolicyWorksModel" "weights" "[I", .methodLink RX10 135 yX10_allActions, .instanceMethod yX10_allActions, .selects RX10 yX10_allActions yX10_allActions, .code yX10_allActions cX10_allActions 3 (some .int)] ++ wsX100)
def wsX10_dividing : List Cond := .code yX10_dividing cX10_dividing 5 (some .int) :: ([])
def wsX10_putRight_r1 : List Cond := [Cond.methodLink RX10 147 yX10_multiply, Cond.instanceMethod yX10_multiply, Cond.selects RX10 yX10_multiply yX10_multiply, Cond.initialized RX10, Cond.code yX10_multiply cX10_multiply 13 none, Cond.fieldLink RX10 41 "PolicyWorksModel" "lengths" "[I", Cond.fieldLink RX10 38 "PolicyWorksModel" "limbs" "[I", Cond.constantLong RX10 59 (268435455), Cond.fieldLink RX10 44 "PolicyWorksModel" "signs" "[I", Cond.methodLink RX10 69 yX10_trim, Cond.instanceMethod yX10_trim, Cond.selects RX10 yX10_trim yX10_trim, Cond.code yX10_trim cX10_trim 4 none, Cond.methodLink RX10 83 yX10_plus, Cond.instanceMethod yX10_plus, Cond.selects RX10 yX10_plus yX10_plus, Cond.code yX10_plus cX10_plus 10 none, Cond.constant RX10 68 (268435455), Cond.constant RX10 73 (268435456), Cond.methodLink RX10 65 yX10_limb, Cond.instanceMethod yX10_limb, Cond.selects RX10 yX10_limb yX10_limb, Cond.code yX10_limb cX10_limb 3 (some .int), Cond.methodLink RX10 61 yX10_compareSizes]
def wsX10_putRight_r2 : List Cond := [Cond.instanceMethod yX10_compareSizes, Cond.selects RX10 yX10_compareSizes yX10_compareSizes, Cond.code yX10_compareSizes cX10_compareSizes 4 (some .int), Cond.methodLink RX10 150 yX10_over, Cond.instanceMethod yX10_over, Cond.selects RX10 yX10_over yX10_over, Cond.code yX10_over cX10_over 9 none, Cond.methodLink RX10 76 yX10_setSmall, Cond.instanceMethod yX10_setSmall, Cond.selects RX10 yX10_setSmall yX10_setSmall, Cond.code yX10_setSmall cX10_setSmall 7 none, Cond.methodLink RX10 80 yX10_times, Cond.instanceMethod yX10_times, Cond.selects RX10 yX10_times yX10_times, Cond.code yX10_times cX10_times 11 none, Cond.methodLink RX10 90 yX10_copy, Cond.instanceMethod yX10_copy, Cond.selects RX10 yX10_copy yX10_copy, Cond.code yX10_copy cX10_copy 4 none]
def wsX10_putRight : List Cond := .code yX10_putRight cX10_putRight 4 none :: ((wsX10_putRight_r1 ++ wsX10_putRight_r2) ++ wsX100)
def wsX10_valuePolicy_r1 : List Cond := [Cond.fieldLink RX10 138 "PolicyWorksModel" "common" "I", Cond.fieldLink RX10 103 "PolicyWorksModel" "states" "I", Cond.fieldLink RX10 16 "PolicyWorksModel" "downs" "[I", Cond.fieldLink RX10 32 "PolicyWorksModel" "chosen" "[I", Cond.fieldLink RX10 26 "PolicyWorksModel" "discountDown" "I", Cond.fieldLink RX10 22 "PolicyWorksModel" "discountUp" "I", Cond.fieldLink RX10 19 "PolicyWorksModel" "weights" "[I", Cond.fieldLink RX10 13 "PolicyWorksModel" "ups" "[I", Cond.methodLink RX10 141 yX10_dividing, Cond.static yX10_dividing, Cond.initialized RX10, Cond.code yX10_dividing cX10_dividing 5 (some .int), Cond.methodLink RX10 127 yX10_sumOf, Cond.instanceMethod yX10_sumOf, Cond.selects RX10 yX10_sumOf yX10_sumOf, Cond.code yX10_sumOf cX10_sumOf 4 (some .int), Cond.methodLink RX10 76 yX10_setSmall, Cond.instanceMethod yX10_setSmall, Cond.selects RX10 yX10_setSmall yX10_setSmall, Cond.code yX10_setSmall cX10_setSmall 7 none, Cond.fieldLink RX10 44 "PolicyWorksModel" "signs" "[I", Cond.fieldLink RX10 38 "PolicyWorksModel" "limbs" "[I", Cond.constantLong RX10 59 (268435455), Cond.fieldLink RX10 41 "PolicyWorksModel" "lengths" "[I"]
def wsX10_valuePolicy_r2 : List Cond := [Cond.methodLink RX10 80 yX10_times, Cond.instanceMethod yX10_times, Cond.selects RX10 yX10_times yX10_times, Cond.code yX10_times cX10_times 11 none, Cond.methodLink RX10 69 yX10_trim, Cond.instanceMethod yX10_trim, Cond.selects RX10 yX10_trim yX10_trim, Cond.code yX10_trim cX10_trim 4 none, Cond.methodLink RX10 144 yX10_putRight, Cond.instanceMethod yX10_putRight, Cond.selects RX10 yX10_putRight yX10_putRight, Cond.code yX10_putRight cX10_putRight 4 none, Cond.methodLink RX10 147 yX10_multiply, Cond.instanceMethod yX10_multiply, Cond.selects RX10 yX10_multiply yX10_multiply, Cond.code yX10_multiply cX10_multiply 13 none, Cond.methodLink RX10 83 yX10_plus, Cond.instanceMethod yX10_plus, Cond.selects RX10 yX10_plus yX10_plus, Cond.code yX10_plus cX10_plus 10 none, Cond.constant RX10 68 (268435455), Cond.constant RX10 73 (268435456), Cond.methodLink RX10 65 yX10_limb, Cond.instanceMethod yX10_limb]
def wsX10_valuePolicy_r3 : List Cond := [Cond.selects RX10 yX10_limb yX10_limb, Cond.code yX10_limb cX10_limb 3 (some .int), Cond.methodLink RX10 61 yX10_compareSizes, Cond.instanceMethod yX10_compareSizes, Cond.selects RX10 yX10_compareSizes yX10_compareSizes, Cond.code yX10_compareSizes cX10_compareSizes 4 (some .int), Cond.methodLink RX10 150 yX10_over, Cond.instanceMethod yX10_over, Cond.selects RX10 yX10_over yX10_over, Cond.code yX10_over cX10_over 9 none, Cond.methodLink RX10 90 yX10_copy, Cond.instanceMethod yX10_copy, Cond.selects RX10 yX10_copy yX10_copy, Cond.code yX10_copy cX10_copy 4 none]
def wsX10_valuePolicy : List Cond := .code yX10_valuePolicy cX10_valuePolicy 6 none :: ((wsX10_valuePolicy_r1 ++ (wsX10_valuePolicy_r2 ++ wsX10_valuePolicy_r3)) ++ wsX100)
def wsX10_gainInto_r1 : List Cond := [Cond.fieldLink RX10 103 "PolicyWorksModel" "states" "I", Cond.fieldLink RX10 19 "PolicyWorksModel" "weights" "[I", Cond.fieldLink RX10 22 "PolicyWorksModel" "discountUp" "I", Cond.fieldLink RX10 16 "PolicyWorksModel" "downs" "[I", Cond.fieldLink RX10 26 "PolicyWorksModel" "discountDown" "I", Cond.fieldLink RX10 13 "PolicyWorksModel" "ups" "[I", Cond.methodLink RX10 76 yX10_setSmall, Cond.instanceMethod yX10_setSmall, Cond.selects RX10 yX10_setSmall yX10_setSmall, Cond.initialized RX10, Cond.code yX10_setSmall cX10_setSmall 7 none, Cond.fieldLink RX10 44 "PolicyWorksModel" "signs" "[I", Cond.fieldLink RX10 38 "PolicyWorksModel" "limbs" "[I", Cond.constantLong RX10 59 (268435455), Cond.fieldLink RX10 41 "PolicyWorksModel" "lengths" "[I", Cond.methodLink RX10 90 yX10_copy, Cond.instanceMethod yX10_copy, Cond.selects RX10 yX10_copy yX10_copy, Cond.code yX10_copy cX10_copy 4 none, Cond.methodLink RX10 80 yX10_times, Cond.instanceMethod yX10_times, Cond.selects RX10 yX10_times yX10_times, Cond.code yX10_times cX10_times 11 none, Cond.methodLink RX10 69 yX10_trim]
def wsX10_gainInto_r2 : List Cond := [Cond.instanceMethod yX10_trim, Cond.selects RX10 yX10_trim yX10_trim, Cond.code yX10_trim cX10_trim 4 none, Cond.methodLink RX10 83 yX10_plus, Cond.instanceMethod yX10_plus, Cond.selects RX10 yX10_plus yX10_plus, Cond.code yX10_plus cX10_plus 10 none, Cond.constant RX10 68 (268435455), Cond.constant RX10 73 (268435456), Cond.methodLink RX10 65 yX10_limb, Cond.instanceMethod yX10_limb, Cond.selects RX10 yX10_limb yX10_limb, Cond.code yX10_limb cX10_limb 3 (some .int), Cond.methodLink RX10 61 yX10_compareSizes, Cond.instanceMethod yX10_compareSizes, Cond.selects RX10 yX10_compareSizes yX10_compareSizes, Cond.code yX10_compareSizes cX10_compareSizes 4 (some .int), Cond.methodLink RX10 127 yX10_sumOf, Cond.instanceMethod yX10_sumOf, Cond.selects RX10 yX10_sumOf yX10_sumOf, Cond.code yX10_sumOf cX10_sumOf 4 (some .int)]
def wsX10_gainInto : List Cond := .code yX10_gainInto cX10_gainInto 6 none :: ((wsX10_gainInto_r1 ++ wsX10_gainInto_r2) ++ wsX100)
def wsX10_compareGains_r1 : List Cond := [Cond.fieldLink RX10 16 "PolicyWorksModel" "downs" "[I", Cond.methodLink RX10 153 yX10_gainInto, Cond.instanceMethod yX10_gainInto, Cond.selects RX10 yX10_gainInto yX10_gainInto, Cond.initialized RX10, Cond.code yX10_gainInto cX10_gainInto 6 none, Cond.fieldLink RX10 103 "PolicyWorksModel" "states" "I", Cond.fieldLink RX10 19 "PolicyWorksModel" "weights" "[I", Cond.fieldLink RX10 22 "PolicyWorksModel" "discountUp" "I", Cond.fieldLink RX10 26 "PolicyWorksModel" "discountDown" "I", Cond.fieldLink RX10 13 "PolicyWorksModel" "ups" "[I", Cond.methodLink RX10 76 yX10_setSmall, Cond.instanceMethod yX10_setSmall, Cond.selects RX10 yX10_setSmall yX10_setSmall, Cond.code yX10_setSmall cX10_setSmall 7 none, Cond.fieldLink RX10 44 "PolicyWorksModel" "signs" "[I", Cond.fieldLink RX10 38 "PolicyWorksModel" "limbs" "[I", Cond.constantLong RX10 59 (268435455), Cond.fieldLink RX10 41 "PolicyWorksModel" "lengths" "[I", Cond.methodLink RX10 90 yX10_copy, Cond.instanceMethod yX10_copy, Cond.selects RX10 yX10_copy yX10_copy, Cond.code yX10_copy cX10_copy 4 none, Cond.methodLink RX10 80 yX10_times]
def wsX10_compareGains_r2 : List Cond := [Cond.instanceMethod yX10_times, Cond.selects RX10 yX10_times yX10_times, Cond.code yX10_times cX10_times 11 none, Cond.methodLink RX10 69 yX10_trim, Cond.instanceMethod yX10_trim, Cond.selects RX10 yX10_trim yX10_trim, Cond.code yX10_trim cX10_trim 4 none, Cond.methodLink RX10 83 yX10_plus, Cond.instanceMethod yX10_plus, Cond.selects RX10 yX10_plus yX10_plus, Cond.code yX10_plus cX10_plus 10 none, Cond.constant RX10 68 (268435455), Cond.constant RX10 73 (268435456), Cond.methodLink RX10 65 yX10_limb, Cond.instanceMethod yX10_limb, Cond.selects RX10 yX10_limb yX10_limb, Cond.code yX10_limb cX10_limb 3 (some .int), Cond.methodLink RX10 61 yX10_compareSizes, Cond.instanceMethod yX10_compareSizes, Cond.selects RX10 yX10_compareSizes yX10_compareSizes, Cond.code yX10_compareSizes cX10_compareSizes 4 (some .int), Cond.methodLink RX10 127 yX10_sumOf, Cond.instanceMethod yX10_sumOf, Cond.selects RX10 yX10_sumOf yX10_sumOf]
def wsX10_compareGains_r3 : List Cond := [Cond.code yX10_sumOf cX10_sumOf 4 (some .int), Cond.methodLink RX10 157 yX10_compare, Cond.instanceMethod yX10_compare, Cond.selects RX10 yX10_compare yX10_compare, Cond.code yX10_compare cX10_compare 3 (some .int)]
def wsX10_compareGains : List Cond := .code yX10_compareGains cX10_compareGains 5 (some .int) :: ((wsX10_compareGains_r1 ++ (wsX10_compareGains_r2 ++ wsX10_compareGains_r3)) ++ wsX100)
def wsX10_greatest_r1 : List Cond := [Cond.fieldLink RX10 7 "PolicyWorksModel" "actionCounts" "[I", Cond.methodLink RX10 160 yX10_compareGains, Cond.instanceMethod yX10_compareGains, Cond.selects RX10 yX10_compareGains yX10_compareGains, Cond.initialized RX10, Cond.code yX10_compareGains cX10_compareGains 5 (some .int), Cond.fieldLink RX10 16 "PolicyWorksModel" "downs" "[I", Cond.methodLink RX10 153 yX10_gainInto, Cond.instanceMethod yX10_gainInto, Cond.selects RX10 yX10_gainInto yX10_gainInto, Cond.code yX10_gainInto cX10_gainInto 6 none, Cond.fieldLink RX10 103 "PolicyWorksModel" "states" "I", Cond.fieldLink RX10 19 "PolicyWorksModel" "weights" "[I", Cond.fieldLink RX10 22 "PolicyWorksModel" "discountUp" "I", Cond.fieldLink RX10 26 "PolicyWorksModel" "discountDown" "I", Cond.fieldLink RX10 13 "PolicyWorksModel" "ups" "[I", Cond.methodLink RX10 76 yX10_setSmall, Cond.instanceMethod yX10_setSmall, Cond.selects RX10 yX10_setSmall yX10_setSmall, Cond.code yX10_setSmall cX10_setSmall 7 none, Cond.fieldLink RX10 44 "PolicyWorksModel" "signs" "[I", Cond.fieldLink RX10 38 "PolicyWorksModel" "limbs" "[I", Cond.constantLong RX10 59 (268435455), Cond.fieldLink RX10 41 "PolicyWorksModel" "lengths" "[I"]
def wsX10_greatest_r2 : List Cond := [Cond.methodLink RX10 90 yX10_copy, Cond.instanceMethod yX10_copy, Cond.selects RX10 yX10_copy yX10_copy, Cond.code yX10_copy cX10_copy 4 none, Cond.methodLink RX10 80 yX10_times, Cond.instanceMethod yX10_times, Cond.selects RX10 yX10_times yX10_times, Cond.code yX10_times cX10_times 11 none, Cond.methodLink RX10 69 yX10_trim, Cond.instanceMethod yX10_trim, Cond.selects RX10 yX10_trim yX10_trim, Cond.code yX10_trim cX10_trim 4 none, Cond.methodLink RX10 83 yX10_plus, Cond.instanceMethod yX10_plus, Cond.selects RX10 yX10_plus yX10_plus, Cond.code yX10_plus cX10_plus 10 none, Cond.constant RX10 68 (268435455), Cond.constant RX10 73 (268435456), Cond.methodLink RX10 65 yX10_limb, Cond.instanceMethod yX10_limb, Cond.selects RX10 yX10_limb yX10_limb, Cond.code yX10_limb cX10_limb 3 (some .int), Cond.methodLink RX10 61 yX10_compareSizes, Cond.instanceMethod yX10_compareSizes]
def wsX10_greatest_r3 : List Cond := [Cond.selects RX10 yX10_compareSizes yX10_compareSizes, Cond.code yX10_compareSizes cX10_compareSizes 4 (some .int), Cond.methodLink RX10 127 yX10_sumOf, Cond.instanceMethod yX10_sumOf, Cond.selects RX10 yX10_sumOf yX10_sumOf, Cond.code yX10_sumOf cX10_sumOf 4 (some .int), Cond.methodLink RX10 157 yX10_compare, Cond.instanceMethod yX10_compare, Cond.selects RX10 yX10_compare yX10_compare, Cond.code yX10_compare cX10_compare 3 (some .int)]
def wsX10_greatest : List Cond := .code yX10_greatest cX10_greatest 6 (some .int) :: ((wsX10_greatest_r1 ++ (wsX10_greatest_r2 ++ wsX10_greatest_r3)) ++ wsX100)
def wsX10_belowInto : List Cond := .code yX10_belowInto cX10_belowInto 2 none :: ([.fieldLink RX10 138 "PolicyWorksModel" "common" "I", .methodLink RX10 90 yX10_copy, .instanceMethod yX10_copy, .selects RX10 yX10_copy yX10_copy, .initialized RX10, .code yX10_copy cX10_copy 4 none, .fieldLink RX10 44 "PolicyWorksModel" "signs" "[I", .fieldLink RX10 41 "PolicyWorksModel" "lengths" "[I", .fieldLink RX10 38 "PolicyWorksModel" "limbs" "[I", .methodLink RX10 80 yX10_times, .instanceMethod yX10_times, .selects RX10 yX10_times yX10_times, .code yX10_times cX10_times 11 none, .constantLong RX10 59 (268435455), .methodLink RX10 69 yX10_trim, .instanceMethod yX10_trim, .selects RX10 yX10_trim yX10_trim, .code yX10_trim cX10_trim 4 none] ++ wsX100)
def wsX10_solve_r1 : List Cond := [Cond.fieldLink RX10 56 "PolicyWorksModel" "thrown" "I", Cond.fieldLink RX10 103 "PolicyWorksModel" "states" "I", Cond.fieldLink RX10 32 "PolicyWorksModel" "chosen" "[I", Cond.fieldLink RX10 100 "PolicyWorksModel" "rounds" "I", Cond.fieldLink RX10 35 "PolicyWorksModel" "next" "[I", Cond.fieldLink RX10 29 "PolicyWorksModel" "best" "[I", Cond.fieldLink RX10 96 "PolicyWorksModel" "solved" "Z", Cond.methodLink RX10 164 yX10_isReady, Cond.instanceMethod yX10_isReady, Cond.selects RX10 yX10_isReady yX10_isReady, Cond.initialized RX10, Cond.code yX10_isReady cX10_isReady 3 (some .boolean), Cond.fieldLink RX10 7 "PolicyWorksModel" "actionCounts" "[I", Cond.methodLink RX10 131 yX10_readyCount, Cond.instanceMethod yX10_readyCount, Cond.selects RX10 yX10_readyCount yX10_readyCount, Cond.code yX10_readyCount cX10_readyCount 4 (some .int), Cond.methodLink RX10 127 yX10_sumOf, Cond.instanceMethod yX10_sumOf, Cond.selects RX10 yX10_sumOf yX10_sumOf, Cond.code yX10_sumOf cX10_sumOf 4 (some .int), Cond.fieldLink RX10 19 "PolicyWorksModel" "weights" "[I", Cond.methodLink RX10 135 yX10_allActions, Cond.instanceMethod yX10_allActions]
def wsX10_solve_r2 : List Cond := [Cond.selects RX10 yX10_allActions yX10_allActions, Cond.code yX10_allActions cX10_allActions 3 (some .int), Cond.methodLink RX10 168 yX10_valuePolicy, Cond.instanceMethod yX10_valuePolicy, Cond.selects RX10 yX10_valuePolicy yX10_valuePolicy, Cond.code yX10_valuePolicy cX10_valuePolicy 6 none, Cond.fieldLink RX10 138 "PolicyWorksModel" "common" "I", Cond.fieldLink RX10 16 "PolicyWorksModel" "downs" "[I", Cond.fieldLink RX10 26 "PolicyWorksModel" "discountDown" "I", Cond.fieldLink RX10 22 "PolicyWorksModel" "discountUp" "I", Cond.fieldLink RX10 13 "PolicyWorksModel" "ups" "[I", Cond.methodLink RX10 141 yX10_dividing, Cond.static yX10_dividing, Cond.code yX10_dividing cX10_dividing 5 (some .int), Cond.methodLink RX10 76 yX10_setSmall, Cond.instanceMethod yX10_setSmall, Cond.selects RX10 yX10_setSmall yX10_setSmall, Cond.code yX10_setSmall cX10_setSmall 7 none, Cond.fieldLink RX10 44 "PolicyWorksModel" "signs" "[I", Cond.fieldLink RX10 38 "PolicyWorksModel" "limbs" "[I", Cond.constantLong RX10 59 (268435455), Cond.fieldLink RX10 41 "PolicyWorksModel" "lengths" "[I", Cond.methodLink RX10 80 yX10_times, Cond.instanceMethod yX10_times]
def wsX10_solve_r3 : List Cond := [Cond.selects RX10 yX10_times yX10_times, Cond.code yX10_times cX10_times 11 none, Cond.methodLink RX10 69 yX10_trim, Cond.instanceMethod yX10_trim, Cond.selects RX10 yX10_trim yX10_trim, Cond.code yX10_trim cX10_trim 4 none, Cond.methodLink RX10 144 yX10_putRight, Cond.instanceMethod yX10_putRight, Cond.selects RX10 yX10_putRight yX10_putRight, Cond.code yX10_putRight cX10_putRight 4 none, Cond.methodLink RX10 147 yX10_multiply, Cond.instanceMethod yX10_multiply, Cond.selects RX10 yX10_multiply yX10_multiply, Cond.code yX10_multiply cX10_multiply 13 none, Cond.methodLink RX10 83 yX10_plus, Cond.instanceMethod yX10_plus, Cond.selects RX10 yX10_plus yX10_plus, Cond.code yX10_plus cX10_plus 10 none, Cond.constant RX10 68 (268435455), Cond.constant RX10 73 (268435456), Cond.methodLink RX10 65 yX10_limb, Cond.instanceMethod yX10_limb, Cond.selects RX10 yX10_limb yX10_limb, Cond.code yX10_limb cX10_limb 3 (some .int)]
def wsX10_solve_r4 : List Cond := [Cond.methodLink RX10 61 yX10_compareSizes, Cond.instanceMethod yX10_compareSizes, Cond.selects RX10 yX10_compareSizes yX10_compareSizes, Cond.code yX10_compareSizes cX10_compareSizes 4 (some .int), Cond.methodLink RX10 150 yX10_over, Cond.instanceMethod yX10_over, Cond.selects RX10 yX10_over yX10_over, Cond.code yX10_over cX10_over 9 none, Cond.methodLink RX10 90 yX10_copy, Cond.instanceMethod yX10_copy, Cond.selects RX10 yX10_copy yX10_copy, Cond.code yX10_copy cX10_copy 4 none, Cond.methodLink RX10 171 yX10_belowInto, Cond.instanceMethod yX10_belowInto, Cond.selects RX10 yX10_belowInto yX10_belowInto, Cond.code yX10_belowInto cX10_belowInto 2 none, Cond.methodLink RX10 175 yX10_greatest, Cond.instanceMethod yX10_greatest, Cond.selects RX10 yX10_greatest yX10_greatest, Cond.code yX10_greatest cX10_greatest 6 (some .int), Cond.methodLink RX10 160 yX10_compareGains, Cond.instanceMethod yX10_compareGains, Cond.selects RX10 yX10_compareGains yX10_compareGains, Cond.code yX10_compareGains cX10_compareGains 5 (some .int)]
def wsX10_solve_r5 : List Cond := [Cond.methodLink RX10 153 yX10_gainInto, Cond.instanceMethod yX10_gainInto, Cond.selects RX10 yX10_gainInto yX10_gainInto, Cond.code yX10_gainInto cX10_gainInto 6 none, Cond.methodLink RX10 157 yX10_compare, Cond.instanceMethod yX10_compare, Cond.selects RX10 yX10_compare yX10_compare, Cond.code yX10_compare cX10_compare 3 (some .int)]
def wsX10_solve : List Cond := .code yX10_solve cX10_solve 5 (some .int) :: ((wsX10_solve_r1 ++ (wsX10_solve_r2 ++ (wsX10_solve_r3 ++ (wsX10_solve_r4 ++ wsX10_solve_r5)))) ++ wsX100)
def wsX10_policy : List Cond := .code yX10_policy cX10_policy 2 (some .int) :: ([.fieldLink RX10 56 "PolicyWorksModel" "thrown" "I", .fieldLink RX10 96 "PolicyWorksModel" "solved" "Z", .fieldLink RX10 29 "PolicyWorksModel" "best" "[I", .methodLink RX10 109 yX10_isState, .instanceMethod yX10_isState, .selects RX10 yX10_isState yX10_isState, .initialized RX10, .code yX10_isState cX10_isState 2 (some .boolean), .fieldLink RX10 103 "PolicyWorksModel" "states" "I"] ++ wsX100)
def wsX10_none : List Cond := .code yX10_none cX10_none 1 (some .int) :: ([])
def wsX10_tell_r1 : List Cond := [Cond.constantLong RX10 179 (-1), Cond.fieldLink RX10 44 "PolicyWorksModel" "signs" "[I", Cond.fieldLink RX10 41 "PolicyWorksModel" "lengths" "[I", Cond.constant RX10 184 (1000000000), Cond.constantLong RX10 185 (1000000000), Cond.methodLink RX10 90 yX10_copy, Cond.instanceMethod yX10_copy, Cond.selects RX10 yX10_copy yX10_copy, Cond.initialized RX10, Cond.code yX10_copy cX10_copy 4 none, Cond.fieldLink RX10 38 "PolicyWorksModel" "limbs" "[I", Cond.methodLink RX10 181 yX10_divisor, Cond.instanceMethod yX10_divisor, Cond.selects RX10 yX10_divisor yX10_divisor, Cond.code yX10_divisor cX10_divisor 5 none, Cond.methodLink RX10 87 yX10_overSmall, Cond.instanceMethod yX10_overSmall, Cond.selects RX10 yX10_overSmall yX10_overSmall, Cond.code yX10_overSmall cX10_overSmall 8 (some .int), Cond.constantLong RX10 74 (268435456), Cond.methodLink RX10 69 yX10_trim, Cond.instanceMethod yX10_trim, Cond.selects RX10 yX10_trim yX10_trim, Cond.code yX10_trim cX10_trim 4 none]
def wsX10_tell_r2 : List Cond := [Cond.methodLink RX10 61 yX10_compareSizes, Cond.instanceMethod yX10_compareSizes, Cond.selects RX10 yX10_compareSizes yX10_compareSizes, Cond.code yX10_compareSizes cX10_compareSizes 4 (some .int), Cond.methodLink RX10 83 yX10_plus, Cond.instanceMethod yX10_plus, Cond.selects RX10 yX10_plus yX10_plus, Cond.code yX10_plus cX10_plus 10 none, Cond.constant RX10 68 (268435455), Cond.constant RX10 73 (268435456), Cond.methodLink RX10 65 yX10_limb, Cond.instanceMethod yX10_limb, Cond.selects RX10 yX10_limb yX10_limb, Cond.code yX10_limb cX10_limb 3 (some .int), Cond.methodLink RX10 93 yX10_swapped, Cond.instanceMethod yX10_swapped, Cond.selects RX10 yX10_swapped yX10_swapped, Cond.code yX10_swapped cX10_swapped 3 (some .int), Cond.methodLink RX10 76 yX10_setSmall, Cond.instanceMethod yX10_setSmall, Cond.selects RX10 yX10_setSmall yX10_setSmall, Cond.code yX10_setSmall cX10_setSmall 7 none, Cond.constantLong RX10 59 (268435455), Cond.methodLink RX10 80 yX10_times]
def wsX10_tell_r3 : List Cond := [Cond.instanceMethod yX10_times, Cond.selects RX10 yX10_times yX10_times, Cond.code yX10_times cX10_times 11 none, Cond.methodLink RX10 150 yX10_over, Cond.instanceMethod yX10_over, Cond.selects RX10 yX10_over yX10_over, Cond.code yX10_over cX10_over 9 none]
def wsX10_tell : List Cond := .code yX10_tell cX10_tell 7 (some .long) :: ((wsX10_tell_r1 ++ (wsX10_tell_r2 ++ wsX10_tell_r3)) ++ wsX100)
def wsX10_value_r1 : List Cond := [Cond.fieldLink RX10 56 "PolicyWorksModel" "thrown" "I", Cond.fieldLink RX10 96 "PolicyWorksModel" "solved" "Z", Cond.methodLink RX10 109 yX10_isState, Cond.instanceMethod yX10_isState, Cond.selects RX10 yX10_isState yX10_isState, Cond.initialized RX10, Cond.code yX10_isState cX10_isState 2 (some .boolean), Cond.fieldLink RX10 103 "PolicyWorksModel" "states" "I", Cond.methodLink RX10 187 yX10_none, Cond.static yX10_none, Cond.code yX10_none cX10_none 1 (some .int), Cond.methodLink RX10 90 yX10_copy, Cond.instanceMethod yX10_copy, Cond.selects RX10 yX10_copy yX10_copy, Cond.code yX10_copy cX10_copy 4 none, Cond.fieldLink RX10 44 "PolicyWorksModel" "signs" "[I", Cond.fieldLink RX10 41 "PolicyWorksModel" "lengths" "[I", Cond.fieldLink RX10 38 "PolicyWorksModel" "limbs" "[I", Cond.methodLink RX10 190 yX10_tell, Cond.instanceMethod yX10_tell, Cond.selects RX10 yX10_tell yX10_tell, Cond.code yX10_tell cX10_tell 7 (some .long), Cond.constantLong RX10 179 (-1), Cond.constant RX10 184 (1000000000)]
def wsX10_value_r2 : List Cond := [Cond.constantLong RX10 185 (1000000000), Cond.methodLink RX10 181 yX10_divisor, Cond.instanceMethod yX10_divisor, Cond.selects RX10 yX10_divisor yX10_divisor, Cond.code yX10_divisor cX10_divisor 5 none, Cond.methodLink RX10 87 yX10_overSmall, Cond.instanceMethod yX10_overSmall, Cond.selects RX10 yX10_overSmall yX10_overSmall, Cond.code yX10_overSmall cX10_overSmall 8 (some .int), Cond.constantLong RX10 74 (268435456), Cond.methodLink RX10 69 yX10_trim, Cond.instanceMethod yX10_trim, Cond.selects RX10 yX10_trim yX10_trim, Cond.code yX10_trim cX10_trim 4 none, Cond.methodLink RX10 61 yX10_compareSizes, Cond.instanceMethod yX10_compareSizes, Cond.selects RX10 yX10_compareSizes yX10_compareSizes, Cond.code yX10_compareSizes cX10_compareSizes 4 (some .int), Cond.methodLink RX10 83 yX10_plus, Cond.instanceMethod yX10_plus, Cond.selects RX10 yX10_plus yX10_plus, Cond.code yX10_plus cX10_plus 10 none, Cond.constant RX10 68 (268435455), Cond.constant RX10 73 (268435456)]
def wsX10_value_r3 : List Cond := [Cond.methodLink RX10 65 yX10_limb, Cond.instanceMethod yX10_limb, Cond.selects RX10 yX10_limb yX10_limb, Cond.code yX10_limb cX10_limb 3 (some .int), Cond.methodLink RX10 93 yX10_swapped, Cond.instanceMethod yX10_swapped, Cond.selects RX10 yX10_swapped yX10_swapped, Cond.code yX10_swapped cX10_swapped 3 (some .int), Cond.methodLink RX10 76 yX10_setSmall, Cond.instanceMethod yX10_setSmall, Cond.selects RX10 yX10_setSmall yX10_setSmall, Cond.code yX10_setSmall cX10_setSmall 7 none, Cond.constantLong RX10 59 (268435455), Cond.methodLink RX10 80 yX10_times, Cond.instanceMethod yX10_times, Cond.selects RX10 yX10_times yX10_times, Cond.code yX10_times cX10_times 11 none, Cond.methodLink RX10 150 yX10_over, Cond.instanceMethod yX10_over, Cond.selects RX10 yX10_over yX10_over, Cond.code yX10_over cX10_over 9 none]
def wsX10_value : List Cond := .code yX10_value cX10_value 3 (some .long) :: ((wsX10_value_r1 ++ (wsX10_value_r2 ++ wsX10_value_r3)) ++ wsX100)
def wsX10_gain_r1 : List Cond := [Cond.fieldLink RX10 56 "PolicyWorksModel" "thrown" "I", Cond.fieldLink RX10 96 "PolicyWorksModel" "solved" "Z", Cond.fieldLink RX10 26 "PolicyWorksModel" "discountDown" "I", Cond.fieldLink RX10 16 "PolicyWorksModel" "downs" "[I", Cond.methodLink RX10 113 yX10_isAction, Cond.instanceMethod yX10_isAction, Cond.selects RX10 yX10_isAction yX10_isAction, Cond.initialized RX10, Cond.code yX10_isAction cX10_isAction 3 (some .boolean), Cond.fieldLink RX10 7 "PolicyWorksModel" "actionCounts" "[I", Cond.methodLink RX10 109 yX10_isState, Cond.instanceMethod yX10_isState, Cond.selects RX10 yX10_isState yX10_isState, Cond.code yX10_isState cX10_isState 2 (some .boolean), Cond.fieldLink RX10 103 "PolicyWorksModel" "states" "I", Cond.methodLink RX10 187 yX10_none, Cond.static yX10_none, Cond.code yX10_none cX10_none 1 (some .int), Cond.methodLink RX10 153 yX10_gainInto, Cond.instanceMethod yX10_gainInto, Cond.selects RX10 yX10_gainInto yX10_gainInto, Cond.code yX10_gainInto cX10_gainInto 6 none, Cond.fieldLink RX10 19 "PolicyWorksModel" "weights" "[I", Cond.fieldLink RX10 22 "PolicyWorksModel" "discountUp" "I"]
def wsX10_gain_r2 : List Cond := [Cond.fieldLink RX10 13 "PolicyWorksModel" "ups" "[I", Cond.methodLink RX10 76 yX10_setSmall, Cond.instanceMethod yX10_setSmall, Cond.selects RX10 yX10_setSmall yX10_setSmall, Cond.code yX10_setSmall cX10_setSmall 7 none, Cond.fieldLink RX10 44 "PolicyWorksModel" "signs" "[I", Cond.fieldLink RX10 38 "PolicyWorksModel" "limbs" "[I", Cond.constantLong RX10 59 (268435455), Cond.fieldLink RX10 41 "PolicyWorksModel" "lengths" "[I", Cond.methodLink RX10 90 yX10_copy, Cond.instanceMethod yX10_copy, Cond.selects RX10 yX10_copy yX10_copy, Cond.code yX10_copy cX10_copy 4 none, Cond.methodLink RX10 80 yX10_times, Cond.instanceMethod yX10_times, Cond.selects RX10 yX10_times yX10_times, Cond.code yX10_times cX10_times 11 none, Cond.methodLink RX10 69 yX10_trim, Cond.instanceMethod yX10_trim, Cond.selects RX10 yX10_trim yX10_trim, Cond.code yX10_trim cX10_trim 4 none, Cond.methodLink RX10 83 yX10_plus, Cond.instanceMethod yX10_plus, Cond.selects RX10 yX10_plus yX10_plus]
def wsX10_gain_r3 : List Cond := [Cond.code yX10_plus cX10_plus 10 none, Cond.constant RX10 68 (268435455), Cond.constant RX10 73 (268435456), Cond.methodLink RX10 65 yX10_limb, Cond.instanceMethod yX10_limb, Cond.selects RX10 yX10_limb yX10_limb, Cond.code yX10_limb cX10_limb 3 (some .int), Cond.methodLink RX10 61 yX10_compareSizes, Cond.instanceMethod yX10_compareSizes, Cond.selects RX10 yX10_compareSizes yX10_compareSizes, Cond.code yX10_compareSizes cX10_compareSizes 4 (some .int), Cond.methodLink RX10 127 yX10_sumOf, Cond.instanceMethod yX10_sumOf, Cond.selects RX10 yX10_sumOf yX10_sumOf, Cond.code yX10_sumOf cX10_sumOf 4 (some .int), Cond.methodLink RX10 190 yX10_tell, Cond.instanceMethod yX10_tell, Cond.selects RX10 yX10_tell yX10_tell, Cond.code yX10_tell cX10_tell 7 (some .long), Cond.constantLong RX10 179 (-1), Cond.constant RX10 184 (1000000000), Cond.constantLong RX10 185 (1000000000), Cond.methodLink RX10 181 yX10_divisor, Cond.instanceMethod yX10_divisor]
def wsX10_gain_r4 : List Cond := [Cond.selects RX10 yX10_divisor yX10_divisor, Cond.code yX10_divisor cX10_divisor 5 none, Cond.methodLink RX10 87 yX10_overSmall, Cond.instanceMethod yX10_overSmall, Cond.selects RX10 yX10_overSmall yX10_overSmall, Cond.code yX10_overSmall cX10_overSmall 8 (some .int), Cond.constantLong RX10 74 (268435456), Cond.methodLink RX10 93 yX10_swapped, Cond.instanceMethod yX10_swapped, Cond.selects RX10 yX10_swapped yX10_swapped, Cond.code yX10_swapped cX10_swapped 3 (some .int), Cond.methodLink RX10 150 yX10_over, Cond.instanceMethod yX10_over, Cond.selects RX10 yX10_over yX10_over, Cond.code yX10_over cX10_over 9 none]
def wsX10_gain : List Cond := .code yX10_gain cX10_gain 4 (some .long) :: ((wsX10_gain_r1 ++ (wsX10_gain_r2 ++ (wsX10_gain_r3 ++ wsX10_gain_r4))) ++ wsX100)
def wsX10_worth_r1 : List Cond := [Cond.fieldLink RX10 56 "PolicyWorksModel" "thrown" "I", Cond.constantLong RX10 194 (3), Cond.fieldLink RX10 103 "PolicyWorksModel" "states" "I", Cond.fieldLink RX10 32 "PolicyWorksModel" "chosen" "[I", Cond.fieldLink RX10 7 "PolicyWorksModel" "actionCounts" "[I", Cond.methodLink RX10 164 yX10_isReady, Cond.instanceMethod yX10_isReady, Cond.selects RX10 yX10_isReady yX10_isReady, Cond.initialized RX10, Cond.code yX10_isReady cX10_isReady 3 (some .boolean), Cond.methodLink RX10 131 yX10_readyCount, Cond.instanceMethod yX10_readyCount, Cond.selects RX10 yX10_readyCount yX10_readyCount, Cond.code yX10_readyCount cX10_readyCount 4 (some .int), Cond.methodLink RX10 127 yX10_sumOf, Cond.instanceMethod yX10_sumOf, Cond.selects RX10 yX10_sumOf yX10_sumOf, Cond.code yX10_sumOf cX10_sumOf 4 (some .int), Cond.fieldLink RX10 19 "PolicyWorksModel" "weights" "[I", Cond.methodLink RX10 135 yX10_allActions, Cond.instanceMethod yX10_allActions, Cond.selects RX10 yX10_allActions yX10_allActions, Cond.code yX10_allActions cX10_allActions 3 (some .int), Cond.methodLink RX10 121 yX10_in]
def wsX10_worth_r2 : List Cond := [Cond.static yX10_in, Cond.code yX10_in cX10_in 6 (some .boolean), Cond.methodLink RX10 109 yX10_isState, Cond.instanceMethod yX10_isState, Cond.selects RX10 yX10_isState yX10_isState, Cond.code yX10_isState cX10_isState 2 (some .boolean), Cond.methodLink RX10 187 yX10_none, Cond.static yX10_none, Cond.code yX10_none cX10_none 1 (some .int), Cond.methodLink RX10 168 yX10_valuePolicy, Cond.instanceMethod yX10_valuePolicy, Cond.selects RX10 yX10_valuePolicy yX10_valuePolicy, Cond.code yX10_valuePolicy cX10_valuePolicy 6 none, Cond.fieldLink RX10 138 "PolicyWorksModel" "common" "I", Cond.fieldLink RX10 16 "PolicyWorksModel" "downs" "[I", Cond.fieldLink RX10 26 "PolicyWorksModel" "discountDown" "I", Cond.fieldLink RX10 22 "PolicyWorksModel" "discountUp" "I", Cond.fieldLink RX10 13 "PolicyWorksModel" "ups" "[I", Cond.methodLink RX10 141 yX10_dividing, Cond.static yX10_dividing, Cond.code yX10_dividing cX10_dividing 5 (some .int), Cond.methodLink RX10 76 yX10_setSmall, Cond.instanceMethod yX10_setSmall, Cond.selects RX10 yX10_setSmall yX10_setSmall]
def wsX10_worth_r3 : List Cond := [Cond.code yX10_setSmall cX10_setSmall 7 none, Cond.fieldLink RX10 44 "PolicyWorksModel" "signs" "[I", Cond.fieldLink RX10 38 "PolicyWorksModel" "limbs" "[I", Cond.constantLong RX10 59 (268435455), Cond.fieldLink RX10 41 "PolicyWorksModel" "lengths" "[I", Cond.methodLink RX10 80 yX10_times, Cond.instanceMethod yX10_times, Cond.selects RX10 yX10_times yX10_times, Cond.code yX10_times cX10_times 11 none, Cond.methodLink RX10 69 yX10_trim, Cond.instanceMethod yX10_trim, Cond.selects RX10 yX10_trim yX10_trim, Cond.code yX10_trim cX10_trim 4 none, Cond.methodLink RX10 144 yX10_putRight, Cond.instanceMethod yX10_putRight, Cond.selects RX10 yX10_putRight yX10_putRight, Cond.code yX10_putRight cX10_putRight 4 none, Cond.methodLink RX10 147 yX10_multiply, Cond.instanceMethod yX10_multiply, Cond.selects RX10 yX10_multiply yX10_multiply, Cond.code yX10_multiply cX10_multiply 13 none, Cond.methodLink RX10 83 yX10_plus, Cond.instanceMethod yX10_plus, Cond.selects RX10 yX10_plus yX10_plus]
def wsX10_worth_r4 : List Cond := [Cond.code yX10_plus cX10_plus 10 none, Cond.constant RX10 68 (268435455), Cond.constant RX10 73 (268435456), Cond.methodLink RX10 65 yX10_limb, Cond.instanceMethod yX10_limb, Cond.selects RX10 yX10_limb yX10_limb, Cond.code yX10_limb cX10_limb 3 (some .int), Cond.methodLink RX10 61 yX10_compareSizes, Cond.instanceMethod yX10_compareSizes, Cond.selects RX10 yX10_compareSizes yX10_compareSizes, Cond.code yX10_compareSizes cX10_compareSizes 4 (some .int), Cond.methodLink RX10 150 yX10_over, Cond.instanceMethod yX10_over, Cond.selects RX10 yX10_over yX10_over, Cond.code yX10_over cX10_over 9 none, Cond.methodLink RX10 90 yX10_copy, Cond.instanceMethod yX10_copy, Cond.selects RX10 yX10_copy yX10_copy, Cond.code yX10_copy cX10_copy 4 none, Cond.methodLink RX10 171 yX10_belowInto, Cond.instanceMethod yX10_belowInto, Cond.selects RX10 yX10_belowInto yX10_belowInto, Cond.code yX10_belowInto cX10_belowInto 2 none, Cond.methodLink RX10 190 yX10_tell]
def wsX10_worth_r5 : List Cond := [Cond.instanceMethod yX10_tell, Cond.selects RX10 yX10_tell yX10_tell, Cond.code yX10_tell cX10_tell 7 (some .long), Cond.constantLong RX10 179 (-1), Cond.constant RX10 184 (1000000000), Cond.constantLong RX10 185 (1000000000), Cond.methodLink RX10 181 yX10_divisor, Cond.instanceMethod yX10_divisor, Cond.selects RX10 yX10_divisor yX10_divisor, Cond.code yX10_divisor cX10_divisor 5 none, Cond.methodLink RX10 87 yX10_overSmall, Cond.instanceMethod yX10_overSmall, Cond.selects RX10 yX10_overSmall yX10_overSmall, Cond.code yX10_overSmall cX10_overSmall 8 (some .int), Cond.constantLong RX10 74 (268435456), Cond.methodLink RX10 93 yX10_swapped, Cond.instanceMethod yX10_swapped, Cond.selects RX10 yX10_swapped yX10_swapped, Cond.code yX10_swapped cX10_swapped 3 (some .int)]
def wsX10_worth : List Cond := .code yX10_worth cX10_worth 5 (some .long) :: ((wsX10_worth_r1 ++ (wsX10_worth_r2 ++ (wsX10_worth_r3 ++ (wsX10_worth_r4 ++ wsX10_worth_r5)))) ++ wsX100)
def wsX10_factor : List Cond := .code yX10_factor cX10_factor 4 none :: ([.fieldLink RX10 50 "PolicyWorksModel" "own" "[I", .fieldLink RX10 47 "PolicyWorksModel" "primes" "[I"] ++ wsX100)
def wsX10_raise : List Cond := .code yX10_raise cX10_raise 5 none :: ([.methodLink RX10 80 yX10_times, .instanceMethod yX10_times, .selects RX10 yX10_times yX10_times, .initialized RX10, .code yX10_times cX10_times 11 none, .fieldLink RX10 41 "PolicyWorksModel" "lengths" "[I", .fieldLink RX10 38 "PolicyWorksModel" "limbs" "[I", .constantLong RX10 59 (268435455), .fieldLink RX10 44 "PolicyWorksModel" "signs" "[I", .methodLink RX10 69 yX10_trim, .instanceMethod yX10_trim, .selects RX10 yX10_trim yX10_trim, .code yX10_trim cX10_trim 4 none] ++ wsX100)
def wsX10_go_r1 : List Cond := [Cond.fieldLink RX10 103 "PolicyWorksModel" "states" "I", Cond.fieldLink RX10 53 "PolicyWorksModel" "together" "[I", Cond.fieldLink RX10 32 "PolicyWorksModel" "chosen" "[I", Cond.fieldLink RX10 16 "PolicyWorksModel" "downs" "[I", Cond.fieldLink RX10 50 "PolicyWorksModel" "own" "[I", Cond.fieldLink RX10 47 "PolicyWorksModel" "primes" "[I", Cond.fieldLink RX10 26 "PolicyWorksModel" "discountDown" "I", Cond.methodLink RX10 76 yX10_setSmall, Cond.instanceMethod yX10_setSmall, Cond.selects RX10 yX10_setSmall yX10_setSmall, Cond.initialized RX10, Cond.code yX10_setSmall cX10_setSmall 7 none, Cond.fieldLink RX10 44 "PolicyWorksModel" "signs" "[I", Cond.fieldLink RX10 38 "PolicyWorksModel" "limbs" "[I", Cond.constantLong RX10 59 (268435455), Cond.fieldLink RX10 41 "PolicyWorksModel" "lengths" "[I", Cond.methodLink RX10 175 yX10_greatest, Cond.instanceMethod yX10_greatest, Cond.selects RX10 yX10_greatest yX10_greatest, Cond.code yX10_greatest cX10_greatest 6 (some .int), Cond.fieldLink RX10 7 "PolicyWorksModel" "actionCounts" "[I", Cond.methodLink RX10 160 yX10_compareGains, Cond.instanceMethod yX10_compareGains, Cond.selects RX10 yX10_compareGains yX10_compareGains]
def wsX10_go_r2 : List Cond := [Cond.code yX10_compareGains cX10_compareGains 5 (some .int), Cond.methodLink RX10 153 yX10_gainInto, Cond.instanceMethod yX10_gainInto, Cond.selects RX10 yX10_gainInto yX10_gainInto, Cond.code yX10_gainInto cX10_gainInto 6 none, Cond.fieldLink RX10 19 "PolicyWorksModel" "weights" "[I", Cond.fieldLink RX10 22 "PolicyWorksModel" "discountUp" "I", Cond.fieldLink RX10 13 "PolicyWorksModel" "ups" "[I", Cond.methodLink RX10 90 yX10_copy, Cond.instanceMethod yX10_copy, Cond.selects RX10 yX10_copy yX10_copy, Cond.code yX10_copy cX10_copy 4 none, Cond.methodLink RX10 80 yX10_times, Cond.instanceMethod yX10_times, Cond.selects RX10 yX10_times yX10_times, Cond.code yX10_times cX10_times 11 none, Cond.methodLink RX10 69 yX10_trim, Cond.instanceMethod yX10_trim, Cond.selects RX10 yX10_trim yX10_trim, Cond.code yX10_trim cX10_trim 4 none, Cond.methodLink RX10 83 yX10_plus, Cond.instanceMethod yX10_plus, Cond.selects RX10 yX10_plus yX10_plus, Cond.code yX10_plus cX10_plus 10 none]
def wsX10_go_r3 : List Cond := [Cond.constant RX10 68 (268435455), Cond.constant RX10 73 (268435456), Cond.methodLink RX10 65 yX10_limb, Cond.instanceMethod yX10_limb, Cond.selects RX10 yX10_limb yX10_limb, Cond.code yX10_limb cX10_limb 3 (some .int), Cond.methodLink RX10 61 yX10_compareSizes, Cond.instanceMethod yX10_compareSizes, Cond.selects RX10 yX10_compareSizes yX10_compareSizes, Cond.code yX10_compareSizes cX10_compareSizes 4 (some .int), Cond.methodLink RX10 127 yX10_sumOf, Cond.instanceMethod yX10_sumOf, Cond.selects RX10 yX10_sumOf yX10_sumOf, Cond.code yX10_sumOf cX10_sumOf 4 (some .int), Cond.methodLink RX10 157 yX10_compare, Cond.instanceMethod yX10_compare, Cond.selects RX10 yX10_compare yX10_compare, Cond.code yX10_compare cX10_compare 3 (some .int), Cond.methodLink RX10 196 yX10_factor, Cond.instanceMethod yX10_factor, Cond.selects RX10 yX10_factor yX10_factor, Cond.code yX10_factor cX10_factor 4 none, Cond.methodLink RX10 199 yX10_raise, Cond.instanceMethod yX10_raise]
def wsX10_go_r4 : List Cond := [Cond.selects RX10 yX10_raise yX10_raise, Cond.code yX10_raise cX10_raise 5 none]
def wsX10_go : List Cond := .code yX10_go cX10_go 6 none :: ((wsX10_go_r1 ++ (wsX10_go_r2 ++ (wsX10_go_r3 ++ wsX10_go_r4))) ++ wsX100)
def wsX10_steps_r1 : List Cond := [Cond.fieldLink RX10 56 "PolicyWorksModel" "thrown" "I", Cond.constantLong RX10 202 (8), Cond.methodLink RX10 164 yX10_isReady, Cond.instanceMethod yX10_isReady, Cond.selects RX10 yX10_isReady yX10_isReady, Cond.initialized RX10, Cond.code yX10_isReady cX10_isReady 3 (some .boolean), Cond.fieldLink RX10 103 "PolicyWorksModel" "states" "I", Cond.fieldLink RX10 7 "PolicyWorksModel" "actionCounts" "[I", Cond.methodLink RX10 131 yX10_readyCount, Cond.instanceMethod yX10_readyCount, Cond.selects RX10 yX10_readyCount yX10_readyCount, Cond.code yX10_readyCount cX10_readyCount 4 (some .int), Cond.methodLink RX10 127 yX10_sumOf, Cond.instanceMethod yX10_sumOf, Cond.selects RX10 yX10_sumOf yX10_sumOf, Cond.code yX10_sumOf cX10_sumOf 4 (some .int), Cond.fieldLink RX10 19 "PolicyWorksModel" "weights" "[I", Cond.methodLink RX10 135 yX10_allActions, Cond.instanceMethod yX10_allActions, Cond.selects RX10 yX10_allActions yX10_allActions, Cond.code yX10_allActions cX10_allActions 3 (some .int), Cond.methodLink RX10 121 yX10_in, Cond.static yX10_in]
def wsX10_steps_r2 : List Cond := [Cond.code yX10_in cX10_in 6 (some .boolean), Cond.methodLink RX10 109 yX10_isState, Cond.instanceMethod yX10_isState, Cond.selects RX10 yX10_isState yX10_isState, Cond.code yX10_isState cX10_isState 2 (some .boolean), Cond.methodLink RX10 187 yX10_none, Cond.static yX10_none, Cond.code yX10_none cX10_none 1 (some .int), Cond.methodLink RX10 204 yX10_go, Cond.instanceMethod yX10_go, Cond.selects RX10 yX10_go yX10_go, Cond.code yX10_go cX10_go 6 none, Cond.fieldLink RX10 53 "PolicyWorksModel" "together" "[I", Cond.fieldLink RX10 32 "PolicyWorksModel" "chosen" "[I", Cond.fieldLink RX10 16 "PolicyWorksModel" "downs" "[I", Cond.fieldLink RX10 50 "PolicyWorksModel" "own" "[I", Cond.fieldLink RX10 47 "PolicyWorksModel" "primes" "[I", Cond.fieldLink RX10 26 "PolicyWorksModel" "discountDown" "I", Cond.methodLink RX10 76 yX10_setSmall, Cond.instanceMethod yX10_setSmall, Cond.selects RX10 yX10_setSmall yX10_setSmall, Cond.code yX10_setSmall cX10_setSmall 7 none, Cond.fieldLink RX10 44 "PolicyWorksModel" "signs" "[I", Cond.fieldLink RX10 38 "PolicyWorksModel" "limbs" "[I"]
def wsX10_steps_r3 : List Cond := [Cond.constantLong RX10 59 (268435455), Cond.fieldLink RX10 41 "PolicyWorksModel" "lengths" "[I", Cond.methodLink RX10 175 yX10_greatest, Cond.instanceMethod yX10_greatest, Cond.selects RX10 yX10_greatest yX10_greatest, Cond.code yX10_greatest cX10_greatest 6 (some .int), Cond.methodLink RX10 160 yX10_compareGains, Cond.instanceMethod yX10_compareGains, Cond.selects RX10 yX10_compareGains yX10_compareGains, Cond.code yX10_compareGains cX10_compareGains 5 (some .int), Cond.methodLink RX10 153 yX10_gainInto, Cond.instanceMethod yX10_gainInto, Cond.selects RX10 yX10_gainInto yX10_gainInto, Cond.code yX10_gainInto cX10_gainInto 6 none, Cond.fieldLink RX10 22 "PolicyWorksModel" "discountUp" "I", Cond.fieldLink RX10 13 "PolicyWorksModel" "ups" "[I", Cond.methodLink RX10 90 yX10_copy, Cond.instanceMethod yX10_copy, Cond.selects RX10 yX10_copy yX10_copy, Cond.code yX10_copy cX10_copy 4 none, Cond.methodLink RX10 80 yX10_times, Cond.instanceMethod yX10_times, Cond.selects RX10 yX10_times yX10_times, Cond.code yX10_times cX10_times 11 none]
def wsX10_steps_r4 : List Cond := [Cond.methodLink RX10 69 yX10_trim, Cond.instanceMethod yX10_trim, Cond.selects RX10 yX10_trim yX10_trim, Cond.code yX10_trim cX10_trim 4 none, Cond.methodLink RX10 83 yX10_plus, Cond.instanceMethod yX10_plus, Cond.selects RX10 yX10_plus yX10_plus, Cond.code yX10_plus cX10_plus 10 none, Cond.constant RX10 68 (268435455), Cond.constant RX10 73 (268435456), Cond.methodLink RX10 65 yX10_limb, Cond.instanceMethod yX10_limb, Cond.selects RX10 yX10_limb yX10_limb, Cond.code yX10_limb cX10_limb 3 (some .int), Cond.methodLink RX10 61 yX10_compareSizes, Cond.instanceMethod yX10_compareSizes, Cond.selects RX10 yX10_compareSizes yX10_compareSizes, Cond.code yX10_compareSizes cX10_compareSizes 4 (some .int), Cond.methodLink RX10 157 yX10_compare, Cond.instanceMethod yX10_compare, Cond.selects RX10 yX10_compare yX10_compare, Cond.code yX10_compare cX10_compare 3 (some .int), Cond.methodLink RX10 196 yX10_factor, Cond.instanceMethod yX10_factor]
def wsX10_steps_r5 : List Cond := [Cond.selects RX10 yX10_factor yX10_factor, Cond.code yX10_factor cX10_factor 4 none, Cond.methodLink RX10 199 yX10_raise, Cond.instanceMethod yX10_raise, Cond.selects RX10 yX10_raise yX10_raise, Cond.code yX10_raise cX10_raise 5 none, Cond.methodLink RX10 190 yX10_tell, Cond.instanceMethod yX10_tell, Cond.selects RX10 yX10_tell yX10_tell, Cond.code yX10_tell cX10_tell 7 (some .long), Cond.constantLong RX10 179 (-1), Cond.constant RX10 184 (1000000000), Cond.constantLong RX10 185 (1000000000), Cond.methodLink RX10 181 yX10_divisor, Cond.instanceMethod yX10_divisor, Cond.selects RX10 yX10_divisor yX10_divisor, Cond.code yX10_divisor cX10_divisor 5 none, Cond.methodLink RX10 87 yX10_overSmall, Cond.instanceMethod yX10_overSmall, Cond.selects RX10 yX10_overSmall yX10_overSmall, Cond.code yX10_overSmall cX10_overSmall 8 (some .int), Cond.constantLong RX10 74 (268435456), Cond.methodLink RX10 93 yX10_swapped, Cond.instanceMethod yX10_swapped]
def wsX10_steps_r6 : List Cond := [Cond.selects RX10 yX10_swapped yX10_swapped, Cond.code yX10_swapped cX10_swapped 3 (some .int), Cond.methodLink RX10 150 yX10_over, Cond.instanceMethod yX10_over, Cond.selects RX10 yX10_over yX10_over, Cond.code yX10_over cX10_over 9 none]
def wsX10_steps : List Cond := .code yX10_steps cX10_steps 4 (some .long) :: ((wsX10_steps_r1 ++ (wsX10_steps_r2 ++ (wsX10_steps_r3 ++ (wsX10_steps_r4 ++ (wsX10_steps_r5 ++ wsX10_steps_r6))))) ++ wsX100)
def wsX10_plan_r1 : List Cond := [Cond.fieldLink RX10 56 "PolicyWorksModel" "thrown" "I", Cond.constantLong RX10 202 (8), Cond.methodLink RX10 164 yX10_isReady, Cond.instanceMethod yX10_isReady, Cond.selects RX10 yX10_isReady yX10_isReady, Cond.initialized RX10, Cond.code yX10_isReady cX10_isReady 3 (some .boolean), Cond.fieldLink RX10 103 "PolicyWorksModel" "states" "I", Cond.fieldLink RX10 7 "PolicyWorksModel" "actionCounts" "[I", Cond.methodLink RX10 131 yX10_readyCount, Cond.instanceMethod yX10_readyCount, Cond.selects RX10 yX10_readyCount yX10_readyCount, Cond.code yX10_readyCount cX10_readyCount 4 (some .int), Cond.methodLink RX10 127 yX10_sumOf, Cond.instanceMethod yX10_sumOf, Cond.selects RX10 yX10_sumOf yX10_sumOf, Cond.code yX10_sumOf cX10_sumOf 4 (some .int), Cond.fieldLink RX10 19 "PolicyWorksModel" "weights" "[I", Cond.methodLink RX10 135 yX10_allActions, Cond.instanceMethod yX10_allActions, Cond.selects RX10 yX10_allActions yX10_allActions, Cond.code yX10_allActions cX10_allActions 3 (some .int), Cond.methodLink RX10 121 yX10_in, Cond.static yX10_in]
def wsX10_plan_r2 : List Cond := [Cond.code yX10_in cX10_in 6 (some .boolean), Cond.methodLink RX10 109 yX10_isState, Cond.instanceMethod yX10_isState, Cond.selects RX10 yX10_isState yX10_isState, Cond.code yX10_isState cX10_isState 2 (some .boolean), Cond.methodLink RX10 204 yX10_go, Cond.instanceMethod yX10_go, Cond.selects RX10 yX10_go yX10_go, Cond.code yX10_go cX10_go 6 none, Cond.fieldLink RX10 53 "PolicyWorksModel" "together" "[I", Cond.fieldLink RX10 32 "PolicyWorksModel" "chosen" "[I", Cond.fieldLink RX10 16 "PolicyWorksModel" "downs" "[I", Cond.fieldLink RX10 50 "PolicyWorksModel" "own" "[I", Cond.fieldLink RX10 47 "PolicyWorksModel" "primes" "[I", Cond.fieldLink RX10 26 "PolicyWorksModel" "discountDown" "I", Cond.methodLink RX10 76 yX10_setSmall, Cond.instanceMethod yX10_setSmall, Cond.selects RX10 yX10_setSmall yX10_setSmall, Cond.code yX10_setSmall cX10_setSmall 7 none, Cond.fieldLink RX10 44 "PolicyWorksModel" "signs" "[I", Cond.fieldLink RX10 38 "PolicyWorksModel" "limbs" "[I", Cond.constantLong RX10 59 (268435455), Cond.fieldLink RX10 41 "PolicyWorksModel" "lengths" "[I", Cond.methodLink RX10 175 yX10_greatest]
def wsX10_plan_r3 : List Cond := [Cond.instanceMethod yX10_greatest, Cond.selects RX10 yX10_greatest yX10_greatest, Cond.code yX10_greatest cX10_greatest 6 (some .int), Cond.methodLink RX10 160 yX10_compareGains, Cond.instanceMethod yX10_compareGains, Cond.selects RX10 yX10_compareGains yX10_compareGains, Cond.code yX10_compareGains cX10_compareGains 5 (some .int), Cond.methodLink RX10 153 yX10_gainInto, Cond.instanceMethod yX10_gainInto, Cond.selects RX10 yX10_gainInto yX10_gainInto, Cond.code yX10_gainInto cX10_gainInto 6 none, Cond.fieldLink RX10 22 "PolicyWorksModel" "discountUp" "I", Cond.fieldLink RX10 13 "PolicyWorksModel" "ups" "[I", Cond.methodLink RX10 90 yX10_copy, Cond.instanceMethod yX10_copy, Cond.selects RX10 yX10_copy yX10_copy, Cond.code yX10_copy cX10_copy 4 none, Cond.methodLink RX10 80 yX10_times, Cond.instanceMethod yX10_times, Cond.selects RX10 yX10_times yX10_times, Cond.code yX10_times cX10_times 11 none, Cond.methodLink RX10 69 yX10_trim, Cond.instanceMethod yX10_trim, Cond.selects RX10 yX10_trim yX10_trim]
def wsX10_plan_r4 : List Cond := [Cond.code yX10_trim cX10_trim 4 none, Cond.methodLink RX10 83 yX10_plus, Cond.instanceMethod yX10_plus, Cond.selects RX10 yX10_plus yX10_plus, Cond.code yX10_plus cX10_plus 10 none, Cond.constant RX10 68 (268435455), Cond.constant RX10 73 (268435456), Cond.methodLink RX10 65 yX10_limb, Cond.instanceMethod yX10_limb, Cond.selects RX10 yX10_limb yX10_limb, Cond.code yX10_limb cX10_limb 3 (some .int), Cond.methodLink RX10 61 yX10_compareSizes, Cond.instanceMethod yX10_compareSizes, Cond.selects RX10 yX10_compareSizes yX10_compareSizes, Cond.code yX10_compareSizes cX10_compareSizes 4 (some .int), Cond.methodLink RX10 157 yX10_compare, Cond.instanceMethod yX10_compare, Cond.selects RX10 yX10_compare yX10_compare, Cond.code yX10_compare cX10_compare 3 (some .int), Cond.methodLink RX10 196 yX10_factor, Cond.instanceMethod yX10_factor, Cond.selects RX10 yX10_factor yX10_factor, Cond.code yX10_factor cX10_factor 4 none, Cond.methodLink RX10 199 yX10_raise]
def wsX10_plan_r5 : List Cond := [Cond.instanceMethod yX10_raise, Cond.selects RX10 yX10_raise yX10_raise, Cond.code yX10_raise cX10_raise 5 none]
def wsX10_plan : List Cond := .code yX10_plan cX10_plan 3 (some .int) :: ((wsX10_plan_r1 ++ (wsX10_plan_r2 ++ (wsX10_plan_r3 ++ (wsX10_plan_r4 ++ wsX10_plan_r5)))) ++ wsX100)
def wsX10_bound_r1 : List Cond := [Cond.fieldLink RX10 56 "PolicyWorksModel" "thrown" "I", Cond.constantLong RX10 202 (8), Cond.fieldLink RX10 103 "PolicyWorksModel" "states" "I", Cond.fieldLink RX10 13 "PolicyWorksModel" "ups" "[I", Cond.fieldLink RX10 16 "PolicyWorksModel" "downs" "[I", Cond.fieldLink RX10 7 "PolicyWorksModel" "actionCounts" "[I", Cond.fieldLink RX10 22 "PolicyWorksModel" "discountUp" "I", Cond.fieldLink RX10 26 "PolicyWorksModel" "discountDown" "I", Cond.methodLink RX10 164 yX10_isReady, Cond.instanceMethod yX10_isReady, Cond.selects RX10 yX10_isReady yX10_isReady, Cond.initialized RX10, Cond.code yX10_isReady cX10_isReady 3 (some .boolean), Cond.methodLink RX10 131 yX10_readyCount, Cond.instanceMethod yX10_readyCount, Cond.selects RX10 yX10_readyCount yX10_readyCount, Cond.code yX10_readyCount cX10_readyCount 4 (some .int), Cond.methodLink RX10 127 yX10_sumOf, Cond.instanceMethod yX10_sumOf, Cond.selects RX10 yX10_sumOf yX10_sumOf, Cond.code yX10_sumOf cX10_sumOf 4 (some .int), Cond.fieldLink RX10 19 "PolicyWorksModel" "weights" "[I", Cond.methodLink RX10 135 yX10_allActions, Cond.instanceMethod yX10_allActions]
def wsX10_bound_r2 : List Cond := [Cond.selects RX10 yX10_allActions yX10_allActions, Cond.code yX10_allActions cX10_allActions 3 (some .int), Cond.methodLink RX10 121 yX10_in, Cond.static yX10_in, Cond.code yX10_in cX10_in 6 (some .boolean), Cond.methodLink RX10 187 yX10_none, Cond.static yX10_none, Cond.code yX10_none cX10_none 1 (some .int), Cond.methodLink RX10 76 yX10_setSmall, Cond.instanceMethod yX10_setSmall, Cond.selects RX10 yX10_setSmall yX10_setSmall, Cond.code yX10_setSmall cX10_setSmall 7 none, Cond.fieldLink RX10 44 "PolicyWorksModel" "signs" "[I", Cond.fieldLink RX10 38 "PolicyWorksModel" "limbs" "[I", Cond.constantLong RX10 59 (268435455), Cond.fieldLink RX10 41 "PolicyWorksModel" "lengths" "[I", Cond.methodLink RX10 80 yX10_times, Cond.instanceMethod yX10_times, Cond.selects RX10 yX10_times yX10_times, Cond.code yX10_times cX10_times 11 none, Cond.methodLink RX10 69 yX10_trim, Cond.instanceMethod yX10_trim, Cond.selects RX10 yX10_trim yX10_trim, Cond.code yX10_trim cX10_trim 4 none]
def wsX10_bound_r3 : List Cond := [Cond.methodLink RX10 190 yX10_tell, Cond.instanceMethod yX10_tell, Cond.selects RX10 yX10_tell yX10_tell, Cond.code yX10_tell cX10_tell 7 (some .long), Cond.constantLong RX10 179 (-1), Cond.constant RX10 184 (1000000000), Cond.constantLong RX10 185 (1000000000), Cond.methodLink RX10 90 yX10_copy, Cond.instanceMethod yX10_copy, Cond.selects RX10 yX10_copy yX10_copy, Cond.code yX10_copy cX10_copy 4 none, Cond.methodLink RX10 181 yX10_divisor, Cond.instanceMethod yX10_divisor, Cond.selects RX10 yX10_divisor yX10_divisor, Cond.code yX10_divisor cX10_divisor 5 none, Cond.methodLink RX10 87 yX10_overSmall, Cond.instanceMethod yX10_overSmall, Cond.selects RX10 yX10_overSmall yX10_overSmall, Cond.code yX10_overSmall cX10_overSmall 8 (some .int), Cond.constantLong RX10 74 (268435456), Cond.methodLink RX10 61 yX10_compareSizes, Cond.instanceMethod yX10_compareSizes, Cond.selects RX10 yX10_compareSizes yX10_compareSizes, Cond.code yX10_compareSizes cX10_compareSizes 4 (some .int)]
def wsX10_bound_r4 : List Cond := [Cond.methodLink RX10 83 yX10_plus, Cond.instanceMethod yX10_plus, Cond.selects RX10 yX10_plus yX10_plus, Cond.code yX10_plus cX10_plus 10 none, Cond.constant RX10 68 (268435455), Cond.constant RX10 73 (268435456), Cond.methodLink RX10 65 yX10_limb, Cond.instanceMethod yX10_limb, Cond.selects RX10 yX10_limb yX10_limb, Cond.code yX10_limb cX10_limb 3 (some .int), Cond.methodLink RX10 93 yX10_swapped, Cond.instanceMethod yX10_swapped, Cond.selects RX10 yX10_swapped yX10_swapped, Cond.code yX10_swapped cX10_swapped 3 (some .int), Cond.methodLink RX10 150 yX10_over, Cond.instanceMethod yX10_over, Cond.selects RX10 yX10_over yX10_over, Cond.code yX10_over cX10_over 9 none]
def wsX10_bound : List Cond := .code yX10_bound cX10_bound 10 (some .long) :: ((wsX10_bound_r1 ++ (wsX10_bound_r2 ++ (wsX10_bound_r3 ++ wsX10_bound_r4))) ++ wsX100)
def wsX10_best : List Cond := .code yX10_best cX10_best 1 (some .boolean) :: ([.fieldLink RX10 56 "PolicyWorksModel" "thrown" "I", .fieldLink RX10 96 "PolicyWorksModel" "solved" "Z"] ++ wsX100)
def wsX10_count : List Cond := .code yX10_count cX10_count 2 (some .int) :: ([.fieldLink RX10 56 "PolicyWorksModel" "thrown" "I", .fieldLink RX10 103 "PolicyWorksModel" "states" "I", .fieldLink RX10 100 "PolicyWorksModel" "rounds" "I", .methodLink RX10 135 yX10_allActions, .instanceMethod yX10_allActions, .selects RX10 yX10_allActions yX10_allActions, .initialized RX10, .code yX10_allActions cX10_allActions 3 (some .int), .fieldLink RX10 7 "PolicyWorksModel" "actionCounts" "[I", .methodLink RX10 131 yX10_readyCount, .instanceMethod yX10_readyCount, .selects RX10 yX10_readyCount yX10_readyCount, .code yX10_readyCount cX10_readyCount 4 (some .int), .methodLink RX10 127 yX10_sumOf, .instanceMethod yX10_sumOf, .selects RX10 yX10_sumOf yX10_sumOf, .code yX10_sumOf cX10_sumOf 4 (some .int), .fieldLink RX10 19 "PolicyWorksModel" "weights" "[I"] ++ wsX100)
def wsJ9_max_7cf53 : List Cond := .code yJ9_max_7cf53 cJ9_max_7cf53 2 (some .int) :: ([])
def wsJ9_max_f86c9 : List Cond := .code yJ9_max_f86c9 cJ9_max_f86c9 4 (some .long) :: ([])
def wsJ9_min_7cf53 : List Cond := .code yJ9_min_7cf53 cJ9_min_7cf53 2 (some .int) :: ([])
abbrev vwCl : List vw_C := [(RX0, TX0, 4), (RX1, TX1, 3), (RX2, TX2, 2), (RX3, TX3, 5), (RX4, TX4, 2), (RX5, TX5, 3), (RX6, TX6, 5), (RX7, TX7, 2), (RX8, TX8, 3), (RX9, TX9, 14), (RX10, TX10, 20)]
end
section
theorem dJ6_bitCount_0f7a4_0 : decode cJ6_bitCount_0f7a4 0 = .ok (.iload_n 0, 1) := by decide +kernel
theorem dJ6_bitCount_0f7a4_1 : decode cJ6_bitCount_0f7a4 1 = .ok (.iload_n 0, 1) := by decide +kernel
theorem dJ6_bitCount_0f7a4_2 : decode cJ6_bitCount_0f7a4 2 = .ok (.iconst 1, 1) := by decide +kernel
theorem dJ6_bitCount_0f7a4_3 : decode cJ6_bitCount_0f7a4 3 = .ok (.iushr, 1) := by decide +kernel
theorem dJ6_bitCount_0f7a4_4 : decode cJ6_bitCount_0f7a4 4 = .ok (.ldc_w 265, 3) := by decide +kernel
theorem dJ6_bitCount_0f7a4_7 : decode cJ6_bitCount_0f7a4 7 = .ok (.iand, 1) := by decide +kernel
theorem dJ6_bitCount_0f7a4_8 : decode cJ6_bitCount_0f7a4 8 = .ok (.isub, 1) := by decide +kernel
theorem dJ6_bitCount_0f7a4_9 : decode cJ6_bitCount_0f7a4 9 = .ok (.istore_n 0, 1) := by decide +kernel
theorem dJ6_bitCount_0f7a4_10 : decode cJ6_bitCount_0f7a4 10 = .ok (.iload_n 0, 1) := by decide +kernel
theorem dJ6_bitCount_0f7a4_11 : decode cJ6_bitCount_0f7a4 11 = .ok (.ldc_w 266, 3) := by decide +kernel
theorem dJ6_bitCount_0f7a4_14 : decode cJ6_bitCount_0f7a4 14 = .ok (.iand, 1) := by decide +kernel
theorem dJ6_bitCount_0f7a4_15 : decode cJ6_bitCount_0f7a4 15 = .ok (.iload_n 0, 1) := by decide +kernel
theorem dJ6_bitCount_0f7a4_16 : decode cJ6_bitCount_0f7a4 16 = .ok (.iconst 2, 1) := by decide +kernel
theorem dJ6_bitCount_0f7a4_17 : decode cJ6_bitCount_0f7a4 17 = .ok (.iushr, 1) := by decide +kernel
theorem dJ6_bitCount_0f7a4_18 : decode cJ6_bitCount_0f7a4 18 = .ok (.ldc_w 266, 3) := by decide +kernel
theorem dJ6_bitCount_0f7a4_21 : decode cJ6_bitCount_0f7a4 21 = .ok (.iand, 1) := by decide +kernel
theorem dJ6_bitCount_0f7a4_22 : decode cJ6_bitCount_0f7a4 22 = .ok (.iadd, 1) := by decide +kernel
theorem dJ6_bitCount_0f7a4_23 : decode cJ6_bitCount_0f7a4 23 = .ok (.istore_n 0, 1) := by decide +kernel
theorem dJ6_bitCount_0f7a4_24 : decode cJ6_bitCount_0f7a4 24 = .ok (.iload_n 0, 1) := by decide +kernel
theorem dJ6_bitCount_0f7a4_25 : decode cJ6_bitCount_0f7a4 25 = .ok (.iload_n 0, 1) := by decide +kernel
theorem dJ6_bitCount_0f7a4_26 : decode cJ6_bitCount_0f7a4 26 = .ok (.iconst 4, 1) := by decide +kernel
theorem dJ6_bitCount_0f7a4_27 : decode cJ6_bitCount_0f7a4 27 = .ok (.iushr, 1) := by decide +kernel
theorem dJ6_bitCount_0f7a4_28 : decode cJ6_bitCount_0f7a4 28 = .ok (.iadd, 1) := by decide +kernel
theorem dJ6_bitCount_0f7a4_29 : decode cJ6_bitCount_0f7a4 29 = .ok (.ldc_w 267, 3) := by decide +kernel
theorem dJ6_bitCount_0f7a4_32 : decode cJ6_bitCount_0f7a4 32 = .ok (.iand, 1) := by decide +kernel
theorem dJ6_bitCount_0f7a4_33 : decode cJ6_bitCount_0f7a4 33 = .ok (.istore_n 0, 1) := by decide +kernel
theorem dJ6_bitCount_0f7a4_34 : decode cJ6_bitCount_0f7a4 34 = .ok (.iload_n 0, 1) := by decide +kernel
theorem dJ6_bitCount_0f7a4_35 : decode cJ6_bitCount_0f7a4 35 = .ok (.iload_n 0, 1) := by decide +kernel
theorem dJ6_bitCount_0f7a4_36 : decode cJ6_bitCount_0f7a4 36 = .ok (.bipush 8, 2) := by decide +kernel
theorem dJ6_bitCount_0f7a4_38 : decode cJ6_bitCount_0f7a4 38 = .ok (.iushr, 1) := by decide +kernel
theorem dJ6_bitCount_0f7a4_39 : decode cJ6_bitCount_0f7a4 39 = .ok (.iadd, 1) := by decide +kernel
theorem dJ6_bitCount_0f7a4_40 : decode cJ6_bitCount_0f7a4 40 = .ok (.istore_n 0, 1) := by decide +kernel
theorem dJ6_bitCount_0f7a4_41 : decode cJ6_bitCount_0f7a4 41 = .ok (.iload_n 0, 1) := by decide +kernel
theorem dJ6_bitCount_0f7a4_42 : decode cJ6_bitCount_0f7a4 42 = .ok (.iload_n 0, 1) := by decide +kernel
theorem dJ6_bitCount_0f7a4_43 : decode cJ6_bitCount_0f7a4 43 = .ok (.bipush 16, 2) := by decide +kernel
theorem dJ6_bitCount_0f7a4_45 : decode cJ6_bitCount_0f7a4 45 = .ok (.iushr, 1) := by decide +kernel
theorem dJ6_bitCount_0f7a4_46 : decode cJ6_bitCount_0f7a4 46 = .ok (.iadd, 1) := by decide +kernel
theorem dJ6_bitCount_0f7a4_47 : decode cJ6_bitCount_0f7a4 47 = .ok (.istore_n 0, 1) := by decide +kernel
theorem dJ6_bitCount_0f7a4_48 : decode cJ6_bitCount_0f7a4 48 = .ok (.iload_n 0, 1) := by decide +kernel
theorem dJ6_bitCount_0f7a4_49 : decode cJ6_bitCount_0f7a4 49 = .ok (.bipush 63, 2) := by decide +kernel
theorem dJ6_bitCount_0f7a4_51 : decode cJ6_bitCount_0f7a4 51 = .ok (.iand, 1) := by decide +kernel
theorem dJ6_bitCount_0f7a4_52 : decode cJ6_bitCount_0f7a4 52 = .ok (.ireturn, 1) := by decide +kernel
theorem dJ9_floorDiv_f86c9_0 : decode cJ9_floorDiv_f86c9 0 = .ok (.lload_n 0, 1) := by decide +kernel
theorem dJ9_floorDiv_f86c9_1 : decode cJ9_floorDiv_f86c9 1 = .ok (.lload_n 2, 1) := by decide +kernel
theorem dJ9_floorDiv_f86c9_2 : decode cJ9_floorDiv_f86c9 2 = .ok (.ldiv, 1) := by decide +kernel
theorem dJ9_floorDiv_f86c9_3 : decode cJ9_floorDiv_f86c9 3 = .ok (.lstore 4, 2) := by decide +kernel
theorem dJ9_floorDiv_f86c9_5 : decode cJ9_floorDiv_f86c9 5 = .ok (.lload_n 0, 1) := by decide +kernel
theorem dJ9_floorDiv_f86c9_6 : decode cJ9_floorDiv_f86c9 6 = .ok (.lload_n 2, 1) := by decide +kernel
theorem dJ9_floorDiv_f86c9_7 : decode cJ9_floorDiv_f86c9 7 = .ok (.lxor, 1) := by decide +kernel
theorem dJ9_floorDiv_f86c9_8 : decode cJ9_floorDiv_f86c9 8 = .ok (.lconst 0, 1) := by decide +kernel
theorem dJ9_floorDiv_f86c9_9 : decode cJ9_floorDiv_f86c9 9 = .ok (.lcmp, 1) := by decide +kernel
theorem dJ9_floorDiv_f86c9_10 : decode cJ9_floorDiv_f86c9 10 = .ok (.ifCond .ge 17, 3) := by decide +kernel
theorem dJ9_floorDiv_f86c9_13 : decode cJ9_floorDiv_f86c9 13 = .ok (.lload 4, 2) := by decide +kernel
theorem dJ9_floorDiv_f86c9_15 : decode cJ9_floorDiv_f86c9 15 = .ok (.lload_n 2, 1) := by decide +kernel
theorem dJ9_floorDiv_f86c9_16 : decode cJ9_floorDiv_f86c9 16 = .ok (.lmul, 1) := by decide +kernel
theorem dJ9_floorDiv_f86c9_17 : decode cJ9_floorDiv_f86c9 17 = .ok (.lload_n 0, 1) := by decide +kernel
theorem dJ9_floorDiv_f86c9_18 : decode cJ9_floorDiv_f86c9 18 = .ok (.lcmp, 1) := by decide +kernel
theorem dJ9_floorDiv_f86c9_19 : decode cJ9_floorDiv_f86c9 19 = .ok (.ifCond .eq 8, 3) := by decide +kernel
theorem dJ9_floorDiv_f86c9_22 : decode cJ9_floorDiv_f86c9 22 = .ok (.lload 4, 2) := by decide +kernel
theorem dJ9_floorDiv_f86c9_24 : decode cJ9_floorDiv_f86c9 24 = .ok (.lconst 1, 1) := by decide +kernel
theorem dJ9_floorDiv_f86c9_25 : decode cJ9_floorDiv_f86c9 25 = .ok (.lsub, 1) := by decide +kernel
theorem dJ9_floorDiv_f86c9_26 : decode cJ9_floorDiv_f86c9 26 = .ok (.lreturn, 1) := by decide +kernel
theorem dJ9_floorDiv_f86c9_27 : decode cJ9_floorDiv_f86c9 27 = .ok (.lload 4, 2) := by decide +kernel
theorem dJ9_floorDiv_f86c9_29 : decode cJ9_floorDiv_f86c9 29 = .ok (.lreturn, 1) := by decide +kernel
theorem dJ9_max_7cf53_0 : decode cJ9_max_7cf53 0 = .ok (.iload_n 0, 1) := by decide +kernel
theorem dJ9_max_7cf53_1 : decode cJ9_max_7cf53 1 = .ok (.iload_n 1, 1) := by decide +kernel
theorem dJ9_max_7cf53_2 : decode cJ9_max_7cf53 2 = .ok (.if_icmp .lt 7, 3) := by decide +kernel
theorem dJ9_max_7cf53_5 : decode cJ9_max_7cf53 5 = .ok (.iload_n 0, 1) := by decide +kernel
theorem dJ9_max_7cf53_6 : decode cJ9_max_7cf53 6 = .ok (.goto 4, 3) := by decide +kernel
theorem dJ9_max_7cf53_9 : decode cJ9_max_7cf53 9 = .ok (.iload_n 1, 1) := by decide +kernel
theorem dJ9_max_7cf53_10 : decode cJ9_max_7cf53 10 = .ok (.ireturn, 1) := by decide +kernel
theorem dJ9_max_f86c9_0 : decode cJ9_max_f86c9 0 = .ok (.lload_n 0, 1) := by decide +kernel
theorem dJ9_max_f86c9_1 : decode cJ9_max_f86c9 1 = .ok (.lload_n 2, 1) := by decide +kernel
theorem dJ9_max_f86c9_2 : decode cJ9_max_f86c9 2 = .ok (.lcmp, 1) := by decide +kernel
theorem dJ9_max_f86c9_3 : decode cJ9_max_f86c9 3 = .ok (.ifCond .lt 7, 3) := by decide +kernel
theorem dJ9_max_f86c9_6 : decode cJ9_max_f86c9 6 = .ok (.lload_n 0, 1) := by decide +kernel
theorem dJ9_max_f86c9_7 : decode cJ9_max_f86c9 7 = .ok (.goto 4, 3) := by decide +kernel
theorem dJ9_max_f86c9_10 : decode cJ9_max_f86c9 10 = .ok (.lload_n 2, 1) := by decide +kernel
theorem dJ9_max_f86c9_11 : decode cJ9_max_f86c9 11 = .ok (.lreturn, 1) := by decide +kernel
theorem dJ9_min_7cf53_0 : decode cJ9_min_7cf53 0 = .ok (.iload_n 0, 1) := by decide +kernel
theorem dJ9_min_7cf53_1 : decode cJ9_min_7cf53 1 = .ok (.iload_n 1, 1) := by decide +kernel
theorem dJ9_min_7cf53_2 : decode cJ9_min_7cf53 2 = .ok (.if_icmp .gt 7, 3) := by decide +kernel
theorem dJ9_min_7cf53_5 : decode cJ9_min_7cf53 5 = .ok (.iload_n 0, 1) := by decide +kernel
theorem dJ9_min_7cf53_6 : decode cJ9_min_7cf53 6 = .ok (.goto 4, 3) := by decide +kernel
theorem dJ9_min_7cf53_9 : decode cJ9_min_7cf53 9 = .ok (.iload_n 1, 1) := by decide +kernel
theorem dJ9_min_7cf53_10 : decode cJ9_min_7cf53 10 = .ok (.ireturn, 1) := by decide +kernel
theorem dJ7_fill_d0a16_0 : decode cJ7_fill_d0a16 0 = .ok (.iconst 0, 1) := by decide +kernel
theorem dJ7_fill_d0a16_1 : decode cJ7_fill_d0a16 1 = .ok (.istore_n 3, 1) := by decide +kernel
theorem dJ7_fill_d0a16_2 : decode cJ7_fill_d0a16 2 = .ok (.aload_n 0, 1) := by decide +kernel
theorem dJ7_fill_d0a16_3 : decode cJ7_fill_d0a16 3 = .ok (.arraylength, 1) := by decide +kernel
theorem dJ7_fill_d0a16_4 : decode cJ7_fill_d0a16 4 = .ok (.istore 4, 2) := by decide +kernel
theorem dJ7_fill_d0a16_6 : decode cJ7_fill_d0a16 6 = .ok (.iload_n 3, 1) := by decide +kernel
theorem dJ7_fill_d0a16_7 : decode cJ7_fill_d0a16 7 = .ok (.iload 4, 2) := by decide +kernel
theorem dJ7_fill_d0a16_9 : decode cJ7_fill_d0a16 9 = .ok (.if_icmp .ge 13, 3) := by decide +kernel
theorem dJ7_fill_d0a16_12 : decode cJ7_fill_d0a16 12 = .ok (.aload_n 0, 1) := by decide +kernel
theorem dJ7_fill_d0a16_13 : decode cJ7_fill_d0a16 13 = .ok (.iload_n 3, 1) := by decide +kernel
theorem dJ7_fill_d0a16_14 : decode cJ7_fill_d0a16 14 = .ok (.lload_n 1, 1) := by decide +kernel
theorem dJ7_fill_d0a16_15 : decode cJ7_fill_d0a16 15 = .ok (.lastore, 1) := by decide +kernel
theorem dJ7_fill_d0a16_16 : decode cJ7_fill_d0a16 16 = .ok (.iinc 3 1, 3) := by decide +kernel
theorem dJ7_fill_d0a16_19 : decode cJ7_fill_d0a16 19 = .ok (.goto (-13), 3) := by decide +kernel
theorem dJ7_fill_d0a16_22 : decode cJ7_fill_d0a16 22 = .ok (.return_, 1) := by decide +kernel
theorem dJ7_fill_53178_0 : decode cJ7_fill_53178 0 = .ok (.iconst 0, 1) := by decide +kernel
theorem dJ7_fill_53178_1 : decode cJ7_fill_53178 1 = .ok (.istore_n 2, 1) := by decide +kernel
theorem dJ7_fill_53178_2 : decode cJ7_fill_53178 2 = .ok (.aload_n 0, 1) := by decide +kernel
theorem dJ7_fill_53178_3 : decode cJ7_fill_53178 3 = .ok (.arraylength, 1) := by decide +kernel
theorem dJ7_fill_53178_4 : decode cJ7_fill_53178 4 = .ok (.istore_n 3, 1) := by decide +kernel
theorem dJ7_fill_53178_5 : decode cJ7_fill_53178 5 = .ok (.iload_n 2, 1) := by decide +kernel
theorem dJ7_fill_53178_6 : decode cJ7_fill_53178 6 = .ok (.iload_n 3, 1) := by decide +kernel
theorem dJ7_fill_53178_7 : decode cJ7_fill_53178 7 = .ok (.if_icmp .ge 13, 3) := by decide +kernel
theorem dJ7_fill_53178_10 : decode cJ7_fill_53178 10 = .ok (.aload_n 0, 1) := by decide +kernel
theorem dJ7_fill_53178_11 : decode cJ7_fill_53178 11 = .ok (.iload_n 2, 1) := by decide +kernel
theorem dJ7_fill_53178_12 : decode cJ7_fill_53178 12 = .ok (.iload_n 1, 1) := by decide +kernel
theorem dJ7_fill_53178_13 : decode cJ7_fill_53178 13 = .ok (.iastore, 1) := by decide +kernel
theorem dJ7_fill_53178_14 : decode cJ7_fill_53178 14 = .ok (.iinc 2 1, 3) := by decide +kernel
theorem dJ7_fill_53178_17 : decode cJ7_fill_53178 17 = .ok (.goto (-12), 3) := by decide +kernel
theorem dJ7_fill_53178_20 : decode cJ7_fill_53178 20 = .ok (.return_, 1) := by decide +kernel
end
section
theorem dX8_init_0 : decode cX8_init 0 = .ok (.aload_n 0, 1) := by decide +kernel
theorem dX8_init_1 : decode cX8_init 1 = .ok (.invokespecial 1, 3) := by decide +kernel
theorem dX8_init_4 : decode cX8_init 4 = .ok (.aload_n 0, 1) := by decide +kernel
theorem dX8_init_5 : decode cX8_init 5 = .ok (.iload_n 1, 1) := by decide +kernel
theorem dX8_init_6 : decode cX8_init 6 = .ok (.newarray .long, 2) := by decide +kernel
theorem dX8_init_8 : decode cX8_init 8 = .ok (.putfield 7, 3) := by decide +kernel
theorem dX8_init_11 : decode cX8_init 11 = .ok (.aload_n 0, 1) := by decide +kernel
theorem dX8_init_12 : decode cX8_init 12 = .ok (.iconst 0, 1) := by decide +kernel
theorem dX8_init_13 : decode cX8_init 13 = .ok (.putfield 13, 3) := by decide +kernel
theorem dX8_init_16 : decode cX8_init 16 = .ok (.aload_n 0, 1) := by decide +kernel
theorem dX8_init_17 : decode cX8_init 17 = .ok (.iconst 0, 1) := by decide +kernel
theorem dX8_init_18 : decode cX8_init 18 = .ok (.putfield 17, 3) := by decide +kernel
theorem dX8_init_21 : decode cX8_init 21 = .ok (.return_, 1) := by decide +kernel
set_option maxRecDepth 20000 in
theorem ggX8_clear_J7_fill_d0a16 : GoodIn wsX8_clear wsJ7_fill_d0a16 := goodIn_r _ [7] (by decide +kernel) (by decide +kernel)
set_option maxRecDepth 20000 in
theorem gX8_clear_J7_fill_d0a16 : GoodIn wsX8_clear (va_wsS RX8 20 yJ7_fill_d0a16 wsJ7_fill_d0a16) := goodIn_app (goodIn_of _ (by decide +kernel)) ggX8_clear_J7_fill_d0a16
theorem dX8_clear_0 : decode cX8_clear 0 = .ok (.aload_n 0, 1) := by decide +kernel
theorem dX8_clear_1 : decode cX8_clear 1 = .ok (.getfield 7, 3) := by decide +kernel
theorem dX8_clear_4 : decode cX8_clear 4 = .ok (.lconst 0, 1) := by decide +kernel
theorem dX8_clear_5 : decode cX8_clear 5 = .ok (.invokestatic 20, 3) := by decide +kernel
theorem dX8_clear_8 : decode cX8_clear 8 = .ok (.aload_n 0, 1) := by decide +kernel
theorem dX8_clear_9 : decode cX8_clear 9 = .ok (.iconst 0, 1) := by decide +kernel
theorem dX8_clear_10 : decode cX8_clear 10 = .ok (.putfield 13, 3) := by decide +kernel
theorem dX8_clear_13 : decode cX8_clear 13 = .ok (.aload_n 0, 1) := by decide +kernel
theorem dX8_clear_14 : decode cX8_clear 14 = .ok (.iconst 0, 1) := by decide +kernel
theorem dX8_clear_15 : decode cX8_clear 15 = .ok (.putfield 17, 3) := by decide +kernel
theorem dX8_clear_18 : decode cX8_clear 18 = .ok (.return_, 1) := by decide +kernel
set_option maxRecDepth 20000 in
theorem ggX8_put_X8_clear : GoodIn wsX8_put wsX8_clear := goodIn_r _ [6, 1, 7, 8, 9, 10, 11, 12, 31, 32, 33] (by decide +kernel) (by decide +kernel)
set_option maxRecDepth 20000 in
theorem gX8_put_X8_clear : GoodIn wsX8_put (wsV RX8 26 RX8 yX8_clear wsX8_clear) := goodIn_app (goodIn_of _ (by decide +kernel)) ggX8_put_X8_clear
set_option maxRecDepth 20000 in
theorem ggX8_put_X8_settle : GoodIn wsX8_put wsX8_settle := goodIn_r _ [16, 1, 17, 18, 19, 20, 21, 22, 23, 24, 5, 25, 26, 27, 28, 29, 30, 7, 8, 31, 32, 33] (by decide +kernel) (by decide +kernel)
set_option maxRecDepth 20000 in
theorem gX8_put_X8_settle : GoodIn wsX8_put (wsV RX8 29 RX8 yX8_settle wsX8_settle) := goodIn_app (goodIn_of _ (by decide +kernel)) ggX8_put_X8_settle
theorem dX8_put_0 : decode cX8_put 0 = .ok (.aload_n 0, 1) := by decide +kernel
theorem dX8_put_1 : decode cX8_put 1 = .ok (.invokevirtual 26, 3) := by decide +kernel
theorem dX8_put_4 : decode cX8_put 4 = .ok (.aload_n 0, 1) := by decide +kernel
theorem dX8_put_5 : decode cX8_put 5 = .ok (.getfield 7, 3) := by decide +kernel
theorem dX8_put_8 : decode cX8_put 8 = .ok (.iconst 0, 1) := by decide +kernel
theorem dX8_put_9 : decode cX8_put 9 = .ok (.lload_n 1, 1) := by decide +kernel
theorem dX8_put_10 : decode cX8_put 10 = .ok (.lastore, 1) := by decide +kernel
theorem dX8_put_11 : decode cX8_put 11 = .ok (.aload_n 0, 1) := by decide +kernel
theorem dX8_put_12 : decode cX8_put 12 = .ok (.invokevirtual 29, 3) := by decide +kernel
theorem dX8_put_15 : decode cX8_put 15 = .ok (.return_, 1) := by decide +kernel
set_option maxRecDepth 20000 in
theorem ggX8_copy_X8_clear : GoodIn wsX8_copy wsX8_clear := goodIn_r _ [16, 2, 1, 11, 17, 18, 19, 20, 21, 22, 23] (by decide +kernel) (by decide +kernel)
set_option maxRecDepth 20000 in
theorem gX8_copy_X8_clear : GoodIn wsX8_copy (wsV RX8 26 RX8 yX8_clear wsX8_clear) := goodIn_app (goodIn_of _ (by decide +kernel)) ggX8_copy_X8_clear
theorem dX8_copy_0 : decode cX8_copy 0 = .ok (.aload_n 0, 1) := by decide +kernel
theorem dX8_copy_1 : decode cX8_copy 1 = .ok (.invokevirtual 26, 3) := by decide +kernel
theorem dX8_copy_4 : decode cX8_copy 4 = .ok (.aload_n 0, 1) := by decide +kernel
theorem dX8_copy_5 : decode cX8_copy 5 = .ok (.aload_n 1, 1) := by decide +kernel
theorem dX8_copy_6 : decode cX8_copy 6 = .ok (.getfield 13, 3) := by decide +kernel
theorem dX8_copy_9 : decode cX8_copy 9 = .ok (.aload_n 0, 1) := by decide +kernel
theorem dX8_copy_10 : decode cX8_copy 10 = .ok (.getfield 7, 3) := by decide +kernel
theorem dX8_copy_13 : decode cX8_copy 13 = .ok (.arraylength, 1) := by decide +kernel
theorem dX8_copy_14 : decode cX8_copy 14 = .ok (.invokestatic 32, 3) := by decide +kernel
theorem dX8_copy_17 : decode cX8_copy 17 = .ok (.putfield 13, 3) := by decide +kernel
theorem dX8_copy_20 : decode cX8_copy 20 = .ok (.aload_n 1, 1) := by decide +kernel
theorem dX8_copy_21 : decode cX8_copy 21 = .ok (.getfield 7, 3) := by decide +kernel
theorem dX8_copy_24 : decode cX8_copy 24 = .ok (.iconst 0, 1) := by decide +kernel
theorem dX8_copy_25 : decode cX8_copy 25 = .ok (.aload_n 0, 1) := by decide +kernel
theorem dX8_copy_26 : decode cX8_copy 26 = .ok (.getfield 7, 3) := by decide +kernel
theorem dX8_copy_29 : decode cX8_copy 29 = .ok (.iconst 0, 1) := by decide +kernel
theorem dX8_copy_30 : decode cX8_copy 30 = .ok (.aload_n 0, 1) := by decide +kernel
theorem dX8_copy_31 : decode cX8_copy 31 = .ok (.getfield 13, 3) := by decide +kernel
theorem dX8_copy_34 : decode cX8_copy 34 = .ok (.invokestatic 38, 3) := by decide +kernel
theorem dX8_copy_37 : decode cX8_copy 37 = .ok (.aload_n 0, 1) := by decide +kernel
theorem dX8_copy_38 : decode cX8_copy 38 = .ok (.aload_n 1, 1) := by decide +kernel
theorem dX8_copy_39 : decode cX8_copy 39 = .ok (.getfield 17, 3) := by decide +kernel
theorem dX8_copy_42 : decode cX8_copy 42 = .ok (.putfield 17, 3) := by decide +kernel
theorem dX8_copy_45 : decode cX8_copy 45 = .ok (.return_, 1) := by decide +kernel
theorem dX8_add_0 : decode cX8_add 0 = .ok (.aload_n 1, 1) := by decide +kernel
theorem dX8_add_1 : decode cX8_add 1 = .ok (.getfield 13, 3) := by decide +kernel
theorem dX8_add_4 : decode cX8_add 4 = .ok (.aload_n 0, 1) := by decide +kernel
theorem dX8_add_5 : decode cX8_add 5 = .ok (.getfield 7, 3) := by decide +kernel
theorem dX8_add_8 : decode cX8_add 8 = .ok (.arraylength, 1) := by decide +kernel
theorem dX8_add_9 : decode cX8_add 9 = .ok (.invokestatic 32, 3) := by decide +kernel
theorem dX8_add_12 : decode cX8_add 12 = .ok (.istore 4, 2) := by decide +kernel
theorem dX8_add_14 : decode cX8_add 14 = .ok (.iconst 0, 1) := by decide +kernel
theorem dX8_add_15 : decode cX8_add 15 = .ok (.istore 5, 2) := by decide +kernel
theorem dX8_add_17 : decode cX8_add 17 = .ok (.iload 5, 2) := by decide +kernel
theorem dX8_add_19 : decode cX8_add 19 = .ok (.iload 4, 2) := by decide +kernel
theorem dX8_add_21 : decode cX8_add 21 = .ok (.if_icmp .ge 28, 3) := by decide +kernel
theorem dX8_add_24 : decode cX8_add 24 = .ok (.aload_n 0, 1) := by decide +kernel
theorem dX8_add_25 : decode cX8_add 25 = .ok (.getfield 7, 3) := by decide +kernel
theorem dX8_add_28 : decode cX8_add 28 = .ok (.iload 5, 2) := by decide +kernel
theorem dX8_add_30 : decode cX8_add 30 = .ok (.dup2, 1) := by decide +kernel
theorem dX8_add_31 : decode cX8_add 31 = .ok (.laload, 1) := by decide +kernel
theorem dX8_add_32 : decode cX8_add 32 = .ok (.lload_n 2, 1) := by decide +kernel
theorem dX8_add_33 : decode cX8_add 33 = .ok (.aload_n 1, 1) := by decide +kernel
theorem dX8_add_34 : decode cX8_add 34 = .ok (.getfield 7, 3) := by decide +kernel
theorem dX8_add_37 : decode cX8_add 37 = .ok (.iload 5, 2) := by decide +kernel
theorem dX8_add_39 : decode cX8_add 39 = .ok (.laload, 1) := by decide +kernel
theorem dX8_add_40 : decode cX8_add 40 = .ok (.lmul, 1) := by decide +kernel
theorem dX8_add_41 : decode cX8_add 41 = .ok (.ladd, 1) := by decide +kernel
theorem dX8_add_42 : decode cX8_add 42 = .ok (.lastore, 1) := by decide +kernel
theorem dX8_add_43 : decode cX8_add 43 = .ok (.iinc 5 1, 3) := by decide +kernel
theorem dX8_add_46 : decode cX8_add 46 = .ok (.goto (-29), 3) := by decide +kernel
theorem dX8_add_49 : decode cX8_add 49 = .ok (.return_, 1) := by decide +kernel
set_option maxRecDepth 20000 in
theorem ggX8_multiply_X8_settle : GoodIn wsX8_multiply wsX8_settle := goodIn_r _ [7, 2, 8, 9, 10, 11, 12, 13, 14, 15, 6, 16, 17, 18, 19, 20, 21, 1, 22, 23, 24, 25] (by decide +kernel) (by decide +kernel)
set_option maxRecDepth 20000 in
theorem gX8_multiply_X8_settle : GoodIn wsX8_multiply (wsV RX8 29 RX8 yX8_settle wsX8_settle) := goodIn_app (goodIn_of _ (by decide +kernel)) ggX8_multiply_X8_settle
theorem dX8_multiply_0 : decode cX8_multiply 0 = .ok (.iconst 0, 1) := by decide +kernel
theorem dX8_multiply_1 : decode cX8_multiply 1 = .ok (.istore_n 3, 1) := by decide +kernel
theorem dX8_multiply_2 : decode cX8_multiply 2 = .ok (.iload_n 3, 1) := by decide +kernel
theorem dX8_multiply_3 : decode cX8_multiply 3 = .ok (.aload_n 0, 1) := by decide +kernel
theorem dX8_multiply_4 : decode cX8_multiply 4 = .ok (.getfield 13, 3) := by decide +kernel
theorem dX8_multiply_7 : decode cX8_multiply 7 = .ok (.if_icmp .ge 19, 3) := by decide +kernel
theorem dX8_multiply_10 : decode cX8_multiply 10 = .ok (.aload_n 0, 1) := by decide +kernel
theorem dX8_multiply_11 : decode cX8_multiply 11 = .ok (.getfield 7, 3) := by decide +kernel
theorem dX8_multiply_14 : decode cX8_multiply 14 = .ok (.iload_n 3, 1) := by decide +kernel
theorem dX8_multiply_15 : decode cX8_multiply 15 = .ok (.dup2, 1) := by decide +kernel
theorem dX8_multiply_16 : decode cX8_multiply 16 = .ok (.laload, 1) := by decide +kernel
theorem dX8_multiply_17 : decode cX8_multiply 17 = .ok (.lload_n 1, 1) := by decide +kernel
theorem dX8_multiply_18 : decode cX8_multiply 18 = .ok (.lmul, 1) := by decide +kernel
theorem dX8_multiply_19 : decode cX8_multiply 19 = .ok (.lastore, 1) := by decide +kernel
theorem dX8_multiply_20 : decode cX8_multiply 20 = .ok (.iinc 3 1, 3) := by decide +kernel
theorem dX8_multiply_23 : decode cX8_multiply 23 = .ok (.goto (-21), 3) := by decide +kernel
theorem dX8_multiply_26 : decode cX8_multiply 26 = .ok (.aload_n 0, 1) := by decide +kernel
theorem dX8_multiply_27 : decode cX8_multiply 27 = .ok (.invokevirtual 29, 3) := by decide +kernel
theorem dX8_multiply_30 : decode cX8_multiply 30 = .ok (.return_, 1) := by decide +kernel
set_option maxRecDepth 20000 in
theorem ggX8_product_X8_clear : GoodIn wsX8_product wsX8_clear := goodIn_r _ [11, 2, 1, 12, 13, 14, 15, 16, 35, 36, 37] (by decide +kernel) (by decide +kernel)
set_option maxRecDepth 20000 in
theorem gX8_product_X8_clear : GoodIn wsX8_product (wsV RX8 26 RX8 yX8_clear wsX8_clear) := goodIn_app (goodIn_of _ (by decide +kernel)) ggX8_product_X8_clear
set_option maxRecDepth 20000 in
theorem ggX8_product_X8_settle : GoodIn wsX8_product wsX8_settle := goodIn_r _ [20, 2, 21, 22, 23, 24, 25, 26, 27, 28, 10, 29, 30, 31, 32, 33, 34, 1, 12, 35, 36, 37] (by decide +kernel) (by decide +kernel)
set_option maxRecDepth 20000 in
theorem gX8_product_X8_settle : GoodIn wsX8_product (wsV RX8 29 RX8 yX8_settle wsX8_settle) := goodIn_app (goodIn_of _ (by decide +kernel)) ggX8_product_X8_settle
theorem dX8_product_0 : decode cX8_product 0 = .ok (.aload_n 0, 1) := by decide +kernel
theorem dX8_product_1 : decode cX8_product 1 = .ok (.invokevirtual 26, 3) := by decide +kernel
theorem dX8_product_4 : decode cX8_product 4 = .ok (.iconst 0, 1) := by decide +kernel
theorem dX8_product_5 : decode cX8_product 5 = .ok (.istore_n 3, 1) := by decide +kernel
theorem dX8_product_6 : decode cX8_product 6 = .ok (.iload_n 3, 1) := by decide +kernel
theorem dX8_product_7 : decode cX8_product 7 = .ok (.aload_n 1, 1) := by decide +kernel
theorem dX8_product_8 : decode cX8_product 8 = .ok (.getfield 13, 3) := by decide +kernel
theorem dX8_product_11 : decode cX8_product 11 = .ok (.if_icmp .ge 67, 3) := by decide +kernel
theorem dX8_product_14 : decode cX8_product 14 = .ok (.aload_n 2, 1) := by decide +kernel
theorem dX8_product_15 : decode cX8_product 15 = .ok (.getfield 13, 3) := by decide +kernel
theorem dX8_product_18 : decode cX8_product 18 = .ok (.aload_n 0, 1) := by decide +kernel
theorem dX8_product_19 : decode cX8_product 19 = .ok (.getfield 7, 3) := by decide +kernel
theorem dX8_product_22 : decode cX8_product 22 = .ok (.arraylength, 1) := by decide +kernel
theorem dX8_product_23 : decode cX8_product 23 = .ok (.iload_n 3, 1) := by decide +kernel
theorem dX8_product_24 : decode cX8_product 24 = .ok (.isub, 1) := by decide +kernel
theorem dX8_product_25 : decode cX8_product 25 = .ok (.invokestatic 32, 3) := by decide +kernel
theorem dX8_product_28 : decode cX8_product 28 = .ok (.istore 4, 2) := by decide +kernel
theorem dX8_product_30 : decode cX8_product 30 = .ok (.iconst 0, 1) := by decide +kernel
theorem dX8_product_31 : decode cX8_product 31 = .ok (.istore 5, 2) := by decide +kernel
theorem dX8_product_33 : decode cX8_product 33 = .ok (.iload 5, 2) := by decide +kernel
theorem dX8_product_35 : decode cX8_product 35 = .ok (.iload 4, 2) := by decide +kernel
theorem dX8_product_37 : decode cX8_product 37 = .ok (.if_icmp .ge 35, 3) := by decide +kernel
theorem dX8_product_40 : decode cX8_product 40 = .ok (.aload_n 0, 1) := by decide +kernel
theorem dX8_product_41 : decode cX8_product 41 = .ok (.getfield 7, 3) := by decide +kernel
theorem dX8_product_44 : decode cX8_product 44 = .ok (.iload_n 3, 1) := by decide +kernel
theorem dX8_product_45 : decode cX8_product 45 = .ok (.iload 5, 2) := by decide +kernel
theorem dX8_product_47 : decode cX8_product 47 = .ok (.iadd, 1) := by decide +kernel
theorem dX8_product_48 : decode cX8_product 48 = .ok (.dup2, 1) := by decide +kernel
theorem dX8_product_49 : decode cX8_product 49 = .ok (.laload, 1) := by decide +kernel
theorem dX8_product_50 : decode cX8_product 50 = .ok (.aload_n 1, 1) := by decide +kernel
theorem dX8_product_51 : decode cX8_product 51 = .ok (.getfield 7, 3) := by decide +kernel
theorem dX8_product_54 : decode cX8_product 54 = .ok (.iload_n 3, 1) := by decide +kernel
theorem dX8_product_55 : decode cX8_product 55 = .ok (.laload, 1) := by decide +kernel
theorem dX8_product_56 : decode cX8_product 56 = .ok (.aload_n 2, 1) := by decide +kernel
theorem dX8_product_57 : decode cX8_product 57 = .ok (.getfield 7, 3) := by decide +kernel
theorem dX8_product_60 : decode cX8_product 60 = .ok (.iload 5, 2) := by decide +kernel
theorem dX8_product_62 : decode cX8_product 62 = .ok (.laload, 1) := by decide +kernel
theorem dX8_product_63 : decode cX8_product 63 = .ok (.lmul, 1) := by decide +kernel
theorem dX8_product_64 : decode cX8_product 64 = .ok (.ladd, 1) := by decide +kernel
theorem dX8_product_65 : decode cX8_product 65 = .ok (.lastore, 1) := by decide +kernel
theorem dX8_product_66 : decode cX8_product 66 = .ok (.iinc 5 1, 3) := by decide +kernel
theorem dX8_product_69 : decode cX8_product 69 = .ok (.goto (-36), 3) := by decide +kernel
theorem dX8_product_72 : decode cX8_product 72 = .ok (.iinc 3 1, 3) := by decide +kernel
theorem dX8_product_75 : decode cX8_product 75 = .ok (.goto (-69), 3) := by decide +kernel
theorem dX8_product_78 : decode cX8_product 78 = .ok (.aload_n 0, 1) := by decide +kernel
theorem dX8_product_79 : decode cX8_product 79 = .ok (.invokevirtual 29, 3) := by decide +kernel
theorem dX8_product_82 : decode cX8_product 82 = .ok (.return_, 1) := by decide +kernel
set_option maxRecDepth 20000 in
theorem ggX8_settle_J9_floorDiv_f86c9 : GoodIn wsX8_settle wsJ9_floorDiv_f86c9 := goodIn_r _ [6] (by decide +kernel) (by decide +kernel)
set_option maxRecDepth 20000 in
theorem gX8_settle_J9_floorDiv_f86c9 : GoodIn wsX8_settle (va_wsS RX8 46 yJ9_floorDiv_f86c9 wsJ9_floorDiv_f86c9) := goodIn_app (goodIn_of _ (by decide +kernel)) ggX8_settle_J9_floorDiv_f86c9
set_option maxRecDepth 20000 in
theorem ggX8_settle_X8_turnNegative : GoodIn wsX8_settle wsX8_turnNegative := goodIn_r _ [11, 1, 12, 2, 19, 20, 21] (by decide +kernel) (by decide +kernel)
set_option maxRecDepth 20000 in
theorem gX8_settle_X8_turnNegative : GoodIn wsX8_settle (wsV RX8 50 RX8 yX8_turnNegative wsX8_turnNegative) := goodIn_app (goodIn_of _ (by decide +kernel)) ggX8_settle_X8_turnNegative
set_option maxRecDepth 20000 in
theorem ggX8_settle_X8_measure : GoodIn wsX8_settle wsX8_measure := goodIn_r _ [16, 1, 17, 18, 19, 20, 21] (by decide +kernel) (by decide +kernel)
set_option maxRecDepth 20000 in
theorem gX8_settle_X8_measure : GoodIn wsX8_settle (wsV RX8 53 RX8 yX8_measure wsX8_measure) := goodIn_app (goodIn_of _ (by decide +kernel)) ggX8_settle_X8_measure
theorem dX8_settle_0 : decode cX8_settle 0 = .ok (.lconst 0, 1) := by decide +kernel
theorem dX8_settle_1 : decode cX8_settle 1 = .ok (.lstore_n 1, 1) := by decide +kernel
theorem dX8_settle_2 : decode cX8_settle 2 = .ok (.iconst 0, 1) := by decide +kernel
theorem dX8_settle_3 : decode cX8_settle 3 = .ok (.istore_n 3, 1) := by decide +kernel
theorem dX8_settle_4 : decode cX8_settle 4 = .ok (.iload_n 3, 1) := by decide +kernel
theorem dX8_settle_5 : decode cX8_settle 5 = .ok (.aload_n 0, 1) := by decide +kernel
theorem dX8_settle_6 : decode cX8_settle 6 = .ok (.getfield 7, 3) := by decide +kernel
theorem dX8_settle_9 : decode cX8_settle 9 = .ok (.arraylength, 1) := by decide +kernel
theorem dX8_settle_10 : decode cX8_settle 10 = .ok (.if_icmp .ge 42, 3) := by decide +kernel
theorem dX8_settle_13 : decode cX8_settle 13 = .ok (.aload_n 0, 1) := by decide +kernel
theorem dX8_settle_14 : decode cX8_settle 14 = .ok (.getfield 7, 3) := by decide +kernel
theorem dX8_settle_17 : decode cX8_settle 17 = .ok (.iload_n 3, 1) := by decide +kernel
theorem dX8_settle_18 : decode cX8_settle 18 = .ok (.laload, 1) := by decide +kernel
theorem dX8_settle_19 : decode cX8_settle 19 = .ok (.lload_n 1, 1) := by decide +kernel
theorem dX8_settle_20 : decode cX8_settle 20 = .ok (.ladd, 1) := by decide +kernel
theorem dX8_settle_21 : decode cX8_settle 21 = .ok (.lstore 4, 2) := by decide +kernel
theorem dX8_settle_23 : decode cX8_settle 23 = .ok (.lload 4, 2) := by decide +kernel
theorem dX8_settle_25 : decode cX8_settle 25 = .ok (.ldc2_w 44, 3) := by decide +kernel
theorem dX8_settle_28 : decode cX8_settle 28 = .ok (.invokestatic 46, 3) := by decide +kernel
theorem dX8_settle_31 : decode cX8_settle 31 = .ok (.lstore_n 1, 1) := by decide +kernel
theorem dX8_settle_32 : decode cX8_settle 32 = .ok (.aload_n 0, 1) := by decide +kernel
theorem dX8_settle_33 : decode cX8_settle 33 = .ok (.getfield 7, 3) := by decide +kernel
theorem dX8_settle_36 : decode cX8_settle 36 = .ok (.iload_n 3, 1) := by decide +kernel
theorem dX8_settle_37 : decode cX8_settle 37 = .ok (.lload 4, 2) := by decide +kernel
theorem dX8_settle_39 : decode cX8_settle 39 = .ok (.lload_n 1, 1) := by decide +kernel
theorem dX8_settle_40 : decode cX8_settle 40 = .ok (.ldc2_w 44, 3) := by decide +kernel
theorem dX8_settle_43 : decode cX8_settle 43 = .ok (.lmul, 1) := by decide +kernel
theorem dX8_settle_44 : decode cX8_settle 44 = .ok (.lsub, 1) := by decide +kernel
theorem dX8_settle_45 : decode cX8_settle 45 = .ok (.lastore, 1) := by decide +kernel
theorem dX8_settle_46 : decode cX8_settle 46 = .ok (.iinc 3 1, 3) := by decide +kernel
theorem dX8_settle_49 : decode cX8_settle 49 = .ok (.goto (-45), 3) := by decide +kernel
theorem dX8_settle_52 : decode cX8_settle 52 = .ok (.lload_n 1, 1) := by decide +kernel
theorem dX8_settle_53 : decode cX8_settle 53 = .ok (.lconst 0, 1) := by decide +kernel
theorem dX8_settle_54 : decode cX8_settle 54 = .ok (.lcmp, 1) := by decide +kernel
theorem dX8_settle_55 : decode cX8_settle 55 = .ok (.ifCond .ge 7, 3) := by decide +kernel
theorem dX8_settle_58 : decode cX8_settle 58 = .ok (.aload_n 0, 1) := by decide +kernel
theorem dX8_settle_59 : decode cX8_settle 59 = .ok (.invokevirtual 50, 3) := by decide +kernel
theorem dX8_settle_62 : decode cX8_settle 62 = .ok (.aload_n 0, 1) := by decide +kernel
theorem dX8_settle_63 : decode cX8_settle 63 = .ok (.invokevirtual 53, 3) := by decide +kernel
theorem dX8_settle_66 : decode cX8_settle 66 = .ok (.return_, 1) := by decide +kernel
theorem dX8_turnNegative_0 : decode cX8_turnNegative 0 = .ok (.iconst 0, 1) := by decide +kernel
theorem dX8_turnNegative_1 : decode cX8_turnNegative 1 = .ok (.istore_n 1, 1) := by decide +kernel
theorem dX8_turnNegative_2 : decode cX8_turnNegative 2 = .ok (.iconst 0, 1) := by decide +kernel
theorem dX8_turnNegative_3 : decode cX8_turnNegative 3 = .ok (.istore_n 2, 1) := by decide +kernel
theorem dX8_turnNegative_4 : decode cX8_turnNegative 4 = .ok (.iload_n 2, 1) := by decide +kernel
theorem dX8_turnNegative_5 : decode cX8_turnNegative 5 = .ok (.aload_n 0, 1) := by decide +kernel
theorem dX8_turnNegative_6 : decode cX8_turnNegative 6 = .ok (.getfield 7, 3) := by decide +kernel
theorem dX8_turnNegative_9 : decode cX8_turnNegative 9 = .ok (.arraylength, 1) := by decide +kernel
theorem dX8_turnNegative_10 : decode cX8_turnNegative 10 = .ok (.if_icmp .ge 53, 3) := by decide +kernel
theorem dX8_turnNegative_13 : decode cX8_turnNegative 13 = .ok (.iload_n 1, 1) := by decide +kernel
theorem dX8_turnNegative_14 : decode cX8_turnNegative 14 = .ok (.ifCond .eq 18, 3) := by decide +kernel
theorem dX8_turnNegative_17 : decode cX8_turnNegative 17 = .ok (.aload_n 0, 1) := by decide +kernel
theorem dX8_turnNegative_18 : decode cX8_turnNegative 18 = .ok (.getfield 7, 3) := by decide +kernel
theorem dX8_turnNegative_21 : decode cX8_turnNegative 21 = .ok (.iload_n 2, 1) := by decide +kernel
theorem dX8_turnNegative_22 : decode cX8_turnNegative 22 = .ok (.dup2, 1) := by decide +kernel
theorem dX8_turnNegative_23 : decode cX8_turnNegative 23 = .ok (.laload, 1) := by decide +kernel
theorem dX8_turnNegative_24 : decode cX8_turnNegative 24 = .ok (.ldc2_w 56, 3) := by decide +kernel
theorem dX8_turnNegative_27 : decode cX8_turnNegative 27 = .ok (.lsub, 1) := by decide +kernel
theorem dX8_turnNegative_28 : decode cX8_turnNegative 28 = .ok (.lastore, 1) := by decide +kernel
theorem dX8_turnNegative_29 : decode cX8_turnNegative 29 = .ok (.goto 28, 3) := by decide +kernel
theorem dX8_turnNegative_32 : decode cX8_turnNegative 32 = .ok (.aload_n 0, 1) := by decide +kernel
theorem dX8_turnNegative_33 : decode cX8_turnNegative 33 = .ok (.getfield 7, 3) := by decide +kernel
theorem dX8_turnNegative_36 : decode cX8_turnNegative 36 = .ok (.iload_n 2, 1) := by decide +kernel
theorem dX8_turnNegative_37 : decode cX8_turnNegative 37 = .ok (.laload, 1) := by decide +kernel
theorem dX8_turnNegative_38 : decode cX8_turnNegative 38 = .ok (.lconst 0, 1) := by decide +kernel
theorem dX8_turnNegative_39 : decode cX8_turnNegative 39 = .ok (.lcmp, 1) := by decide +kernel
theorem dX8_turnNegative_40 : decode cX8_turnNegative 40 = .ok (.ifCond .eq 17, 3) := by decide +kernel
theorem dX8_turnNegative_43 : decode cX8_turnNegative 43 = .ok (.aload_n 0, 1) := by decide +kernel
theorem dX8_turnNegative_44 : decode cX8_turnNegative 44 = .ok (.getfield 7, 3) := by decide +kernel
theorem dX8_turnNegative_47 : decode cX8_turnNegative 47 = .ok (.iload_n 2, 1) := by decide +kernel
theorem dX8_turnNegative_48 : decode cX8_turnNegative 48 = .ok (.dup2, 1) := by decide +kernel
theorem dX8_turnNegative_49 : decode cX8_turnNegative 49 = .ok (.laload, 1) := by decide +kernel
theorem dX8_turnNegative_50 : decode cX8_turnNegative 50 = .ok (.ldc2_w 44, 3) := by decide +kernel
theorem dX8_turnNegative_53 : decode cX8_turnNegative 53 = .ok (.lsub, 1) := by decide +kernel
theorem dX8_turnNegative_54 : decode cX8_turnNegative 54 = .ok (.lastore, 1) := by decide +kernel
theorem dX8_turnNegative_55 : decode cX8_turnNegative 55 = .ok (.iconst 1, 1) := by decide +kernel
theorem dX8_turnNegative_56 : decode cX8_turnNegative 56 = .ok (.istore_n 1, 1) := by decide +kernel
theorem dX8_turnNegative_57 : decode cX8_turnNegative 57 = .ok (.iinc 2 1, 3) := by decide +kernel
theorem dX8_turnNegative_60 : decode cX8_turnNegative 60 = .ok (.goto (-56), 3) := by decide +kernel
theorem dX8_turnNegative_63 : decode cX8_turnNegative 63 = .ok (.return_, 1) := by decide +kernel
theorem dX8_measure_0 : decode cX8_measure 0 = .ok (.aload_n 0, 1) := by decide +kernel
theorem dX8_measure_1 : decode cX8_measure 1 = .ok (.aload_n 0, 1) := by decide +kernel
theorem dX8_measure_2 : decode cX8_measure 2 = .ok (.getfield 7, 3) := by decide +kernel
theorem dX8_measure_5 : decode cX8_measure 5 = .ok (.arraylength, 1) := by decide +kernel
theorem dX8_measure_6 : decode cX8_measure 6 = .ok (.putfield 13, 3) := by decide +kernel
theorem dX8_measure_9 : decode cX8_measure 9 = .ok (.aload_n 0, 1) := by decide +kernel
theorem dX8_measure_10 : decode cX8_measure 10 = .ok (.getfield 13, 3) := by decide +kernel
theorem dX8_measure_13 : decode cX8_measure 13 = .ok (.ifCond .le 32, 3) := by decide +kernel
theorem dX8_measure_16 : decode cX8_measure 16 = .ok (.aload_n 0, 1) := by decide +kernel
theorem dX8_measure_17 : decode cX8_measure 17 = .ok (.getfield 7, 3) := by decide +kernel
theorem dX8_measure_20 : decode cX8_measure 20 = .ok (.aload_n 0, 1) := by decide +kernel
theorem dX8_measure_21 : decode cX8_measure 21 = .ok (.getfield 13, 3) := by decide +kernel
theorem dX8_measure_24 : decode cX8_measure 24 = .ok (.iconst 1, 1) := by decide +kernel
theorem dX8_measure_25 : decode cX8_measure 25 = .ok (.isub, 1) := by decide +kernel
theorem dX8_measure_26 : decode cX8_measure 26 = .ok (.laload, 1) := by decide +kernel
theorem dX8_measure_27 : decode cX8_measure 27 = .ok (.lconst 0, 1) := by decide +kernel
theorem dX8_measure_28 : decode cX8_measure 28 = .ok (.lcmp, 1) := by decide +kernel
theorem dX8_measure_29 : decode cX8_measure 29 = .ok (.ifCond .ne 16, 3) := by decide +kernel
theorem dX8_measure_32 : decode cX8_measure 32 = .ok (.aload_n 0, 1) := by decide +kernel
theorem dX8_measure_33 : decode cX8_measure 33 = .ok (.dup, 1) := by decide +kernel
theorem dX8_measure_34 : decode cX8_measure 34 = .ok (.getfield 13, 3) := by decide +kernel
theorem dX8_measure_37 : decode cX8_measure 37 = .ok (.iconst 1, 1) := by decide +kernel
theorem dX8_measure_38 : decode cX8_measure 38 = .ok (.isub, 1) := by decide +kernel
theorem dX8_measure_39 : decode cX8_measure 39 = .ok (.putfield 13, 3) := by decide +kernel
theorem dX8_measure_42 : decode cX8_measure 42 = .ok (.goto (-33), 3) := by decide +kernel
theorem dX8_measure_45 : decode cX8_measure 45 = .ok (.aload_n 0, 1) := by decide +kernel
theorem dX8_measure_46 : decode cX8_measure 46 = .ok (.aload_n 0, 1) := by decide +kernel
theorem dX8_measure_47 : decode cX8_measure 47 = .ok (.getfield 13, 3) := by decide +kernel
theorem dX8_measure_50 : decode cX8_measure 50 = .ok (.ifCond .ne 7, 3) := by decide +kernel
theorem dX8_measure_53 : decode cX8_measure 53 = .ok (.iconst 0, 1) := by decide +kernel
theorem dX8_measure_54 : decode cX8_measure 54 = .ok (.goto 24, 3) := by decide +kernel
theorem dX8_measure_57 : decode cX8_measure 57 = .ok (.aload_n 0, 1) := by decide +kernel
theorem dX8_measure_58 : decode cX8_measure 58 = .ok (.getfield 7, 3) := by decide +kernel
theorem dX8_measure_61 : decode cX8_measure 61 = .ok (.aload_n 0, 1) := by decide +kernel
theorem dX8_measure_62 : decode cX8_measure 62 = .ok (.getfield 13, 3) := by decide +kernel
theorem dX8_measure_65 : decode cX8_measure 65 = .ok (.iconst 1, 1) := by decide +kernel
theorem dX8_measure_66 : decode cX8_measure 66 = .ok (.isub, 1) := by decide +kernel
theorem dX8_measure_67 : decode cX8_measure 67 = .ok (.laload, 1) := by decide +kernel
theorem dX8_measure_68 : decode cX8_measure 68 = .ok (.lconst 0, 1) := by decide +kernel
theorem dX8_measure_69 : decode cX8_measure 69 = .ok (.lcmp, 1) := by decide +kernel
theorem dX8_measure_70 : decode cX8_measure 70 = .ok (.ifCond .ge 7, 3) := by decide +kernel
theorem dX8_measure_73 : decode cX8_measure 73 = .ok (.iconst (-1), 1) := by decide +kernel
theorem dX8_measure_74 : decode cX8_measure 74 = .ok (.goto 4, 3) := by decide +kernel
theorem dX8_measure_77 : decode cX8_measure 77 = .ok (.iconst 1, 1) := by decide +kernel
theorem dX8_measure_78 : decode cX8_measure 78 = .ok (.putfield 17, 3) := by decide +kernel
theorem dX8_measure_81 : decode cX8_measure 81 = .ok (.return_, 1) := by decide +kernel
theorem dX8_dropSign_0 : decode cX8_dropSign 0 = .ok (.aload_n 0, 1) := by decide +kernel
theorem dX8_dropSign_1 : decode cX8_dropSign 1 = .ok (.getfield 17, 3) := by decide +kernel
theorem dX8_dropSign_4 : decode cX8_dropSign 4 = .ok (.ifCond .ge 37, 3) := by decide +kernel
theorem dX8_dropSign_7 : decode cX8_dropSign 7 = .ok (.iconst 0, 1) := by decide +kernel
theorem dX8_dropSign_8 : decode cX8_dropSign 8 = .ok (.istore_n 1, 1) := by decide +kernel
theorem dX8_dropSign_9 : decode cX8_dropSign 9 = .ok (.iload_n 1, 1) := by decide +kernel
theorem dX8_dropSign_10 : decode cX8_dropSign 10 = .ok (.aload_n 0, 1) := by decide +kernel
theorem dX8_dropSign_11 : decode cX8_dropSign 11 = .ok (.getfield 13, 3) := by decide +kernel
theorem dX8_dropSign_14 : decode cX8_dropSign 14 = .ok (.if_icmp .ge 22, 3) := by decide +kernel
theorem dX8_dropSign_17 : decode cX8_dropSign 17 = .ok (.aload_n 0, 1) := by decide +kernel
theorem dX8_dropSign_18 : decode cX8_dropSign 18 = .ok (.getfield 7, 3) := by decide +kernel
theorem dX8_dropSign_21 : decode cX8_dropSign 21 = .ok (.iload_n 1, 1) := by decide +kernel
theorem dX8_dropSign_22 : decode cX8_dropSign 22 = .ok (.aload_n 0, 1) := by decide +kernel
theorem dX8_dropSign_23 : decode cX8_dropSign 23 = .ok (.getfield 7, 3) := by decide +kernel
theorem dX8_dropSign_26 : decode cX8_dropSign 26 = .ok (.iload_n 1, 1) := by decide +kernel
theorem dX8_dropSign_27 : decode cX8_dropSign 27 = .ok (.laload, 1) := by decide +kernel
theorem dX8_dropSign_28 : decode cX8_dropSign 28 = .ok (.lneg, 1) := by decide +kernel
theorem dX8_dropSign_29 : decode cX8_dropSign 29 = .ok (.lastore, 1) := by decide +kernel
theorem dX8_dropSign_30 : decode cX8_dropSign 30 = .ok (.iinc 1 1, 3) := by decide +kernel
theorem dX8_dropSign_33 : decode cX8_dropSign 33 = .ok (.goto (-24), 3) := by decide +kernel
theorem dX8_dropSign_36 : decode cX8_dropSign 36 = .ok (.aload_n 0, 1) := by decide +kernel
theorem dX8_dropSign_37 : decode cX8_dropSign 37 = .ok (.iconst 1, 1) := by decide +kernel
theorem dX8_dropSign_38 : decode cX8_dropSign 38 = .ok (.putfield 17, 3) := by decide +kernel
theorem dX8_dropSign_41 : decode cX8_dropSign 41 = .ok (.return_, 1) := by decide +kernel
set_option maxRecDepth 20000 in
theorem ggX8_compare_X8_limbAt : GoodIn wsX8_compare wsX8_limbAt := goodIn_r _ [10, 1, 11, 12, 13, 14] (by decide +kernel) (by decide +kernel)
set_option maxRecDepth 20000 in
theorem gX8_compare_X8_limbAt : GoodIn wsX8_compare (wsV RX8 61 RX8 yX8_limbAt wsX8_limbAt) := goodIn_app (goodIn_of _ (by decide +kernel)) ggX8_compare_X8_limbAt
theorem dX8_compare_0 : decode cX8_compare 0 = .ok (.aload_n 0, 1) := by decide +kernel
theorem dX8_compare_1 : decode cX8_compare 1 = .ok (.getfield 13, 3) := by decide +kernel
theorem dX8_compare_4 : decode cX8_compare 4 = .ok (.aload_n 1, 1) := by decide +kernel
theorem dX8_compare_5 : decode cX8_compare 5 = .ok (.getfield 13, 3) := by decide +kernel
theorem dX8_compare_8 : decode cX8_compare 8 = .ok (.invokestatic 58, 3) := by decide +kernel
theorem dX8_compare_11 : decode cX8_compare 11 = .ok (.iconst 1, 1) := by decide +kernel
theorem dX8_compare_12 : decode cX8_compare 12 = .ok (.isub, 1) := by decide +kernel
theorem dX8_compare_13 : decode cX8_compare 13 = .ok (.istore_n 2, 1) := by decide +kernel
theorem dX8_compare_14 : decode cX8_compare 14 = .ok (.iload_n 2, 1) := by decide +kernel
theorem dX8_compare_15 : decode cX8_compare 15 = .ok (.ifCond .lt 42, 3) := by decide +kernel
theorem dX8_compare_18 : decode cX8_compare 18 = .ok (.aload_n 0, 1) := by decide +kernel
theorem dX8_compare_19 : decode cX8_compare 19 = .ok (.iload_n 2, 1) := by decide +kernel
theorem dX8_compare_20 : decode cX8_compare 20 = .ok (.invokevirtual 61, 3) := by decide +kernel
theorem dX8_compare_23 : decode cX8_compare 23 = .ok (.lstore_n 3, 1) := by decide +kernel
theorem dX8_compare_24 : decode cX8_compare 24 = .ok (.aload_n 1, 1) := by decide +kernel
theorem dX8_compare_25 : decode cX8_compare 25 = .ok (.iload_n 2, 1) := by decide +kernel
theorem dX8_compare_26 : decode cX8_compare 26 = .ok (.invokevirtual 61, 3) := by decide +kernel
theorem dX8_compare_29 : decode cX8_compare 29 = .ok (.lstore 5, 2) := by decide +kernel
theorem dX8_compare_31 : decode cX8_compare 31 = .ok (.lload_n 3, 1) := by decide +kernel
theorem dX8_compare_32 : decode cX8_compare 32 = .ok (.lload 5, 2) := by decide +kernel
theorem dX8_compare_34 : decode cX8_compare 34 = .ok (.lcmp, 1) := by decide +kernel
theorem dX8_compare_35 : decode cX8_compare 35 = .ok (.ifCond .eq 16, 3) := by decide +kernel
theorem dX8_compare_38 : decode cX8_compare 38 = .ok (.lload_n 3, 1) := by decide +kernel
theorem dX8_compare_39 : decode cX8_compare 39 = .ok (.lload 5, 2) := by decide +kernel
theorem dX8_compare_41 : decode cX8_compare 41 = .ok (.lcmp, 1) := by decide +kernel
theorem dX8_compare_42 : decode cX8_compare 42 = .ok (.ifCond .ge 7, 3) := by decide +kernel
theorem dX8_compare_45 : decode cX8_compare 45 = .ok (.iconst (-1), 1) := by decide +kernel
theorem dX8_compare_46 : decode cX8_compare 46 = .ok (.goto 4, 3) := by decide +kernel
theorem dX8_compare_49 : decode cX8_compare 49 = .ok (.iconst 1, 1) := by decide +kernel
theorem dX8_compare_50 : decode cX8_compare 50 = .ok (.ireturn, 1) := by decide +kernel
theorem dX8_compare_51 : decode cX8_compare 51 = .ok (.iinc 2 (-1), 3) := by decide +kernel
theorem dX8_compare_54 : decode cX8_compare 54 = .ok (.goto (-40), 3) := by decide +kernel
theorem dX8_compare_57 : decode cX8_compare 57 = .ok (.iconst 0, 1) := by decide +kernel
theorem dX8_compare_58 : decode cX8_compare 58 = .ok (.ireturn, 1) := by decide +kernel
theorem dX8_limbAt_0 : decode cX8_limbAt 0 = .ok (.iload_n 1, 1) := by decide +kernel
theorem dX8_limbAt_1 : decode cX8_limbAt 1 = .ok (.ifCond .lt 20, 3) := by decide +kernel
theorem dX8_limbAt_4 : decode cX8_limbAt 4 = .ok (.iload_n 1, 1) := by decide +kernel
theorem dX8_limbAt_5 : decode cX8_limbAt 5 = .ok (.aload_n 0, 1) := by decide +kernel
theorem dX8_limbAt_6 : decode cX8_limbAt 6 = .ok (.getfield 13, 3) := by decide +kernel
theorem dX8_limbAt_9 : decode cX8_limbAt 9 = .ok (.if_icmp .ge 12, 3) := by decide +kernel
theorem dX8_limbAt_12 : decode cX8_limbAt 12 = .ok (.aload_n 0, 1) := by decide +kernel
theorem dX8_limbAt_13 : decode cX8_limbAt 13 = .ok (.getfield 7, 3) := by decide +kernel
theorem dX8_limbAt_16 : decode cX8_limbAt 16 = .ok (.iload_n 1, 1) := by decide +kernel
theorem dX8_limbAt_17 : decode cX8_limbAt 17 = .ok (.laload, 1) := by decide +kernel
theorem dX8_limbAt_18 : decode cX8_limbAt 18 = .ok (.goto 4, 3) := by decide +kernel
theorem dX8_limbAt_21 : decode cX8_limbAt 21 = .ok (.lconst 0, 1) := by decide +kernel
theorem dX8_limbAt_22 : decode cX8_limbAt 22 = .ok (.lreturn, 1) := by decide +kernel
set_option maxRecDepth 20000 in
theorem ggX8_divideSmall_X8_measure : GoodIn wsX8_divideSmall wsX8_measure := goodIn_r _ [8, 3, 1, 9, 10, 11, 12] (by decide +kernel) (by decide +kernel)
set_option maxRecDepth 20000 in
theorem gX8_divideSmall_X8_measure : GoodIn wsX8_divideSmall (wsV RX8 53 RX8 yX8_measure wsX8_measure) := goodIn_app (goodIn_of _ (by decide +kernel)) ggX8_divideSmall_X8_measure
theorem dX8_divideSmall_0 : decode cX8_divideSmall 0 = .ok (.iload_n 1, 1) := by decide +kernel
theorem dX8_divideSmall_1 : decode cX8_divideSmall 1 = .ok (.iconst 1, 1) := by decide +kernel
theorem dX8_divideSmall_2 : decode cX8_divideSmall 2 = .ok (.if_icmp .ge 4, 3) := by decide +kernel
theorem dX8_divideSmall_5 : decode cX8_divideSmall 5 = .ok (.return_, 1) := by decide +kernel
theorem dX8_divideSmall_6 : decode cX8_divideSmall 6 = .ok (.lconst 0, 1) := by decide +kernel
theorem dX8_divideSmall_7 : decode cX8_divideSmall 7 = .ok (.lstore_n 2, 1) := by decide +kernel
theorem dX8_divideSmall_8 : decode cX8_divideSmall 8 = .ok (.aload_n 0, 1) := by decide +kernel
theorem dX8_divideSmall_9 : decode cX8_divideSmall 9 = .ok (.getfield 13, 3) := by decide +kernel
theorem dX8_divideSmall_12 : decode cX8_divideSmall 12 = .ok (.iconst 1, 1) := by decide +kernel
theorem dX8_divideSmall_13 : decode cX8_divideSmall 13 = .ok (.isub, 1) := by decide +kernel
theorem dX8_divideSmall_14 : decode cX8_divideSmall 14 = .ok (.istore 4, 2) := by decide +kernel
theorem dX8_divideSmall_16 : decode cX8_divideSmall 16 = .ok (.iload 4, 2) := by decide +kernel
theorem dX8_divideSmall_18 : decode cX8_divideSmall 18 = .ok (.ifCond .lt 42, 3) := by decide +kernel
theorem dX8_divideSmall_21 : decode cX8_divideSmall 21 = .ok (.lload_n 2, 1) := by decide +kernel
theorem dX8_divideSmall_22 : decode cX8_divideSmall 22 = .ok (.ldc2_w 44, 3) := by decide +kernel
theorem dX8_divideSmall_25 : decode cX8_divideSmall 25 = .ok (.lmul, 1) := by decide +kernel
theorem dX8_divideSmall_26 : decode cX8_divideSmall 26 = .ok (.aload_n 0, 1) := by decide +kernel
theorem dX8_divideSmall_27 : decode cX8_divideSmall 27 = .ok (.getfield 7, 3) := by decide +kernel
theorem dX8_divideSmall_30 : decode cX8_divideSmall 30 = .ok (.iload 4, 2) := by decide +kernel
theorem dX8_divideSmall_32 : decode cX8_divideSmall 32 = .ok (.laload, 1) := by decide +kernel
theorem dX8_divideSmall_33 : decode cX8_divideSmall 33 = .ok (.ladd, 1) := by decide +kernel
theorem dX8_divideSmall_34 : decode cX8_divideSmall 34 = .ok (.lstore 5, 2) := by decide +kernel
theorem dX8_divideSmall_36 : decode cX8_divideSmall 36 = .ok (.aload_n 0, 1) := by decide +kernel
theorem dX8_divideSmall_37 : decode cX8_divideSmall 37 = .ok (.getfield 7, 3) := by decide +kernel
theorem dX8_divideSmall_40 : decode cX8_divideSmall 40 = .ok (.iload 4, 2) := by decide +kernel
theorem dX8_divideSmall_42 : decode cX8_divideSmall 42 = .ok (.lload 5, 2) := by decide +kernel
theorem dX8_divideSmall_44 : decode cX8_divideSmall 44 = .ok (.iload_n 1, 1) := by decide +kernel
theorem dX8_divideSmall_45 : decode cX8_divideSmall 45 = .ok (.i2l, 1) := by decide +kernel
theorem dX8_divideSmall_46 : decode cX8_divideSmall 46 = .ok (.ldiv, 1) := by decide +kernel
theorem dX8_divideSmall_47 : decode cX8_divideSmall 47 = .ok (.lastore, 1) := by decide +kernel
theorem dX8_divideSmall_48 : decode cX8_divideSmall 48 = .ok (.lload 5, 2) := by decide +kernel
theorem dX8_divideSmall_50 : decode cX8_divideSmall 50 = .ok (.iload_n 1, 1) := by decide +kernel
theorem dX8_divideSmall_51 : decode cX8_divideSmall 51 = .ok (.i2l, 1) := by decide +kernel
theorem dX8_divideSmall_52 : decode cX8_divideSmall 52 = .ok (.lrem, 1) := by decide +kernel
theorem dX8_divideSmall_53 : decode cX8_divideSmall 53 = .ok (.lstore_n 2, 1) := by decide +kernel
theorem dX8_divideSmall_54 : decode cX8_divideSmall 54 = .ok (.iinc 4 (-1), 3) := by decide +kernel
theorem dX8_divideSmall_57 : decode cX8_divideSmall 57 = .ok (.goto (-41), 3) := by decide +kernel
theorem dX8_divideSmall_60 : decode cX8_divideSmall 60 = .ok (.aload_n 0, 1) := by decide +kernel
theorem dX8_divideSmall_61 : decode cX8_divideSmall 61 = .ok (.invokevirtual 53, 3) := by decide +kernel
theorem dX8_divideSmall_64 : decode cX8_divideSmall 64 = .ok (.return_, 1) := by decide +kernel
set_option maxRecDepth 20000 in
theorem ggX8_divide_X8_clear : GoodIn wsX8_divide wsX8_clear := goodIn_r _ [11, 6, 1, 12, 13, 14, 15, 16, 42, 43, 44] (by decide +kernel) (by decide +kernel)
set_option maxRecDepth 20000 in
theorem gX8_divide_X8_clear : GoodIn wsX8_divide (wsV RX8 26 RX8 yX8_clear wsX8_clear) := goodIn_app (goodIn_of _ (by decide +kernel)) ggX8_divide_X8_clear
set_option maxRecDepth 20000 in
theorem ggX8_divide_X8_reaches : GoodIn wsX8_divide wsX8_reaches := goodIn_r _ [20, 1, 6, 42, 43, 44] (by decide +kernel) (by decide +kernel)
set_option maxRecDepth 20000 in
theorem gX8_divide_X8_reaches : GoodIn wsX8_divide (wsV RX8 65 RX8 yX8_reaches wsX8_reaches) := goodIn_app (goodIn_of _ (by decide +kernel)) ggX8_divide_X8_reaches
set_option maxRecDepth 20000 in
theorem ggX8_divide_X8_guess : GoodIn wsX8_divide wsX8_guess := goodIn_r _ [24, 1, 25, 26, 27, 28, 10, 29, 6, 42, 43, 44] (by decide +kernel) (by decide +kernel)
set_option maxRecDepth 20000 in
theorem gX8_divide_X8_guess : GoodIn wsX8_divide (wsV RX8 69 RX8 yX8_guess wsX8_guess) := goodIn_app (goodIn_of _ (by decide +kernel)) ggX8_divide_X8_guess
set_option maxRecDepth 20000 in
theorem ggX8_divide_X8_takeAway : GoodIn wsX8_divide wsX8_takeAway := goodIn_r _ [33, 1, 6, 25, 26, 27, 28, 10, 29, 34, 35, 36, 37, 38, 39, 40, 41, 12, 42, 43, 44] (by decide +kernel) (by decide +kernel)
set_option maxRecDepth 20000 in
theorem gX8_divide_X8_takeAway : GoodIn wsX8_divide (wsV RX8 75 RX8 yX8_takeAway wsX8_takeAway) := goodIn_app (goodIn_of _ (by decide +kernel)) ggX8_divide_X8_takeAway
set_option maxRecDepth 20000 in
theorem ggX8_divide_X8_measure : GoodIn wsX8_divide wsX8_measure := goodIn_r _ [41, 6, 1, 12, 42, 43, 44] (by decide +kernel) (by decide +kernel)
set_option maxRecDepth 20000 in
theorem gX8_divide_X8_measure : GoodIn wsX8_divide (wsV RX8 53 RX8 yX8_measure wsX8_measure) := goodIn_app (goodIn_of _ (by decide +kernel)) ggX8_divide_X8_measure
theorem dX8_divide_0 : decode cX8_divide 0 = .ok (.aload_n 2, 1) := by decide +kernel
theorem dX8_divide_1 : decode cX8_divide 1 = .ok (.invokevirtual 26, 3) := by decide +kernel
theorem dX8_divide_4 : decode cX8_divide 4 = .ok (.aload_n 1, 1) := by decide +kernel
theorem dX8_divide_5 : decode cX8_divide 5 = .ok (.getfield 13, 3) := by decide +kernel
theorem dX8_divide_8 : decode cX8_divide 8 = .ok (.ifCond .ne 4, 3) := by decide +kernel
theorem dX8_divide_11 : decode cX8_divide 11 = .ok (.return_, 1) := by decide +kernel
theorem dX8_divide_12 : decode cX8_divide 12 = .ok (.aload_n 0, 1) := by decide +kernel
theorem dX8_divide_13 : decode cX8_divide 13 = .ok (.getfield 13, 3) := by decide +kernel
theorem dX8_divide_16 : decode cX8_divide 16 = .ok (.aload_n 1, 1) := by decide +kernel
theorem dX8_divide_17 : decode cX8_divide 17 = .ok (.getfield 13, 3) := by decide +kernel
theorem dX8_divide_20 : decode cX8_divide 20 = .ok (.isub, 1) := by decide +kernel
theorem dX8_divide_21 : decode cX8_divide 21 = .ok (.istore_n 3, 1) := by decide +kernel
theorem dX8_divide_22 : decode cX8_divide 22 = .ok (.iload_n 3, 1) := by decide +kernel
theorem dX8_divide_23 : decode cX8_divide 23 = .ok (.ifCond .lt 65, 3) := by decide +kernel
theorem dX8_divide_26 : decode cX8_divide 26 = .ok (.iconst 0, 1) := by decide +kernel
theorem dX8_divide_27 : decode cX8_divide 27 = .ok (.istore 4, 2) := by decide +kernel
theorem dX8_divide_29 : decode cX8_divide 29 = .ok (.iload 4, 2) := by decide +kernel
theorem dX8_divide_31 : decode cX8_divide 31 = .ok (.bipush 8, 2) := by decide +kernel
theorem dX8_divide_33 : decode cX8_divide 33 = .ok (.if_icmp .ge 49, 3) := by decide +kernel
theorem dX8_divide_36 : decode cX8_divide 36 = .ok (.aload_n 0, 1) := by decide +kernel
theorem dX8_divide_37 : decode cX8_divide 37 = .ok (.aload_n 1, 1) := by decide +kernel
theorem dX8_divide_38 : decode cX8_divide 38 = .ok (.iload_n 3, 1) := by decide +kernel
theorem dX8_divide_39 : decode cX8_divide 39 = .ok (.invokevirtual 65, 3) := by decide +kernel
theorem dX8_divide_42 : decode cX8_divide 42 = .ok (.ifCond .eq 40, 3) := by decide +kernel
theorem dX8_divide_45 : decode cX8_divide 45 = .ok (.aload_n 0, 1) := by decide +kernel
theorem dX8_divide_46 : decode cX8_divide 46 = .ok (.aload_n 1, 1) := by decide +kernel
theorem dX8_divide_47 : decode cX8_divide 47 = .ok (.iload_n 3, 1) := by decide +kernel
theorem dX8_divide_48 : decode cX8_divide 48 = .ok (.invokevirtual 69, 3) := by decide +kernel
theorem dX8_divide_51 : decode cX8_divide 51 = .ok (.lconst 1, 1) := by decide +kernel
theorem dX8_divide_52 : decode cX8_divide 52 = .ok (.invokestatic 73, 3) := by decide +kernel
theorem dX8_divide_55 : decode cX8_divide 55 = .ok (.lstore 5, 2) := by decide +kernel
theorem dX8_divide_57 : decode cX8_divide 57 = .ok (.aload_n 0, 1) := by decide +kernel
theorem dX8_divide_58 : decode cX8_divide 58 = .ok (.aload_n 1, 1) := by decide +kernel
theorem dX8_divide_59 : decode cX8_divide 59 = .ok (.iload_n 3, 1) := by decide +kernel
theorem dX8_divide_60 : decode cX8_divide 60 = .ok (.lload 5, 2) := by decide +kernel
theorem dX8_divide_62 : decode cX8_divide 62 = .ok (.invokevirtual 75, 3) := by decide +kernel
theorem dX8_divide_65 : decode cX8_divide 65 = .ok (.aload_n 2, 1) := by decide +kernel
theorem dX8_divide_66 : decode cX8_divide 66 = .ok (.getfield 7, 3) := by decide +kernel
theorem dX8_divide_69 : decode cX8_divide 69 = .ok (.iload_n 3, 1) := by decide +kernel
theorem dX8_divide_70 : decode cX8_divide 70 = .ok (.dup2, 1) := by decide +kernel
theorem dX8_divide_71 : decode cX8_divide 71 = .ok (.laload, 1) := by decide +kernel
theorem dX8_divide_72 : decode cX8_divide 72 = .ok (.lload 5, 2) := by decide +kernel
theorem dX8_divide_74 : decode cX8_divide 74 = .ok (.ladd, 1) := by decide +kernel
theorem dX8_divide_75 : decode cX8_divide 75 = .ok (.lastore, 1) := by decide +kernel
theorem dX8_divide_76 : decode cX8_divide 76 = .ok (.iinc 4 1, 3) := by decide +kernel
theorem dX8_divide_79 : decode cX8_divide 79 = .ok (.goto (-50), 3) := by decide +kernel
theorem dX8_divide_82 : decode cX8_divide 82 = .ok (.iinc 3 (-1), 3) := by decide +kernel
theorem dX8_divide_85 : decode cX8_divide 85 = .ok (.goto (-63), 3) := by decide +kernel
theorem dX8_divide_88 : decode cX8_divide 88 = .ok (.aload_n 2, 1) := by decide +kernel
theorem dX8_divide_89 : decode cX8_divide 89 = .ok (.invokevirtual 53, 3) := by decide +kernel
theorem dX8_divide_92 : decode cX8_divide 92 = .ok (.return_, 1) := by decide +kernel
theorem dX8_reaches_0 : decode cX8_reaches 0 = .ok (.aload_n 0, 1) := by decide +kernel
theorem dX8_reaches_1 : decode cX8_reaches 1 = .ok (.getfield 13, 3) := by decide +kernel
theorem dX8_reaches_4 : decode cX8_reaches 4 = .ok (.aload_n 1, 1) := by decide +kernel
theorem dX8_reaches_5 : decode cX8_reaches 5 = .ok (.getfield 13, 3) := by decide +kernel
theorem dX8_reaches_8 : decode cX8_reaches 8 = .ok (.iload_n 2, 1) := by decide +kernel
theorem dX8_reaches_9 : decode cX8_reaches 9 = .ok (.iadd, 1) := by decide +kernel
theorem dX8_reaches_10 : decode cX8_reaches 10 = .ok (.if_icmp .eq 22, 3) := by decide +kernel
theorem dX8_reaches_13 : decode cX8_reaches 13 = .ok (.aload_n 0, 1) := by decide +kernel
theorem dX8_reaches_14 : decode cX8_reaches 14 = .ok (.getfield 13, 3) := by decide +kernel
theorem dX8_reaches_17 : decode cX8_reaches 17 = .ok (.aload_n 1, 1) := by decide +kernel
theorem dX8_reaches_18 : decode cX8_reaches 18 = .ok (.getfield 13, 3) := by decide +kernel
theorem dX8_reaches_21 : decode cX8_reaches 21 = .ok (.iload_n 2, 1) := by decide +kernel
theorem dX8_reaches_22 : decode cX8_reaches 22 = .ok (.iadd, 1) := by decide +kernel
theorem dX8_reaches_23 : decode cX8_reaches 23 = .ok (.if_icmp .le 7, 3) := by decide +kernel
theorem dX8_reaches_26 : decode cX8_reaches 26 = .ok (.iconst 1, 1) := by decide +kernel
theorem dX8_reaches_27 : decode cX8_reaches 27 = .ok (.goto 4, 3) := by decide +kernel
theorem dX8_reaches_30 : decode cX8_reaches 30 = .ok (.iconst 0, 1) := by decide +kernel
theorem dX8_reaches_31 : decode cX8_reaches 31 = .ok (.ireturn, 1) := by decide +kernel
theorem dX8_reaches_32 : decode cX8_reaches 32 = .ok (.aload_n 1, 1) := by decide +kernel
theorem dX8_reaches_33 : decode cX8_reaches 33 = .ok (.getfield 13, 3) := by decide +kernel
theorem dX8_reaches_36 : decode cX8_reaches 36 = .ok (.iconst 1, 1) := by decide +kernel
theorem dX8_reaches_37 : decode cX8_reaches 37 = .ok (.isub, 1) := by decide +kernel
theorem dX8_reaches_38 : decode cX8_reaches 38 = .ok (.istore_n 3, 1) := by decide +kernel
theorem dX8_reaches_39 : decode cX8_reaches 39 = .ok (.iload_n 3, 1) := by decide +kernel
theorem dX8_reaches_40 : decode cX8_reaches 40 = .ok (.ifCond .lt 51, 3) := by decide +kernel
theorem dX8_reaches_43 : decode cX8_reaches 43 = .ok (.aload_n 0, 1) := by decide +kernel
theorem dX8_reaches_44 : decode cX8_reaches 44 = .ok (.getfield 7, 3) := by decide +kernel
theorem dX8_reaches_47 : decode cX8_reaches 47 = .ok (.iload_n 3, 1) := by decide +kernel
theorem dX8_reaches_48 : decode cX8_reaches 48 = .ok (.iload_n 2, 1) := by decide +kernel
theorem dX8_reaches_49 : decode cX8_reaches 49 = .ok (.iadd, 1) := by decide +kernel
theorem dX8_reaches_50 : decode cX8_reaches 50 = .ok (.laload, 1) := by decide +kernel
theorem dX8_reaches_51 : decode cX8_reaches 51 = .ok (.aload_n 1, 1) := by decide +kernel
theorem dX8_reaches_52 : decode cX8_reaches 52 = .ok (.getfield 7, 3) := by decide +kernel
theorem dX8_reaches_55 : decode cX8_reaches 55 = .ok (.iload_n 3, 1) := by decide +kernel
theorem dX8_reaches_56 : decode cX8_reaches 56 = .ok (.laload, 1) := by decide +kernel
theorem dX8_reaches_57 : decode cX8_reaches 57 = .ok (.lcmp, 1) := by decide +kernel
theorem dX8_reaches_58 : decode cX8_reaches 58 = .ok (.ifCond .eq 27, 3) := by decide +kernel
theorem dX8_reaches_61 : decode cX8_reaches 61 = .ok (.aload_n 0, 1) := by decide +kernel
theorem dX8_reaches_62 : decode cX8_reaches 62 = .ok (.getfield 7, 3) := by decide +kernel
theorem dX8_reaches_65 : decode cX8_reaches 65 = .ok (.iload_n 3, 1) := by decide +kernel
theorem dX8_reaches_66 : decode cX8_reaches 66 = .ok (.iload_n 2, 1) := by decide +kernel
theorem dX8_reaches_67 : decode cX8_reaches 67 = .ok (.iadd, 1) := by decide +kernel
theorem dX8_reaches_68 : decode cX8_reaches 68 = .ok (.laload, 1) := by decide +kernel
theorem dX8_reaches_69 : decode cX8_reaches 69 = .ok (.aload_n 1, 1) := by decide +kernel
theorem dX8_reaches_70 : decode cX8_reaches 70 = .ok (.getfield 7, 3) := by decide +kernel
theorem dX8_reaches_73 : decode cX8_reaches 73 = .ok (.iload_n 3, 1) := by decide +kernel
theorem dX8_reaches_74 : decode cX8_reaches 74 = .ok (.laload, 1) := by decide +kernel
theorem dX8_reaches_75 : decode cX8_reaches 75 = .ok (.lcmp, 1) := by decide +kernel
theorem dX8_reaches_76 : decode cX8_reaches 76 = .ok (.ifCond .le 7, 3) := by decide +kernel
theorem dX8_reaches_79 : decode cX8_reaches 79 = .ok (.iconst 1, 1) := by decide +kernel
theorem dX8_reaches_80 : decode cX8_reaches 80 = .ok (.goto 4, 3) := by decide +kernel
theorem dX8_reaches_83 : decode cX8_reaches 83 = .ok (.iconst 0, 1) := by decide +kernel
theorem dX8_reaches_84 : decode cX8_reaches 84 = .ok (.ireturn, 1) := by decide +kernel
theorem dX8_reaches_85 : decode cX8_reaches 85 = .ok (.iinc 3 (-1), 3) := by decide +kernel
theorem dX8_reaches_88 : decode cX8_reaches 88 = .ok (.goto (-49), 3) := by decide +kernel
theorem dX8_reaches_91 : decode cX8_reaches 91 = .ok (.iconst 1, 1) := by decide +kernel
theorem dX8_reaches_92 : decode cX8_reaches 92 = .ok (.ireturn, 1) := by decide +kernel
set_option maxRecDepth 20000 in
theorem ggX8_guess_X8_limbAt : GoodIn wsX8_guess wsX8_limbAt := goodIn_r _ [7, 1, 8, 9, 10, 11] (by decide +kernel) (by decide +kernel)
set_option maxRecDepth 20000 in
theorem gX8_guess_X8_limbAt : GoodIn wsX8_guess (wsV RX8 61 RX8 yX8_limbAt wsX8_limbAt) := goodIn_app (goodIn_of _ (by decide +kernel)) ggX8_guess_X8_limbAt
theorem dX8_guess_0 : decode cX8_guess 0 = .ok (.aload_n 1, 1) := by decide +kernel
theorem dX8_guess_1 : decode cX8_guess 1 = .ok (.getfield 13, 3) := by decide +kernel
theorem dX8_guess_4 : decode cX8_guess 4 = .ok (.iload_n 2, 1) := by decide +kernel
theorem dX8_guess_5 : decode cX8_guess 5 = .ok (.iadd, 1) := by decide +kernel
theorem dX8_guess_6 : decode cX8_guess 6 = .ok (.istore_n 3, 1) := by decide +kernel
theorem dX8_guess_7 : decode cX8_guess 7 = .ok (.aload_n 0, 1) := by decide +kernel
theorem dX8_guess_8 : decode cX8_guess 8 = .ok (.iload_n 3, 1) := by decide +kernel
theorem dX8_guess_9 : decode cX8_guess 9 = .ok (.invokevirtual 61, 3) := by decide +kernel
theorem dX8_guess_12 : decode cX8_guess 12 = .ok (.ldc2_w 44, 3) := by decide +kernel
theorem dX8_guess_15 : decode cX8_guess 15 = .ok (.lmul, 1) := by decide +kernel
theorem dX8_guess_16 : decode cX8_guess 16 = .ok (.aload_n 0, 1) := by decide +kernel
theorem dX8_guess_17 : decode cX8_guess 17 = .ok (.iload_n 3, 1) := by decide +kernel
theorem dX8_guess_18 : decode cX8_guess 18 = .ok (.iconst 1, 1) := by decide +kernel
theorem dX8_guess_19 : decode cX8_guess 19 = .ok (.isub, 1) := by decide +kernel
theorem dX8_guess_20 : decode cX8_guess 20 = .ok (.invokevirtual 61, 3) := by decide +kernel
theorem dX8_guess_23 : decode cX8_guess 23 = .ok (.ladd, 1) := by decide +kernel
theorem dX8_guess_24 : decode cX8_guess 24 = .ok (.ldc2_w 44, 3) := by decide +kernel
theorem dX8_guess_27 : decode cX8_guess 27 = .ok (.lmul, 1) := by decide +kernel
theorem dX8_guess_28 : decode cX8_guess 28 = .ok (.aload_n 0, 1) := by decide +kernel
theorem dX8_guess_29 : decode cX8_guess 29 = .ok (.iload_n 3, 1) := by decide +kernel
theorem dX8_guess_30 : decode cX8_guess 30 = .ok (.iconst 2, 1) := by decide +kernel
theorem dX8_guess_31 : decode cX8_guess 31 = .ok (.isub, 1) := by decide +kernel
theorem dX8_guess_32 : decode cX8_guess 32 = .ok (.invokevirtual 61, 3) := by decide +kernel
theorem dX8_guess_35 : decode cX8_guess 35 = .ok (.ladd, 1) := by decide +kernel
theorem dX8_guess_36 : decode cX8_guess 36 = .ok (.lstore 4, 2) := by decide +kernel
theorem dX8_guess_38 : decode cX8_guess 38 = .ok (.aload_n 1, 1) := by decide +kernel
theorem dX8_guess_39 : decode cX8_guess 39 = .ok (.aload_n 1, 1) := by decide +kernel
theorem dX8_guess_40 : decode cX8_guess 40 = .ok (.getfield 13, 3) := by decide +kernel
theorem dX8_guess_43 : decode cX8_guess 43 = .ok (.iconst 1, 1) := by decide +kernel
theorem dX8_guess_44 : decode cX8_guess 44 = .ok (.isub, 1) := by decide +kernel
theorem dX8_guess_45 : decode cX8_guess 45 = .ok (.invokevirtual 61, 3) := by decide +kernel
theorem dX8_guess_48 : decode cX8_guess 48 = .ok (.ldc2_w 44, 3) := by decide +kernel
theorem dX8_guess_51 : decode cX8_guess 51 = .ok (.lmul, 1) := by decide +kernel
theorem dX8_guess_52 : decode cX8_guess 52 = .ok (.aload_n 1, 1) := by decide +kernel
theorem dX8_guess_53 : decode cX8_guess 53 = .ok (.aload_n 1, 1) := by decide +kernel
theorem dX8_guess_54 : decode cX8_guess 54 = .ok (.getfield 13, 3) := by decide +kernel
theorem dX8_guess_57 : decode cX8_guess 57 = .ok (.iconst 2, 1) := by decide +kernel
theorem dX8_guess_58 : decode cX8_guess 58 = .ok (.isub, 1) := by decide +kernel
theorem dX8_guess_59 : decode cX8_guess 59 = .ok (.invokevirtual 61, 3) := by decide +kernel
theorem dX8_guess_62 : decode cX8_guess 62 = .ok (.ladd, 1) := by decide +kernel
theorem dX8_guess_63 : decode cX8_guess 63 = .ok (.lconst 1, 1) := by decide +kernel
theorem dX8_guess_64 : decode cX8_guess 64 = .ok (.ladd, 1) := by decide +kernel
theorem dX8_guess_65 : decode cX8_guess 65 = .ok (.lstore 6, 2) := by decide +kernel
theorem dX8_guess_67 : decode cX8_guess 67 = .ok (.lload 6, 2) := by decide +kernel
theorem dX8_guess_69 : decode cX8_guess 69 = .ok (.lconst 0, 1) := by decide +kernel
theorem dX8_guess_70 : decode cX8_guess 70 = .ok (.lcmp, 1) := by decide +kernel
theorem dX8_guess_71 : decode cX8_guess 71 = .ok (.ifCond .le 11, 3) := by decide +kernel
theorem dX8_guess_74 : decode cX8_guess 74 = .ok (.lload 4, 2) := by decide +kernel
theorem dX8_guess_76 : decode cX8_guess 76 = .ok (.lload 6, 2) := by decide +kernel
theorem dX8_guess_78 : decode cX8_guess 78 = .ok (.ldiv, 1) := by decide +kernel
theorem dX8_guess_79 : decode cX8_guess 79 = .ok (.goto 4, 3) := by decide +kernel
theorem dX8_guess_82 : decode cX8_guess 82 = .ok (.lconst 0, 1) := by decide +kernel
theorem dX8_guess_83 : decode cX8_guess 83 = .ok (.lreturn, 1) := by decide +kernel
set_option maxRecDepth 20000 in
theorem ggX8_takeAway_X8_limbAt : GoodIn wsX8_takeAway wsX8_limbAt := goodIn_r _ [8, 1, 2, 18, 19, 20] (by decide +kernel) (by decide +kernel)
set_option maxRecDepth 20000 in
theorem gX8_takeAway_X8_limbAt : GoodIn wsX8_takeAway (wsV RX8 61 RX8 yX8_limbAt wsX8_limbAt) := goodIn_app (goodIn_of _ (by decide +kernel)) ggX8_takeAway_X8_limbAt
set_option maxRecDepth 20000 in
theorem ggX8_takeAway_J9_floorDiv_f86c9 : GoodIn wsX8_takeAway wsJ9_floorDiv_f86c9 := goodIn_r _ [12] (by decide +kernel) (by decide +kernel)
set_option maxRecDepth 20000 in
theorem gX8_takeAway_J9_floorDiv_f86c9 : GoodIn wsX8_takeAway (va_wsS RX8 46 yJ9_floorDiv_f86c9 wsJ9_floorDiv_f86c9) := goodIn_app (goodIn_of _ (by decide +kernel)) ggX8_takeAway_J9_floorDiv_f86c9
set_option maxRecDepth 20000 in
theorem ggX8_takeAway_X8_measure : GoodIn wsX8_takeAway wsX8_measure := goodIn_r _ [16, 2, 1, 17, 18, 19, 20] (by decide +kernel) (by decide +kernel)
set_option maxRecDepth 20000 in
theorem gX8_takeAway_X8_measure : GoodIn wsX8_takeAway (wsV RX8 53 RX8 yX8_measure wsX8_measure) := goodIn_app (goodIn_of _ (by decide +kernel)) ggX8_takeAway_X8_measure
theorem dX8_takeAway_0 : decode cX8_takeAway 0 = .ok (.lconst 0, 1) := by decide +kernel
theorem dX8_takeAway_1 : decode cX8_takeAway 1 = .ok (.lstore 5, 2) := by decide +kernel
theorem dX8_takeAway_3 : decode cX8_takeAway 3 = .ok (.iload_n 2, 1) := by decide +kernel
theorem dX8_takeAway_4 : decode cX8_takeAway 4 = .ok (.istore 7, 2) := by decide +kernel
theorem dX8_takeAway_6 : decode cX8_takeAway 6 = .ok (.iload 7, 2) := by decide +kernel
theorem dX8_takeAway_8 : decode cX8_takeAway 8 = .ok (.aload_n 0, 1) := by decide +kernel
theorem dX8_takeAway_9 : decode cX8_takeAway 9 = .ok (.getfield 13, 3) := by decide +kernel
theorem dX8_takeAway_12 : decode cX8_takeAway 12 = .ok (.if_icmp .ge 58, 3) := by decide +kernel
theorem dX8_takeAway_15 : decode cX8_takeAway 15 = .ok (.aload_n 0, 1) := by decide +kernel
theorem dX8_takeAway_16 : decode cX8_takeAway 16 = .ok (.getfield 7, 3) := by decide +kernel
theorem dX8_takeAway_19 : decode cX8_takeAway 19 = .ok (.iload 7, 2) := by decide +kernel
theorem dX8_takeAway_21 : decode cX8_takeAway 21 = .ok (.laload, 1) := by decide +kernel
theorem dX8_takeAway_22 : decode cX8_takeAway 22 = .ok (.lload 5, 2) := by decide +kernel
theorem dX8_takeAway_24 : decode cX8_takeAway 24 = .ok (.ladd, 1) := by decide +kernel
theorem dX8_takeAway_25 : decode cX8_takeAway 25 = .ok (.lload_n 3, 1) := by decide +kernel
theorem dX8_takeAway_26 : decode cX8_takeAway 26 = .ok (.aload_n 1, 1) := by decide +kernel
theorem dX8_takeAway_27 : decode cX8_takeAway 27 = .ok (.iload 7, 2) := by decide +kernel
theorem dX8_takeAway_29 : decode cX8_takeAway 29 = .ok (.iload_n 2, 1) := by decide +kernel
theorem dX8_takeAway_30 : decode cX8_takeAway 30 = .ok (.isub, 1) := by decide +kernel
theorem dX8_takeAway_31 : decode cX8_takeAway 31 = .ok (.invokevirtual 61, 3) := by decide +kernel
theorem dX8_takeAway_34 : decode cX8_takeAway 34 = .ok (.lmul, 1) := by decide +kernel
theorem dX8_takeAway_35 : decode cX8_takeAway 35 = .ok (.lsub, 1) := by decide +kernel
theorem dX8_takeAway_36 : decode cX8_takeAway 36 = .ok (.lstore 8, 2) := by decide +kernel
theorem dX8_takeAway_38 : decode cX8_takeAway 38 = .ok (.lload 8, 2) := by decide +kernel
theorem dX8_takeAway_40 : decode cX8_takeAway 40 = .ok (.ldc2_w 44, 3) := by decide +kernel
theorem dX8_takeAway_43 : decode cX8_takeAway 43 = .ok (.invokestatic 46, 3) := by decide +kernel
theorem dX8_takeAway_46 : decode cX8_takeAway 46 = .ok (.lstore 5, 2) := by decide +kernel
theorem dX8_takeAway_48 : decode cX8_takeAway 48 = .ok (.aload_n 0, 1) := by decide +kernel
theorem dX8_takeAway_49 : decode cX8_takeAway 49 = .ok (.getfield 7, 3) := by decide +kernel
theorem dX8_takeAway_52 : decode cX8_takeAway 52 = .ok (.iload 7, 2) := by decide +kernel
theorem dX8_takeAway_54 : decode cX8_takeAway 54 = .ok (.lload 8, 2) := by decide +kernel
theorem dX8_takeAway_56 : decode cX8_takeAway 56 = .ok (.lload 5, 2) := by decide +kernel
theorem dX8_takeAway_58 : decode cX8_takeAway 58 = .ok (.ldc2_w 44, 3) := by decide +kernel
theorem dX8_takeAway_61 : decode cX8_takeAway 61 = .ok (.lmul, 1) := by decide +kernel
theorem dX8_takeAway_62 : decode cX8_takeAway 62 = .ok (.lsub, 1) := by decide +kernel
theorem dX8_takeAway_63 : decode cX8_takeAway 63 = .ok (.lastore, 1) := by decide +kernel
theorem dX8_takeAway_64 : decode cX8_takeAway 64 = .ok (.iinc 7 1, 3) := by decide +kernel
theorem dX8_takeAway_67 : decode cX8_takeAway 67 = .ok (.goto (-61), 3) := by decide +kernel
theorem dX8_takeAway_70 : decode cX8_takeAway 70 = .ok (.aload_n 0, 1) := by decide +kernel
theorem dX8_takeAway_71 : decode cX8_takeAway 71 = .ok (.invokevirtual 53, 3) := by decide +kernel
theorem dX8_takeAway_74 : decode cX8_takeAway 74 = .ok (.return_, 1) := by decide +kernel
set_option maxRecDepth 20000 in
theorem ggX8_eighteen_X8_limbAt : GoodIn wsX8_eighteen wsX8_limbAt := goodIn_r _ [7, 8, 1, 9, 10, 11] (by decide +kernel) (by decide +kernel)
set_option maxRecDepth 20000 in
theorem gX8_eighteen_X8_limbAt : GoodIn wsX8_eighteen (wsV RX8 61 RX8 yX8_limbAt wsX8_limbAt) := goodIn_app (goodIn_of _ (by decide +kernel)) ggX8_eighteen_X8_limbAt
theorem dX8_eighteen_0 : decode cX8_eighteen 0 = .ok (.iload_n 1, 1) := by decide +kernel
theorem dX8_eighteen_1 : decode cX8_eighteen 1 = .ok (.ifCond .lt 14, 3) := by decide +kernel
theorem dX8_eighteen_4 : decode cX8_eighteen 4 = .ok (.iload_n 1, 1) := by decide +kernel
theorem dX8_eighteen_5 : decode cX8_eighteen 5 = .ok (.aload_n 0, 1) := by decide +kernel
theorem dX8_eighteen_6 : decode cX8_eighteen 6 = .ok (.getfield 7, 3) := by decide +kernel
theorem dX8_eighteen_9 : decode cX8_eighteen 9 = .ok (.arraylength, 1) := by decide +kernel
theorem dX8_eighteen_10 : decode cX8_eighteen 10 = .ok (.iconst 3, 1) := by decide +kernel
theorem dX8_eighteen_11 : decode cX8_eighteen 11 = .ok (.idiv, 1) := by decide +kernel
theorem dX8_eighteen_12 : decode cX8_eighteen 12 = .ok (.if_icmp .le 5, 3) := by decide +kernel
theorem dX8_eighteen_15 : decode cX8_eighteen 15 = .ok (.lconst 0, 1) := by decide +kernel
theorem dX8_eighteen_16 : decode cX8_eighteen 16 = .ok (.lreturn, 1) := by decide +kernel
theorem dX8_eighteen_17 : decode cX8_eighteen 17 = .ok (.lconst 0, 1) := by decide +kernel
theorem dX8_eighteen_18 : decode cX8_eighteen 18 = .ok (.lstore_n 2, 1) := by decide +kernel
theorem dX8_eighteen_19 : decode cX8_eighteen 19 = .ok (.iconst 2, 1) := by decide +kernel
theorem dX8_eighteen_20 : decode cX8_eighteen 20 = .ok (.istore 4, 2) := by decide +kernel
theorem dX8_eighteen_22 : decode cX8_eighteen 22 = .ok (.iload 4, 2) := by decide +kernel
theorem dX8_eighteen_24 : decode cX8_eighteen 24 = .ok (.ifCond .lt 26, 3) := by decide +kernel
theorem dX8_eighteen_27 : decode cX8_eighteen 27 = .ok (.lload_n 2, 1) := by decide +kernel
theorem dX8_eighteen_28 : decode cX8_eighteen 28 = .ok (.ldc2_w 44, 3) := by decide +kernel
theorem dX8_eighteen_31 : decode cX8_eighteen 31 = .ok (.lmul, 1) := by decide +kernel
theorem dX8_eighteen_32 : decode cX8_eighteen 32 = .ok (.aload_n 0, 1) := by decide +kernel
theorem dX8_eighteen_33 : decode cX8_eighteen 33 = .ok (.iload_n 1, 1) := by decide +kernel
theorem dX8_eighteen_34 : decode cX8_eighteen 34 = .ok (.iconst 3, 1) := by decide +kernel
theorem dX8_eighteen_35 : decode cX8_eighteen 35 = .ok (.imul, 1) := by decide +kernel
theorem dX8_eighteen_36 : decode cX8_eighteen 36 = .ok (.iload 4, 2) := by decide +kernel
theorem dX8_eighteen_38 : decode cX8_eighteen 38 = .ok (.iadd, 1) := by decide +kernel
theorem dX8_eighteen_39 : decode cX8_eighteen 39 = .ok (.invokevirtual 61, 3) := by decide +kernel
theorem dX8_eighteen_42 : decode cX8_eighteen 42 = .ok (.ladd, 1) := by decide +kernel
theorem dX8_eighteen_43 : decode cX8_eighteen 43 = .ok (.lstore_n 2, 1) := by decide +kernel
theorem dX8_eighteen_44 : decode cX8_eighteen 44 = .ok (.iinc 4 (-1), 3) := by decide +kernel
theorem dX8_eighteen_47 : decode cX8_eighteen 47 = .ok (.goto (-25), 3) := by decide +kernel
theorem dX8_eighteen_50 : decode cX8_eighteen 50 = .ok (.lload_n 2, 1) := by decide +kernel
theorem dX8_eighteen_51 : decode cX8_eighteen 51 = .ok (.lreturn, 1) := by decide +kernel
end
section
theorem dX0_init_0 : decode cX0_init 0 = .ok (.aload_n 0, 1) := by decide +kernel
theorem dX0_init_1 : decode cX0_init 1 = .ok (.invokespecial 3, 3) := by decide +kernel
theorem dX0_init_4 : decode cX0_init 4 = .ok (.aload_n 0, 1) := by decide +kernel
theorem dX0_init_5 : decode cX0_init 5 = .ok (.bipush 6, 2) := by decide +kernel
theorem dX0_init_7 : decode cX0_init 7 = .ok (.newarray .int, 2) := by decide +kernel
theorem dX0_init_9 : decode cX0_init 9 = .ok (.putfield 9, 3) := by decide +kernel
theorem dX0_init_12 : decode cX0_init 12 = .ok (.aload_n 0, 1) := by decide +kernel
theorem dX0_init_13 : decode cX0_init 13 = .ok (.iconst 0, 1) := by decide +kernel
theorem dX0_init_14 : decode cX0_init 14 = .ok (.putfield 15, 3) := by decide +kernel
theorem dX0_init_17 : decode cX0_init 17 = .ok (.aload_n 0, 1) := by decide +kernel
theorem dX0_init_18 : decode cX0_init 18 = .ok (.iconst 1, 1) := by decide +kernel
theorem dX0_init_19 : decode cX0_init 19 = .ok (.putfield 19, 3) := by decide +kernel
theorem dX0_init_22 : decode cX0_init 22 = .ok (.aload_n 0, 1) := by decide +kernel
theorem dX0_init_23 : decode cX0_init 23 = .ok (.iconst 0, 1) := by decide +kernel
theorem dX0_init_24 : decode cX0_init 24 = .ok (.putfield 22, 3) := by decide +kernel
theorem dX0_init_27 : decode cX0_init 27 = .ok (.return_, 1) := by decide +kernel
set_option maxRecDepth 20000 in
theorem ggX1_init_X4_init : GoodIn wsX1_init wsX4_init := goodIn_r _ [15, 16, 2, 3, 17, 10, 11, 18, 19, 20, 21, 22, 23, 24, 25, 26, 27, 34, 35, 36, 29, 30] (by decide +kernel) (by decide +kernel)
set_option maxRecDepth 20000 in
theorem gX1_init_X4_init : GoodIn wsX1_init (wsX4_init) := ggX1_init_X4_init
set_option maxRecDepth 20000 in
theorem ggX1_init_X8_init : GoodIn wsX1_init wsX8_init := goodIn_r _ [22, 23, 2, 3, 24, 25, 26, 27, 34, 35, 36] (by decide +kernel) (by decide +kernel)
set_option maxRecDepth 20000 in
theorem gX1_init_X8_init : GoodIn wsX1_init (wsX8_init) := ggX1_init_X8_init
theorem dX1_init_0 : decode cX1_init 0 = .ok (.aload_n 0, 1) := by decide +kernel
theorem dX1_init_1 : decode cX1_init 1 = .ok (.invokespecial 3, 3) := by decide +kernel
theorem dX1_init_4 : decode cX1_init 4 = .ok (.aload_n 0, 1) := by decide +kernel
theorem dX1_init_5 : decode cX1_init 5 = .ok (.new 9, 3) := by decide +kernel
theorem dX1_init_8 : decode cX1_init 8 = .ok (.dup, 1) := by decide +kernel
theorem dX1_init_9 : decode cX1_init 9 = .ok (.invokespecial 11, 3) := by decide +kernel
theorem dX1_init_12 : decode cX1_init 12 = .ok (.putfield 12, 3) := by decide +kernel
theorem dX1_init_15 : decode cX1_init 15 = .ok (.aload_n 0, 1) := by decide +kernel
theorem dX1_init_16 : decode cX1_init 16 = .ok (.new 9, 3) := by decide +kernel
theorem dX1_init_19 : decode cX1_init 19 = .ok (.dup, 1) := by decide +kernel
theorem dX1_init_20 : decode cX1_init 20 = .ok (.invokespecial 11, 3) := by decide +kernel
theorem dX1_init_23 : decode cX1_init 23 = .ok (.putfield 18, 3) := by decide +kernel
theorem dX1_init_26 : decode cX1_init 26 = .ok (.aload_n 0, 1) := by decide +kernel
theorem dX1_init_27 : decode cX1_init 27 = .ok (.new 21, 3) := by decide +kernel
theorem dX1_init_30 : decode cX1_init 30 = .ok (.dup, 1) := by decide +kernel
theorem dX1_init_31 : decode cX1_init 31 = .ok (.bipush 24, 2) := by decide +kernel
theorem dX1_init_33 : decode cX1_init 33 = .ok (.invokespecial 23, 3) := by decide +kernel
theorem dX1_init_36 : decode cX1_init 36 = .ok (.putfield 26, 3) := by decide +kernel
theorem dX1_init_39 : decode cX1_init 39 = .ok (.return_, 1) := by decide +kernel
set_option maxRecDepth 20000 in
theorem ggX1_greatest_X6_find : GoodIn wsX1_greatest wsX6_find := goodIn_r _ [8, 9, 79, 80, 81, 82, 83] (by decide +kernel) (by decide +kernel)
set_option maxRecDepth 20000 in
theorem gX1_greatest_X6_find : GoodIn wsX1_greatest (wsV RX1 30 RX6 yX6_find wsX6_find) := goodIn_app (goodIn_of _ (by decide +kernel)) ggX1_greatest_X6_find
set_option maxRecDepth 20000 in
theorem ggX1_greatest_X4_weigh : GoodIn wsX1_greatest wsX4_weigh := goodIn_r _ [14, 15, 16, 17, 18, 19, 20, 21, 22, 23, 24, 25, 26, 27, 28, 29, 30, 31, 32, 33, 34, 35, 36, 37, 38, 39, 40, 41, 42, 43, 44, 45, 46, 47, 48, 49, 50, 51, 52, 53, 54, 55, 56, 57, 58, 59, 60, 61, 62, 63, 84, 85, 86, 87, 79, 80, 81, 82, 83, 88, 89, 90, 91, 92, 93, 94] (by decide +kernel) (by decide +kernel)
set_option maxRecDepth 20000 in
theorem gX1_greatest_X4_weigh : GoodIn wsX1_greatest (wsV RX1 36 RX4 yX4_weigh wsX4_weigh) := goodIn_app (goodIn_of _ (by decide +kernel)) ggX1_greatest_X4_weigh
set_option maxRecDepth 20000 in
theorem ggX1_greatest_X1_rivalIsMore : GoodIn wsX1_greatest wsX1_rivalIsMore := goodIn_r _ [68, 69, 3, 70, 1, 71, 72, 73, 27, 28, 29, 30, 31, 32, 33, 34, 35, 36, 37, 74, 39, 40, 41, 42, 43, 44, 45, 75, 47, 48, 49, 50, 51, 52, 53, 54, 55, 56, 57, 58, 59, 60, 61, 62, 63, 76, 77, 78, 88, 89, 92, 93, 94] (by decide +kernel) (by decide +kernel)
set_option maxRecDepth 20000 in
theorem gX1_greatest_X1_rivalIsMore : GoodIn wsX1_greatest (wsV RX1 44 RX1 yX1_rivalIsMore wsX1_rivalIsMore) := goodIn_app (goodIn_of _ (by decide +kernel)) ggX1_greatest_X1_rivalIsMore
theorem dX1_greatest_0 : decode cX1_greatest 0 = .ok (.iload_n 3, 1) := by decide +kernel
theorem dX1_greatest_1 : decode cX1_greatest 1 = .ok (.istore 5, 2) := by decide +kernel
theorem dX1_greatest_3 : decode cX1_greatest 3 = .ok (.aload_n 0, 1) := by decide +kernel
theorem dX1_greatest_4 : decode cX1_greatest 4 = .ok (.getfield 12, 3) := by decide +kernel
theorem dX1_greatest_7 : decode cX1_greatest 7 = .ok (.aload_n 1, 1) := by decide +kernel
theorem dX1_greatest_8 : decode cX1_greatest 8 = .ok (.aload_n 1, 1) := by decide +kernel
theorem dX1_greatest_9 : decode cX1_greatest 9 = .ok (.iload_n 2, 1) := by decide +kernel
theorem dX1_greatest_10 : decode cX1_greatest 10 = .ok (.iload_n 3, 1) := by decide +kernel
theorem dX1_greatest_11 : decode cX1_greatest 11 = .ok (.invokevirtual 30, 3) := by decide +kernel
theorem dX1_greatest_14 : decode cX1_greatest 14 = .ok (.aload 4, 2) := by decide +kernel
theorem dX1_greatest_16 : decode cX1_greatest 16 = .ok (.invokevirtual 36, 3) := by decide +kernel
theorem dX1_greatest_19 : decode cX1_greatest 19 = .ok (.iconst 0, 1) := by decide +kernel
theorem dX1_greatest_20 : decode cX1_greatest 20 = .ok (.istore 6, 2) := by decide +kernel
theorem dX1_greatest_22 : decode cX1_greatest 22 = .ok (.iload 6, 2) := by decide +kernel
theorem dX1_greatest_24 : decode cX1_greatest 24 = .ok (.aload_n 1, 1) := by decide +kernel
theorem dX1_greatest_25 : decode cX1_greatest 25 = .ok (.getfield 40, 3) := by decide +kernel
theorem dX1_greatest_28 : decode cX1_greatest 28 = .ok (.iload_n 2, 1) := by decide +kernel
theorem dX1_greatest_29 : decode cX1_greatest 29 = .ok (.iaload, 1) := by decide +kernel
theorem dX1_greatest_30 : decode cX1_greatest 30 = .ok (.if_icmp .ge 63, 3) := by decide +kernel
theorem dX1_greatest_33 : decode cX1_greatest 33 = .ok (.iload 6, 2) := by decide +kernel
theorem dX1_greatest_35 : decode cX1_greatest 35 = .ok (.iload_n 3, 1) := by decide +kernel
theorem dX1_greatest_36 : decode cX1_greatest 36 = .ok (.if_icmp .eq 51, 3) := by decide +kernel
theorem dX1_greatest_39 : decode cX1_greatest 39 = .ok (.aload_n 0, 1) := by decide +kernel
theorem dX1_greatest_40 : decode cX1_greatest 40 = .ok (.getfield 18, 3) := by decide +kernel
theorem dX1_greatest_43 : decode cX1_greatest 43 = .ok (.aload_n 1, 1) := by decide +kernel
theorem dX1_greatest_44 : decode cX1_greatest 44 = .ok (.aload_n 1, 1) := by decide +kernel
theorem dX1_greatest_45 : decode cX1_greatest 45 = .ok (.iload_n 2, 1) := by decide +kernel
theorem dX1_greatest_46 : decode cX1_greatest 46 = .ok (.iload 6, 2) := by decide +kernel
theorem dX1_greatest_48 : decode cX1_greatest 48 = .ok (.invokevirtual 30, 3) := by decide +kernel
theorem dX1_greatest_51 : decode cX1_greatest 51 = .ok (.aload 4, 2) := by decide +kernel
theorem dX1_greatest_53 : decode cX1_greatest 53 = .ok (.invokevirtual 36, 3) := by decide +kernel
theorem dX1_greatest_56 : decode cX1_greatest 56 = .ok (.aload_n 0, 1) := by decide +kernel
theorem dX1_greatest_57 : decode cX1_greatest 57 = .ok (.invokevirtual 44, 3) := by decide +kernel
theorem dX1_greatest_60 : decode cX1_greatest 60 = .ok (.ifCond .eq 27, 3) := by decide +kernel
theorem dX1_greatest_63 : decode cX1_greatest 63 = .ok (.aload_n 0, 1) := by decide +kernel
theorem dX1_greatest_64 : decode cX1_greatest 64 = .ok (.getfield 12, 3) := by decide +kernel
theorem dX1_greatest_67 : decode cX1_greatest 67 = .ok (.astore 7, 2) := by decide +kernel
theorem dX1_greatest_69 : decode cX1_greatest 69 = .ok (.aload_n 0, 1) := by decide +kernel
theorem dX1_greatest_70 : decode cX1_greatest 70 = .ok (.aload_n 0, 1) := by decide +kernel
theorem dX1_greatest_71 : decode cX1_greatest 71 = .ok (.getfield 18, 3) := by decide +kernel
theorem dX1_greatest_74 : decode cX1_greatest 74 = .ok (.putfield 12, 3) := by decide +kernel
theorem dX1_greatest_77 : decode cX1_greatest 77 = .ok (.aload_n 0, 1) := by decide +kernel
theorem dX1_greatest_78 : decode cX1_greatest 78 = .ok (.aload 7, 2) := by decide +kernel
theorem dX1_greatest_80 : decode cX1_greatest 80 = .ok (.putfield 18, 3) := by decide +kernel
theorem dX1_greatest_83 : decode cX1_greatest 83 = .ok (.iload 6, 2) := by decide +kernel
theorem dX1_greatest_85 : decode cX1_greatest 85 = .ok (.istore 5, 2) := by decide +kernel
theorem dX1_greatest_87 : decode cX1_greatest 87 = .ok (.iinc 6 1, 3) := by decide +kernel
theorem dX1_greatest_90 : decode cX1_greatest 90 = .ok (.goto (-68), 3) := by decide +kernel
theorem dX1_greatest_93 : decode cX1_greatest 93 = .ok (.iload 5, 2) := by decide +kernel
theorem dX1_greatest_95 : decode cX1_greatest 95 = .ok (.ireturn, 1) := by decide +kernel
set_option maxRecDepth 20000 in
theorem ggX1_rivalIsMore_X8_clear : GoodIn wsX1_rivalIsMore wsX8_clear := goodIn_r _ [11, 12, 13, 14, 15, 16, 17, 18, 50, 51, 52] (by decide +kernel) (by decide +kernel)
set_option maxRecDepth 20000 in
theorem gX1_rivalIsMore_X8_clear : GoodIn wsX1_rivalIsMore (wsV RX1 48 RX8 yX8_clear wsX8_clear) := goodIn_app (goodIn_of _ (by decide +kernel)) ggX1_rivalIsMore_X8_clear
set_option maxRecDepth 20000 in
theorem ggX1_rivalIsMore_X8_add : GoodIn wsX1_rivalIsMore wsX8_add := goodIn_r _ [22, 13, 12, 23, 24, 25, 26, 50, 51, 52] (by decide +kernel) (by decide +kernel)
set_option maxRecDepth 20000 in
theorem gX1_rivalIsMore_X8_add : GoodIn wsX1_rivalIsMore (wsV RX1 58 RX8 yX8_add wsX8_add) := goodIn_app (goodIn_of _ (by decide +kernel)) ggX1_rivalIsMore_X8_add
set_option maxRecDepth 20000 in
theorem ggX1_rivalIsMore_X8_settle : GoodIn wsX1_rivalIsMore wsX8_settle := goodIn_r _ [30, 12, 31, 32, 33, 34, 35, 36, 37, 38, 10, 39, 40, 41, 42, 43, 44, 13, 14, 50, 51, 52] (by decide +kernel) (by decide +kernel)
set_option maxRecDepth 20000 in
theorem gX1_rivalIsMore_X8_settle : GoodIn wsX1_rivalIsMore (wsV RX1 62 RX8 yX8_settle wsX8_settle) := goodIn_app (goodIn_of _ (by decide +kernel)) ggX1_rivalIsMore_X8_settle
theorem dX1_rivalIsMore_0 : decode cX1_rivalIsMore 0 = .ok (.aload_n 0, 1) := by decide +kernel
theorem dX1_rivalIsMore_1 : decode cX1_rivalIsMore 1 = .ok (.getfield 26, 3) := by decide +kernel
theorem dX1_rivalIsMore_4 : decode cX1_rivalIsMore 4 = .ok (.invokevirtual 48, 3) := by decide +kernel
theorem dX1_rivalIsMore_7 : decode cX1_rivalIsMore 7 = .ok (.aload_n 0, 1) := by decide +kernel
theorem dX1_rivalIsMore_8 : decode cX1_rivalIsMore 8 = .ok (.getfield 26, 3) := by decide +kernel
theorem dX1_rivalIsMore_11 : decode cX1_rivalIsMore 11 = .ok (.aload_n 0, 1) := by decide +kernel
theorem dX1_rivalIsMore_12 : decode cX1_rivalIsMore 12 = .ok (.getfield 18, 3) := by decide +kernel
theorem dX1_rivalIsMore_15 : decode cX1_rivalIsMore 15 = .ok (.getfield 51, 3) := by decide +kernel
theorem dX1_rivalIsMore_18 : decode cX1_rivalIsMore 18 = .ok (.aload_n 0, 1) := by decide +kernel
theorem dX1_rivalIsMore_19 : decode cX1_rivalIsMore 19 = .ok (.getfield 12, 3) := by decide +kernel
theorem dX1_rivalIsMore_22 : decode cX1_rivalIsMore 22 = .ok (.getfield 54, 3) := by decide +kernel
theorem dX1_rivalIsMore_25 : decode cX1_rivalIsMore 25 = .ok (.i2l, 1) := by decide +kernel
theorem dX1_rivalIsMore_26 : decode cX1_rivalIsMore 26 = .ok (.invokevirtual 58, 3) := by decide +kernel
theorem dX1_rivalIsMore_29 : decode cX1_rivalIsMore 29 = .ok (.aload_n 0, 1) := by decide +kernel
theorem dX1_rivalIsMore_30 : decode cX1_rivalIsMore 30 = .ok (.getfield 26, 3) := by decide +kernel
theorem dX1_rivalIsMore_33 : decode cX1_rivalIsMore 33 = .ok (.aload_n 0, 1) := by decide +kernel
theorem dX1_rivalIsMore_34 : decode cX1_rivalIsMore 34 = .ok (.getfield 12, 3) := by decide +kernel
theorem dX1_rivalIsMore_37 : decode cX1_rivalIsMore 37 = .ok (.getfield 51, 3) := by decide +kernel
theorem dX1_rivalIsMore_40 : decode cX1_rivalIsMore 40 = .ok (.aload_n 0, 1) := by decide +kernel
theorem dX1_rivalIsMore_41 : decode cX1_rivalIsMore 41 = .ok (.getfield 18, 3) := by decide +kernel
theorem dX1_rivalIsMore_44 : decode cX1_rivalIsMore 44 = .ok (.getfield 54, 3) := by decide +kernel
theorem dX1_rivalIsMore_47 : decode cX1_rivalIsMore 47 = .ok (.ineg, 1) := by decide +kernel
theorem dX1_rivalIsMore_48 : decode cX1_rivalIsMore 48 = .ok (.i2l, 1) := by decide +kernel
theorem dX1_rivalIsMore_49 : decode cX1_rivalIsMore 49 = .ok (.invokevirtual 58, 3) := by decide +kernel
theorem dX1_rivalIsMore_52 : decode cX1_rivalIsMore 52 = .ok (.aload_n 0, 1) := by decide +kernel
theorem dX1_rivalIsMore_53 : decode cX1_rivalIsMore 53 = .ok (.getfield 26, 3) := by decide +kernel
theorem dX1_rivalIsMore_56 : decode cX1_rivalIsMore 56 = .ok (.invokevirtual 62, 3) := by decide +kernel
theorem dX1_rivalIsMore_59 : decode cX1_rivalIsMore 59 = .ok (.aload_n 0, 1) := by decide +kernel
theorem dX1_rivalIsMore_60 : decode cX1_rivalIsMore 60 = .ok (.getfield 26, 3) := by decide +kernel
theorem dX1_rivalIsMore_63 : decode cX1_rivalIsMore 63 = .ok (.getfield 65, 3) := by decide +kernel
theorem dX1_rivalIsMore_66 : decode cX1_rivalIsMore 66 = .ok (.ifCond .le 7, 3) := by decide +kernel
theorem dX1_rivalIsMore_69 : decode cX1_rivalIsMore 69 = .ok (.iconst 1, 1) := by decide +kernel
theorem dX1_rivalIsMore_70 : decode cX1_rivalIsMore 70 = .ok (.goto 4, 3) := by decide +kernel
theorem dX1_rivalIsMore_73 : decode cX1_rivalIsMore 73 = .ok (.iconst 0, 1) := by decide +kernel
theorem dX1_rivalIsMore_74 : decode cX1_rivalIsMore 74 = .ok (.ireturn, 1) := by decide +kernel
set_option maxRecDepth 20000 in
theorem ggX2_init_X8_init : GoodIn wsX2_init wsX8_init := goodIn_r _ [13, 14, 2, 3, 15, 16, 17, 18, 21, 22, 23] (by decide +kernel) (by decide +kernel)
set_option maxRecDepth 20000 in
theorem gX2_init_X8_init : GoodIn wsX2_init (wsX8_init) := ggX2_init_X8_init
theorem dX2_init_0 : decode cX2_init 0 = .ok (.aload_n 0, 1) := by decide +kernel
theorem dX2_init_1 : decode cX2_init 1 = .ok (.invokespecial 3, 3) := by decide +kernel
theorem dX2_init_4 : decode cX2_init 4 = .ok (.aload_n 0, 1) := by decide +kernel
theorem dX2_init_5 : decode cX2_init 5 = .ok (.bipush 6, 2) := by decide +kernel
theorem dX2_init_7 : decode cX2_init 7 = .ok (.bipush 7, 2) := by decide +kernel
theorem dX2_init_9 : decode cX2_init 9 = .ok (.multianewarray 9 2, 4) := by decide +kernel
theorem dX2_init_13 : decode cX2_init 13 = .ok (.putfield 11, 3) := by decide +kernel
theorem dX2_init_16 : decode cX2_init 16 = .ok (.aload_n 0, 1) := by decide +kernel
theorem dX2_init_17 : decode cX2_init 17 = .ok (.sipush 128, 3) := by decide +kernel
theorem dX2_init_20 : decode cX2_init 20 = .ok (.anewarray 16, 3) := by decide +kernel
theorem dX2_init_23 : decode cX2_init 23 = .ok (.putfield 18, 3) := by decide +kernel
theorem dX2_init_26 : decode cX2_init 26 = .ok (.iconst 0, 1) := by decide +kernel
theorem dX2_init_27 : decode cX2_init 27 = .ok (.istore_n 1, 1) := by decide +kernel
theorem dX2_init_28 : decode cX2_init 28 = .ok (.iload_n 1, 1) := by decide +kernel
theorem dX2_init_29 : decode cX2_init 29 = .ok (.aload_n 0, 1) := by decide +kernel
theorem dX2_init_30 : decode cX2_init 30 = .ok (.getfield 18, 3) := by decide +kernel
theorem dX2_init_33 : decode cX2_init 33 = .ok (.arraylength, 1) := by decide +kernel
theorem dX2_init_34 : decode cX2_init 34 = .ok (.if_icmp .ge 24, 3) := by decide +kernel
theorem dX2_init_37 : decode cX2_init 37 = .ok (.aload_n 0, 1) := by decide +kernel
theorem dX2_init_38 : decode cX2_init 38 = .ok (.getfield 18, 3) := by decide +kernel
theorem dX2_init_41 : decode cX2_init 41 = .ok (.iload_n 1, 1) := by decide +kernel
theorem dX2_init_42 : decode cX2_init 42 = .ok (.new 16, 3) := by decide +kernel
theorem dX2_init_45 : decode cX2_init 45 = .ok (.dup, 1) := by decide +kernel
theorem dX2_init_46 : decode cX2_init 46 = .ok (.bipush 8, 2) := by decide +kernel
theorem dX2_init_48 : decode cX2_init 48 = .ok (.invokespecial 22, 3) := by decide +kernel
theorem dX2_init_51 : decode cX2_init 51 = .ok (.aastore, 1) := by decide +kernel
theorem dX2_init_52 : decode cX2_init 52 = .ok (.iinc 1 1, 3) := by decide +kernel
theorem dX2_init_55 : decode cX2_init 55 = .ok (.goto (-27), 3) := by decide +kernel
theorem dX2_init_58 : decode cX2_init 58 = .ok (.return_, 1) := by decide +kernel
set_option maxRecDepth 20000 in
theorem ggX2_findValues_X6_find : GoodIn wsX2_findValues wsX6_find := goodIn_r _ [10, 11, 91, 92, 93, 94, 95] (by decide +kernel) (by decide +kernel)
set_option maxRecDepth 20000 in
theorem gX2_findValues_X6_find : GoodIn wsX2_findValues (wsV RX2 31 RX6 yX6_find wsX6_find) := goodIn_app (goodIn_of _ (by decide +kernel)) ggX2_findValues_X6_find
set_option maxRecDepth 20000 in
theorem ggX2_findValues_X2_writeRow : GoodIn wsX2_findValues wsX2_writeRow := goodIn_r _ [16, 17, 1, 18, 19, 20, 21, 22, 23, 96, 97, 91, 92, 93, 94, 95, 100, 101, 102, 103] (by decide +kernel) (by decide +kernel)
set_option maxRecDepth 20000 in
theorem gX2_findValues_X2_writeRow : GoodIn wsX2_findValues (wsV RX2 35 RX2 yX2_writeRow wsX2_writeRow) := goodIn_app (goodIn_of _ (by decide +kernel)) ggX2_findValues_X2_writeRow
set_option maxRecDepth 20000 in
theorem ggX2_findValues_X8_put : GoodIn wsX2_findValues wsX8_put := goodIn_r _ [28, 29, 30, 31, 32, 27, 33, 34, 35, 36, 37, 38, 39, 40, 41, 42, 43, 44, 45, 46, 47, 48, 49, 50, 51, 52, 53, 54, 55, 56, 57, 104, 105, 106] (by decide +kernel) (by decide +kernel)
set_option maxRecDepth 20000 in
theorem gX2_findValues_X8_put : GoodIn wsX2_findValues (wsV RX2 39 RX8 yX8_put wsX8_put) := goodIn_app (goodIn_of _ (by decide +kernel)) ggX2_findValues_X8_put
set_option maxRecDepth 20000 in
theorem ggX2_findValues_X2_expand : GoodIn wsX2_findValues wsX2_expand := goodIn_r _ [61, 17, 2, 62, 63, 64, 65, 66, 67, 68, 69, 31, 32, 27, 33, 29, 34, 35, 36, 37, 38, 39, 70, 71, 72, 73, 74, 75, 76, 77, 78, 41, 42, 43, 44, 45, 46, 47, 48, 49, 50, 51, 52, 53, 54, 55, 56, 57, 96, 97, 104, 105, 106] (by decide +kernel) (by decide +kernel)
set_option maxRecDepth 20000 in
theorem gX2_findValues_X2_expand : GoodIn wsX2_findValues (wsV RX2 43 RX2 yX2_expand wsX2_expand) := goodIn_app (goodIn_of _ (by decide +kernel)) ggX2_findValues_X2_expand
set_option maxRecDepth 20000 in
theorem ggX2_findValues_X8_copy : GoodIn wsX2_findValues wsX8_copy := goodIn_r _ [82, 34, 29, 74, 75, 76, 77, 83, 84, 85, 86, 35, 30, 31, 32, 27, 33, 36, 37, 38, 39, 104, 105, 106] (by decide +kernel) (by decide +kernel)
set_option maxRecDepth 20000 in
theorem gX2_findValues_X8_copy : GoodIn wsX2_findValues (wsV RX2 53 RX8 yX8_copy wsX8_copy) := goodIn_app (goodIn_of _ (by decide +kernel)) ggX2_findValues_X8_copy
set_option maxRecDepth 20000 in
theorem ggX2_findValues_X8_multiply : GoodIn wsX2_findValues wsX8_multiply := goodIn_r _ [90, 34, 29, 40, 41, 42, 27, 43, 44, 45, 46, 47, 48, 49, 50, 51, 52, 53, 54, 55, 56, 57, 35, 104, 105, 106] (by decide +kernel) (by decide +kernel)
set_option maxRecDepth 20000 in
theorem gX2_findValues_X8_multiply : GoodIn wsX2_findValues (wsV RX2 62 RX8 yX8_multiply wsX8_multiply) := goodIn_app (goodIn_of _ (by decide +kernel)) ggX2_findValues_X8_multiply
theorem dX2_findValues_0 : decode cX2_findValues 0 = .ok (.aload_n 1, 1) := by decide +kernel
theorem dX2_findValues_1 : decode cX2_findValues 1 = .ok (.getfield 25, 3) := by decide +kernel
theorem dX2_findValues_4 : decode cX2_findValues 4 = .ok (.istore 4, 2) := by decide +kernel
theorem dX2_findValues_6 : decode cX2_findValues 6 = .ok (.iconst 0, 1) := by decide +kernel
theorem dX2_findValues_7 : decode cX2_findValues 7 = .ok (.istore 5, 2) := by decide +kernel
theorem dX2_findValues_9 : decode cX2_findValues 9 = .ok (.iload 5, 2) := by decide +kernel
theorem dX2_findValues_11 : decode cX2_findValues 11 = .ok (.iload 4, 2) := by decide +kernel
theorem dX2_findValues_13 : decode cX2_findValues 13 = .ok (.if_icmp .ge 26, 3) := by decide +kernel
theorem dX2_findValues_16 : decode cX2_findValues 16 = .ok (.aload_n 0, 1) := by decide +kernel
theorem dX2_findValues_17 : decode cX2_findValues 17 = .ok (.aload_n 1, 1) := by decide +kernel
theorem dX2_findValues_18 : decode cX2_findValues 18 = .ok (.iload 5, 2) := by decide +kernel
theorem dX2_findValues_20 : decode cX2_findValues 20 = .ok (.aload_n 1, 1) := by decide +kernel
theorem dX2_findValues_21 : decode cX2_findValues 21 = .ok (.iload 5, 2) := by decide +kernel
theorem dX2_findValues_23 : decode cX2_findValues 23 = .ok (.aload_n 2, 1) := by decide +kernel
theorem dX2_findValues_24 : decode cX2_findValues 24 = .ok (.iload 5, 2) := by decide +kernel
theorem dX2_findValues_26 : decode cX2_findValues 26 = .ok (.iaload, 1) := by decide +kernel
theorem dX2_findValues_27 : decode cX2_findValues 27 = .ok (.invokevirtual 31, 3) := by decide +kernel
theorem dX2_findValues_30 : decode cX2_findValues 30 = .ok (.invokevirtual 35, 3) := by decide +kernel
theorem dX2_findValues_33 : decode cX2_findValues 33 = .ok (.iinc 5 1, 3) := by decide +kernel
theorem dX2_findValues_36 : decode cX2_findValues 36 = .ok (.goto (-27), 3) := by decide +kernel
theorem dX2_findValues_39 : decode cX2_findValues 39 = .ok (.iconst 1, 1) := by decide +kernel
theorem dX2_findValues_40 : decode cX2_findValues 40 = .ok (.iload 4, 2) := by decide +kernel
theorem dX2_findValues_42 : decode cX2_findValues 42 = .ok (.iconst 1, 1) := by decide +kernel
theorem dX2_findValues_43 : decode cX2_findValues 43 = .ok (.iadd, 1) := by decide +kernel
theorem dX2_findValues_44 : decode cX2_findValues 44 = .ok (.ishl, 1) := by decide +kernel
theorem dX2_findValues_45 : decode cX2_findValues 45 = .ok (.iconst 1, 1) := by decide +kernel
theorem dX2_findValues_46 : decode cX2_findValues 46 = .ok (.isub, 1) := by decide +kernel
theorem dX2_findValues_47 : decode cX2_findValues 47 = .ok (.istore 5, 2) := by decide +kernel
theorem dX2_findValues_49 : decode cX2_findValues 49 = .ok (.aload_n 0, 1) := by decide +kernel
theorem dX2_findValues_50 : decode cX2_findValues 50 = .ok (.getfield 18, 3) := by decide +kernel
theorem dX2_findValues_53 : decode cX2_findValues 53 = .ok (.iconst 0, 1) := by decide +kernel
theorem dX2_findValues_54 : decode cX2_findValues 54 = .ok (.aaload, 1) := by decide +kernel
theorem dX2_findValues_55 : decode cX2_findValues 55 = .ok (.lconst 1, 1) := by decide +kernel
theorem dX2_findValues_56 : decode cX2_findValues 56 = .ok (.invokevirtual 39, 3) := by decide +kernel
theorem dX2_findValues_59 : decode cX2_findValues 59 = .ok (.iconst 1, 1) := by decide +kernel
theorem dX2_findValues_60 : decode cX2_findValues 60 = .ok (.istore 6, 2) := by decide +kernel
theorem dX2_findValues_62 : decode cX2_findValues 62 = .ok (.iload 6, 2) := by decide +kernel
theorem dX2_findValues_64 : decode cX2_findValues 64 = .ok (.iload 5, 2) := by decide +kernel
theorem dX2_findValues_66 : decode cX2_findValues 66 = .ok (.if_icmp .ge 17, 3) := by decide +kernel
theorem dX2_findValues_69 : decode cX2_findValues 69 = .ok (.aload_n 0, 1) := by decide +kernel
theorem dX2_findValues_70 : decode cX2_findValues 70 = .ok (.iload 6, 2) := by decide +kernel
theorem dX2_findValues_72 : decode cX2_findValues 72 = .ok (.iload 4, 2) := by decide +kernel
theorem dX2_findValues_74 : decode cX2_findValues 74 = .ok (.invokevirtual 43, 3) := by decide +kernel
theorem dX2_findValues_77 : decode cX2_findValues 77 = .ok (.iinc 6 1, 3) := by decide +kernel
theorem dX2_findValues_80 : decode cX2_findValues 80 = .ok (.goto (-18), 3) := by decide +kernel
theorem dX2_findValues_83 : decode cX2_findValues 83 = .ok (.aload_n 3, 1) := by decide +kernel
theorem dX2_findValues_84 : decode cX2_findValues 84 = .ok (.getfield 47, 3) := by decide +kernel
theorem dX2_findValues_87 : decode cX2_findValues 87 = .ok (.aload_n 0, 1) := by decide +kernel
theorem dX2_findValues_88 : decode cX2_findValues 88 = .ok (.getfield 18, 3) := by decide +kernel
theorem dX2_findValues_91 : decode cX2_findValues 91 = .ok (.iload 5, 2) := by decide +kernel
theorem dX2_findValues_93 : decode cX2_findValues 93 = .ok (.iconst 1, 1) := by decide +kernel
theorem dX2_findValues_94 : decode cX2_findValues 94 = .ok (.ishr, 1) := by decide +kernel
theorem dX2_findValues_95 : decode cX2_findValues 95 = .ok (.aaload, 1) := by decide +kernel
theorem dX2_findValues_96 : decode cX2_findValues 96 = .ok (.invokevirtual 53, 3) := by decide +kernel
theorem dX2_findValues_99 : decode cX2_findValues 99 = .ok (.iconst 0, 1) := by decide +kernel
theorem dX2_findValues_100 : decode cX2_findValues 100 = .ok (.istore 6, 2) := by decide +kernel
theorem dX2_findValues_102 : decode cX2_findValues 102 = .ok (.iload 6, 2) := by decide +kernel
theorem dX2_findValues_104 : decode cX2_findValues 104 = .ok (.iload 4, 2) := by decide +kernel
theorem dX2_findValues_106 : decode cX2_findValues 106 = .ok (.if_icmp .ge 55, 3) := by decide +kernel
theorem dX2_findValues_109 : decode cX2_findValues 109 = .ok (.aload_n 3, 1) := by decide +kernel
theorem dX2_findValues_110 : decode cX2_findValues 110 = .ok (.getfield 57, 3) := by decide +kernel
theorem dX2_findValues_113 : decode cX2_findValues 113 = .ok (.iload 6, 2) := by decide +kernel
theorem dX2_findValues_115 : decode cX2_findValues 115 = .ok (.aaload, 1) := by decide +kernel
theorem dX2_findValues_116 : decode cX2_findValues 116 = .ok (.astore 7, 2) := by decide +kernel
theorem dX2_findValues_118 : decode cX2_findValues 118 = .ok (.aload 7, 2) := by decide +kernel
theorem dX2_findValues_120 : decode cX2_findValues 120 = .ok (.aload_n 0, 1) := by decide +kernel
theorem dX2_findValues_121 : decode cX2_findValues 121 = .ok (.getfield 18, 3) := by decide +kernel
theorem dX2_findValues_124 : decode cX2_findValues 124 = .ok (.iload 5, 2) := by decide +kernel
theorem dX2_findValues_126 : decode cX2_findValues 126 = .ok (.iconst 1, 1) := by decide +kernel
theorem dX2_findValues_127 : decode cX2_findValues 127 = .ok (.iload 6, 2) := by decide +kernel
theorem dX2_findValues_129 : decode cX2_findValues 129 = .ok (.ishl, 1) := by decide +kernel
theorem dX2_findValues_130 : decode cX2_findValues 130 = .ok (.ixor, 1) := by decide +kernel
theorem dX2_findValues_131 : decode cX2_findValues 131 = .ok (.aaload, 1) := by decide +kernel
theorem dX2_findValues_132 : decode cX2_findValues 132 = .ok (.invokevirtual 53, 3) := by decide +kernel
theorem dX2_findValues_135 : decode cX2_findValues 135 = .ok (.iload 4, 2) := by decide +kernel
theorem dX2_findValues_137 : decode cX2_findValues 137 = .ok (.iconst 1, 1) := by decide +kernel
theorem dX2_findValues_138 : decode cX2_findValues 138 = .ok (.isub, 1) := by decide +kernel
theorem dX2_findValues_139 : decode cX2_findValues 139 = .ok (.iload 6, 2) := by decide +kernel
theorem dX2_findValues_141 : decode cX2_findValues 141 = .ok (.isub, 1) := by decide +kernel
theorem dX2_findValues_142 : decode cX2_findValues 142 = .ok (.iconst 2, 1) := by decide +kernel
theorem dX2_findValues_143 : decode cX2_findValues 143 = .ok (.irem, 1) := by decide +kernel
theorem dX2_findValues_144 : decode cX2_findValues 144 = .ok (.ifCond .eq 11, 3) := by decide +kernel
theorem dX2_findValues_147 : decode cX2_findValues 147 = .ok (.aload 7, 2) := by decide +kernel
theorem dX2_findValues_149 : decode cX2_findValues 149 = .ok (.ldc2_w 60, 3) := by decide +kernel
theorem dX2_findValues_152 : decode cX2_findValues 152 = .ok (.invokevirtual 62, 3) := by decide +kernel
theorem dX2_findValues_155 : decode cX2_findValues 155 = .ok (.iinc 6 1, 3) := by decide +kernel
theorem dX2_findValues_158 : decode cX2_findValues 158 = .ok (.goto (-56), 3) := by decide +kernel
theorem dX2_findValues_161 : decode cX2_findValues 161 = .ok (.return_, 1) := by decide +kernel
theorem dX2_writeRow_0 : decode cX2_writeRow 0 = .ok (.aload_n 0, 1) := by decide +kernel
theorem dX2_writeRow_1 : decode cX2_writeRow 1 = .ok (.getfield 11, 3) := by decide +kernel
theorem dX2_writeRow_4 : decode cX2_writeRow 4 = .ok (.iload_n 2, 1) := by decide +kernel
theorem dX2_writeRow_5 : decode cX2_writeRow 5 = .ok (.aaload, 1) := by decide +kernel
theorem dX2_writeRow_6 : decode cX2_writeRow 6 = .ok (.astore 4, 2) := by decide +kernel
theorem dX2_writeRow_8 : decode cX2_writeRow 8 = .ok (.iconst 0, 1) := by decide +kernel
theorem dX2_writeRow_9 : decode cX2_writeRow 9 = .ok (.istore 5, 2) := by decide +kernel
theorem dX2_writeRow_11 : decode cX2_writeRow 11 = .ok (.iload 5, 2) := by decide +kernel
theorem dX2_writeRow_13 : decode cX2_writeRow 13 = .ok (.aload_n 1, 1) := by decide +kernel
theorem dX2_writeRow_14 : decode cX2_writeRow 14 = .ok (.getfield 25, 3) := by decide +kernel
theorem dX2_writeRow_17 : decode cX2_writeRow 17 = .ok (.if_icmp .ge 32, 3) := by decide +kernel
theorem dX2_writeRow_20 : decode cX2_writeRow 20 = .ok (.aload 4, 2) := by decide +kernel
theorem dX2_writeRow_22 : decode cX2_writeRow 22 = .ok (.iload 5, 2) := by decide +kernel
theorem dX2_writeRow_24 : decode cX2_writeRow 24 = .ok (.aload_n 3, 1) := by decide +kernel
theorem dX2_writeRow_25 : decode cX2_writeRow 25 = .ok (.getfield 65, 3) := by decide +kernel
theorem dX2_writeRow_28 : decode cX2_writeRow 28 = .ok (.ineg, 1) := by decide +kernel
theorem dX2_writeRow_29 : decode cX2_writeRow 29 = .ok (.aload_n 1, 1) := by decide +kernel
theorem dX2_writeRow_30 : decode cX2_writeRow 30 = .ok (.getfield 69, 3) := by decide +kernel
theorem dX2_writeRow_33 : decode cX2_writeRow 33 = .ok (.imul, 1) := by decide +kernel
theorem dX2_writeRow_34 : decode cX2_writeRow 34 = .ok (.aload_n 3, 1) := by decide +kernel
theorem dX2_writeRow_35 : decode cX2_writeRow 35 = .ok (.getfield 72, 3) := by decide +kernel
theorem dX2_writeRow_38 : decode cX2_writeRow 38 = .ok (.iload 5, 2) := by decide +kernel
theorem dX2_writeRow_40 : decode cX2_writeRow 40 = .ok (.iaload, 1) := by decide +kernel
theorem dX2_writeRow_41 : decode cX2_writeRow 41 = .ok (.imul, 1) := by decide +kernel
theorem dX2_writeRow_42 : decode cX2_writeRow 42 = .ok (.iastore, 1) := by decide +kernel
theorem dX2_writeRow_43 : decode cX2_writeRow 43 = .ok (.iinc 5 1, 3) := by decide +kernel
theorem dX2_writeRow_46 : decode cX2_writeRow 46 = .ok (.goto (-35), 3) := by decide +kernel
theorem dX2_writeRow_49 : decode cX2_writeRow 49 = .ok (.aload 4, 2) := by decide +kernel
theorem dX2_writeRow_51 : decode cX2_writeRow 51 = .ok (.iload_n 2, 1) := by decide +kernel
theorem dX2_writeRow_52 : decode cX2_writeRow 52 = .ok (.dup2, 1) := by decide +kernel
theorem dX2_writeRow_53 : decode cX2_writeRow 53 = .ok (.iaload, 1) := by decide +kernel
theorem dX2_writeRow_54 : decode cX2_writeRow 54 = .ok (.aload_n 3, 1) := by decide +kernel
theorem dX2_writeRow_55 : decode cX2_writeRow 55 = .ok (.getfield 65, 3) := by decide +kernel
theorem dX2_writeRow_58 : decode cX2_writeRow 58 = .ok (.aload_n 1, 1) := by decide +kernel
theorem dX2_writeRow_59 : decode cX2_writeRow 59 = .ok (.getfield 76, 3) := by decide +kernel
theorem dX2_writeRow_62 : decode cX2_writeRow 62 = .ok (.imul, 1) := by decide +kernel
theorem dX2_writeRow_63 : decode cX2_writeRow 63 = .ok (.aload_n 3, 1) := by decide +kernel
theorem dX2_writeRow_64 : decode cX2_writeRow 64 = .ok (.getfield 79, 3) := by decide +kernel
theorem dX2_writeRow_67 : decode cX2_writeRow 67 = .ok (.imul, 1) := by decide +kernel
theorem dX2_writeRow_68 : decode cX2_writeRow 68 = .ok (.iadd, 1) := by decide +kernel
theorem dX2_writeRow_69 : decode cX2_writeRow 69 = .ok (.iastore, 1) := by decide +kernel
theorem dX2_writeRow_70 : decode cX2_writeRow 70 = .ok (.aload 4, 2) := by decide +kernel
theorem dX2_writeRow_72 : decode cX2_writeRow 72 = .ok (.aload_n 1, 1) := by decide +kernel
theorem dX2_writeRow_73 : decode cX2_writeRow 73 = .ok (.getfield 25, 3) := by decide +kernel
theorem dX2_writeRow_76 : decode cX2_writeRow 76 = .ok (.aload_n 3, 1) := by decide +kernel
theorem dX2_writeRow_77 : decode cX2_writeRow 77 = .ok (.getfield 82, 3) := by decide +kernel
theorem dX2_writeRow_80 : decode cX2_writeRow 80 = .ok (.aload_n 1, 1) := by decide +kernel
theorem dX2_writeRow_81 : decode cX2_writeRow 81 = .ok (.getfield 76, 3) := by decide +kernel
theorem dX2_writeRow_84 : decode cX2_writeRow 84 = .ok (.imul, 1) := by decide +kernel
theorem dX2_writeRow_85 : decode cX2_writeRow 85 = .ok (.aload_n 3, 1) := by decide +kernel
theorem dX2_writeRow_86 : decode cX2_writeRow 86 = .ok (.getfield 79, 3) := by decide +kernel
theorem dX2_writeRow_89 : decode cX2_writeRow 89 = .ok (.imul, 1) := by decide +kernel
theorem dX2_writeRow_90 : decode cX2_writeRow 90 = .ok (.iastore, 1) := by decide +kernel
theorem dX2_writeRow_91 : decode cX2_writeRow 91 = .ok (.return_, 1) := by decide +kernel
set_option maxRecDepth 20000 in
theorem ggX2_expand_J6_bitCount_0f7a4 : GoodIn wsX2_expand wsJ6_bitCount_0f7a4 := goodIn_r _ [6, 7, 8, 9] (by decide +kernel) (by decide +kernel)
set_option maxRecDepth 20000 in
theorem gX2_expand_J6_bitCount_0f7a4 : GoodIn wsX2_expand (va_wsS RX2 84 yJ6_bitCount_0f7a4 wsJ6_bitCount_0f7a4) := goodIn_app (goodIn_of _ (by decide +kernel)) ggX2_expand_J6_bitCount_0f7a4
set_option maxRecDepth 20000 in
theorem ggX2_expand_X8_clear : GoodIn wsX2_expand wsX8_clear := goodIn_r _ [14, 15, 16, 17, 18, 19, 20, 21, 50, 51, 52] (by decide +kernel) (by decide +kernel)
set_option maxRecDepth 20000 in
theorem gX2_expand_X8_clear : GoodIn wsX2_expand (wsV RX2 90 RX8 yX8_clear wsX8_clear) := goodIn_app (goodIn_of _ (by decide +kernel)) ggX2_expand_X8_clear
set_option maxRecDepth 20000 in
theorem ggX2_expand_X8_add : GoodIn wsX2_expand wsX8_add := goodIn_r _ [25, 16, 15, 26, 27, 28, 29, 50, 51, 52] (by decide +kernel) (by decide +kernel)
set_option maxRecDepth 20000 in
theorem gX2_expand_X8_add : GoodIn wsX2_expand (wsV RX2 93 RX8 yX8_add wsX8_add) := goodIn_app (goodIn_of _ (by decide +kernel)) ggX2_expand_X8_add
set_option maxRecDepth 20000 in
theorem ggX2_expand_X8_settle : GoodIn wsX2_expand wsX8_settle := goodIn_r _ [33, 15, 34, 35, 36, 37, 38, 39, 40, 41, 13, 42, 43, 44, 45, 46, 47, 16, 17, 50, 51, 52] (by decide +kernel) (by decide +kernel)
set_option maxRecDepth 20000 in
theorem gX2_expand_X8_settle : GoodIn wsX2_expand (wsV RX2 97 RX8 yX8_settle wsX8_settle) := goodIn_app (goodIn_of _ (by decide +kernel)) ggX2_expand_X8_settle
theorem dX2_expand_0 : decode cX2_expand 0 = .ok (.aload_n 0, 1) := by decide +kernel
theorem dX2_expand_1 : decode cX2_expand 1 = .ok (.getfield 11, 3) := by decide +kernel
theorem dX2_expand_4 : decode cX2_expand 4 = .ok (.iload_n 1, 1) := by decide +kernel
theorem dX2_expand_5 : decode cX2_expand 5 = .ok (.invokestatic 84, 3) := by decide +kernel
theorem dX2_expand_8 : decode cX2_expand 8 = .ok (.iconst 1, 1) := by decide +kernel
theorem dX2_expand_9 : decode cX2_expand 9 = .ok (.isub, 1) := by decide +kernel
theorem dX2_expand_10 : decode cX2_expand 10 = .ok (.aaload, 1) := by decide +kernel
theorem dX2_expand_11 : decode cX2_expand 11 = .ok (.astore_n 3, 1) := by decide +kernel
theorem dX2_expand_12 : decode cX2_expand 12 = .ok (.aload_n 0, 1) := by decide +kernel
theorem dX2_expand_13 : decode cX2_expand 13 = .ok (.getfield 18, 3) := by decide +kernel
theorem dX2_expand_16 : decode cX2_expand 16 = .ok (.iload_n 1, 1) := by decide +kernel
theorem dX2_expand_17 : decode cX2_expand 17 = .ok (.aaload, 1) := by decide +kernel
theorem dX2_expand_18 : decode cX2_expand 18 = .ok (.astore 4, 2) := by decide +kernel
theorem dX2_expand_20 : decode cX2_expand 20 = .ok (.aload 4, 2) := by decide +kernel
theorem dX2_expand_22 : decode cX2_expand 22 = .ok (.invokevirtual 90, 3) := by decide +kernel
theorem dX2_expand_25 : decode cX2_expand 25 = .ok (.iconst 1, 1) := by decide +kernel
theorem dX2_expand_26 : decode cX2_expand 26 = .ok (.istore 5, 2) := by decide +kernel
theorem dX2_expand_28 : decode cX2_expand 28 = .ok (.iload_n 2, 1) := by decide +kernel
theorem dX2_expand_29 : decode cX2_expand 29 = .ok (.istore 6, 2) := by decide +kernel
theorem dX2_expand_31 : decode cX2_expand 31 = .ok (.iload 6, 2) := by decide +kernel
theorem dX2_expand_33 : decode cX2_expand 33 = .ok (.ifCond .lt 55, 3) := by decide +kernel
theorem dX2_expand_36 : decode cX2_expand 36 = .ok (.iload_n 1, 1) := by decide +kernel
theorem dX2_expand_37 : decode cX2_expand 37 = .ok (.iload 6, 2) := by decide +kernel
theorem dX2_expand_39 : decode cX2_expand 39 = .ok (.ishr, 1) := by decide +kernel
theorem dX2_expand_40 : decode cX2_expand 40 = .ok (.iconst 1, 1) := by decide +kernel
theorem dX2_expand_41 : decode cX2_expand 41 = .ok (.iand, 1) := by decide +kernel
theorem dX2_expand_42 : decode cX2_expand 42 = .ok (.ifCond .eq 40, 3) := by decide +kernel
theorem dX2_expand_45 : decode cX2_expand 45 = .ok (.aload_n 3, 1) := by decide +kernel
theorem dX2_expand_46 : decode cX2_expand 46 = .ok (.iload 6, 2) := by decide +kernel
theorem dX2_expand_48 : decode cX2_expand 48 = .ok (.iaload, 1) := by decide +kernel
theorem dX2_expand_49 : decode cX2_expand 49 = .ok (.ifCond .eq 28, 3) := by decide +kernel
theorem dX2_expand_52 : decode cX2_expand 52 = .ok (.aload 4, 2) := by decide +kernel
theorem dX2_expand_54 : decode cX2_expand 54 = .ok (.aload_n 0, 1) := by decide +kernel
theorem dX2_expand_55 : decode cX2_expand 55 = .ok (.getfield 18, 3) := by decide +kernel
theorem dX2_expand_58 : decode cX2_expand 58 = .ok (.iload_n 1, 1) := by decide +kernel
theorem dX2_expand_59 : decode cX2_expand 59 = .ok (.iconst 1, 1) := by decide +kernel
theorem dX2_expand_60 : decode cX2_expand 60 = .ok (.iload 6, 2) := by decide +kernel
theorem dX2_expand_62 : decode cX2_expand 62 = .ok (.ishl, 1) := by decide +kernel
theorem dX2_expand_63 : decode cX2_expand 63 = .ok (.ixor, 1) := by decide +kernel
theorem dX2_expand_64 : decode cX2_expand 64 = .ok (.aaload, 1) := by decide +kernel
theorem dX2_expand_65 : decode cX2_expand 65 = .ok (.iload 5, 2) := by decide +kernel
theorem dX2_expand_67 : decode cX2_expand 67 = .ok (.i2l, 1) := by decide +kernel
theorem dX2_expand_68 : decode cX2_expand 68 = .ok (.aload_n 3, 1) := by decide +kernel
theorem dX2_expand_69 : decode cX2_expand 69 = .ok (.iload 6, 2) := by decide +kernel
theorem dX2_expand_71 : decode cX2_expand 71 = .ok (.iaload, 1) := by decide +kernel
theorem dX2_expand_72 : decode cX2_expand 72 = .ok (.i2l, 1) := by decide +kernel
theorem dX2_expand_73 : decode cX2_expand 73 = .ok (.lmul, 1) := by decide +kernel
theorem dX2_expand_74 : decode cX2_expand 74 = .ok (.invokevirtual 93, 3) := by decide +kernel
theorem dX2_expand_77 : decode cX2_expand 77 = .ok (.iload 5, 2) := by decide +kernel
theorem dX2_expand_79 : decode cX2_expand 79 = .ok (.ineg, 1) := by decide +kernel
theorem dX2_expand_80 : decode cX2_expand 80 = .ok (.istore 5, 2) := by decide +kernel
theorem dX2_expand_82 : decode cX2_expand 82 = .ok (.iinc 6 (-1), 3) := by decide +kernel
theorem dX2_expand_85 : decode cX2_expand 85 = .ok (.goto (-54), 3) := by decide +kernel
theorem dX2_expand_88 : decode cX2_expand 88 = .ok (.aload 4, 2) := by decide +kernel
theorem dX2_expand_90 : decode cX2_expand 90 = .ok (.invokevirtual 97, 3) := by decide +kernel
theorem dX2_expand_93 : decode cX2_expand 93 = .ok (.return_, 1) := by decide +kernel
set_option maxRecDepth 20000 in
theorem ggX3_init_X8_init : GoodIn wsX3_init wsX8_init := goodIn_r _ [14, 15, 2, 3, 16, 17, 18, 19, 20, 21, 22] (by decide +kernel) (by decide +kernel)
set_option maxRecDepth 20000 in
theorem gX3_init_X8_init : GoodIn wsX3_init (wsX8_init) := ggX3_init_X8_init
theorem dX3_init_0 : decode cX3_init 0 = .ok (.aload_n 0, 1) := by decide +kernel
theorem dX3_init_1 : decode cX3_init 1 = .ok (.invokespecial 3, 3) := by decide +kernel
theorem dX3_init_4 : decode cX3_init 4 = .ok (.aload_n 0, 1) := by decide +kernel
theorem dX3_init_5 : decode cX3_init 5 = .ok (.new 9, 3) := by decide +kernel
theorem dX3_init_8 : decode cX3_init 8 = .ok (.dup, 1) := by decide +kernel
theorem dX3_init_9 : decode cX3_init 9 = .ok (.bipush 24, 2) := by decide +kernel
theorem dX3_init_11 : decode cX3_init 11 = .ok (.invokespecial 11, 3) := by decide +kernel
theorem dX3_init_14 : decode cX3_init 14 = .ok (.putfield 14, 3) := by decide +kernel
theorem dX3_init_17 : decode cX3_init 17 = .ok (.aload_n 0, 1) := by decide +kernel
theorem dX3_init_18 : decode cX3_init 18 = .ok (.new 9, 3) := by decide +kernel
theorem dX3_init_21 : decode cX3_init 21 = .ok (.dup, 1) := by decide +kernel
theorem dX3_init_22 : decode cX3_init 22 = .ok (.bipush 24, 2) := by decide +kernel
theorem dX3_init_24 : decode cX3_init 24 = .ok (.invokespecial 11, 3) := by decide +kernel
theorem dX3_init_27 : decode cX3_init 27 = .ok (.putfield 20, 3) := by decide +kernel
theorem dX3_init_30 : decode cX3_init 30 = .ok (.aload_n 0, 1) := by decide +kernel
theorem dX3_init_31 : decode cX3_init 31 = .ok (.new 9, 3) := by decide +kernel
theorem dX3_init_34 : decode cX3_init 34 = .ok (.dup, 1) := by decide +kernel
theorem dX3_init_35 : decode cX3_init 35 = .ok (.bipush 24, 2) := by decide +kernel
theorem dX3_init_37 : decode cX3_init 37 = .ok (.invokespecial 11, 3) := by decide +kernel
theorem dX3_init_40 : decode cX3_init 40 = .ok (.putfield 23, 3) := by decide +kernel
theorem dX3_init_43 : decode cX3_init 43 = .ok (.aload_n 0, 1) := by decide +kernel
theorem dX3_init_44 : decode cX3_init 44 = .ok (.new 9, 3) := by decide +kernel
theorem dX3_init_47 : decode cX3_init 47 = .ok (.dup, 1) := by decide +kernel
theorem dX3_init_48 : decode cX3_init 48 = .ok (.bipush 24, 2) := by decide +kernel
theorem dX3_init_50 : decode cX3_init 50 = .ok (.invokespecial 11, 3) := by decide +kernel
theorem dX3_init_53 : decode cX3_init 53 = .ok (.putfield 26, 3) := by decide +kernel
theorem dX3_init_56 : decode cX3_init 56 = .ok (.aload_n 0, 1) := by decide +kernel
theorem dX3_init_57 : decode cX3_init 57 = .ok (.new 9, 3) := by decide +kernel
theorem dX3_init_60 : decode cX3_init 60 = .ok (.dup, 1) := by decide +kernel
theorem dX3_init_61 : decode cX3_init 61 = .ok (.bipush 24, 2) := by decide +kernel
theorem dX3_init_63 : decode cX3_init 63 = .ok (.invokespecial 11, 3) := by decide +kernel
theorem dX3_init_66 : decode cX3_init 66 = .ok (.putfield 29, 3) := by decide +kernel
theorem dX3_init_69 : decode cX3_init 69 = .ok (.return_, 1) := by decide +kernel
set_option maxRecDepth 20000 in
theorem ggX3_tell_X3_reduce : GoodIn wsX3_tell wsX3_reduce := goodIn_r _ [8, 1, 9, 3, 10, 11, 12, 13, 14, 15, 16, 17, 18, 19, 20, 7, 21, 22, 23, 24, 25, 26, 27, 28, 29, 30, 31, 32, 33, 34, 35, 36, 37, 38, 39, 40, 41, 42, 43, 44, 45, 46, 47, 48, 49, 50, 51, 52, 53, 54, 55, 56, 57, 58, 59, 60, 61, 62, 63, 64, 65, 66, 67, 68, 69, 70, 71, 72, 73, 74, 75, 76, 81, 82, 83, 84, 85, 86, 87, 88] (by decide +kernel) (by decide +kernel)
set_option maxRecDepth 20000 in
theorem gX3_tell_X3_reduce : GoodIn wsX3_tell (wsV RX3 36 RX3 yX3_reduce wsX3_reduce) := goodIn_app (goodIn_of _ (by decide +kernel)) ggX3_tell_X3_reduce
set_option maxRecDepth 20000 in
theorem ggX3_tell_X8_eighteen : GoodIn wsX3_tell wsX8_eighteen := goodIn_r _ [80, 17, 60, 61, 62, 63, 13, 64, 16, 86, 87, 88] (by decide +kernel) (by decide +kernel)
set_option maxRecDepth 20000 in
theorem gX3_tell_X8_eighteen : GoodIn wsX3_tell (wsV RX3 39 RX8 yX8_eighteen wsX8_eighteen) := goodIn_app (goodIn_of _ (by decide +kernel)) ggX3_tell_X8_eighteen
theorem dX3_tell_0 : decode cX3_tell 0 = .ok (.iload_n 1, 1) := by decide +kernel
theorem dX3_tell_1 : decode cX3_tell 1 = .ok (.iconst (-1), 1) := by decide +kernel
theorem dX3_tell_2 : decode cX3_tell 2 = .ok (.if_icmp .ne 12, 3) := by decide +kernel
theorem dX3_tell_5 : decode cX3_tell 5 = .ok (.aload_n 0, 1) := by decide +kernel
theorem dX3_tell_6 : decode cX3_tell 6 = .ok (.getfield 14, 3) := by decide +kernel
theorem dX3_tell_9 : decode cX3_tell 9 = .ok (.getfield 32, 3) := by decide +kernel
theorem dX3_tell_12 : decode cX3_tell 12 = .ok (.i2l, 1) := by decide +kernel
theorem dX3_tell_13 : decode cX3_tell 13 = .ok (.lreturn, 1) := by decide +kernel
theorem dX3_tell_14 : decode cX3_tell 14 = .ok (.aload_n 0, 1) := by decide +kernel
theorem dX3_tell_15 : decode cX3_tell 15 = .ok (.invokevirtual 36, 3) := by decide +kernel
theorem dX3_tell_18 : decode cX3_tell 18 = .ok (.iload_n 1, 1) := by decide +kernel
theorem dX3_tell_19 : decode cX3_tell 19 = .ok (.iconst 2, 1) := by decide +kernel
theorem dX3_tell_20 : decode cX3_tell 20 = .ok (.irem, 1) := by decide +kernel
theorem dX3_tell_21 : decode cX3_tell 21 = .ok (.ifCond .ne 16, 3) := by decide +kernel
theorem dX3_tell_24 : decode cX3_tell 24 = .ok (.aload_n 0, 1) := by decide +kernel
theorem dX3_tell_25 : decode cX3_tell 25 = .ok (.getfield 14, 3) := by decide +kernel
theorem dX3_tell_28 : decode cX3_tell 28 = .ok (.iload_n 1, 1) := by decide +kernel
theorem dX3_tell_29 : decode cX3_tell 29 = .ok (.iconst 2, 1) := by decide +kernel
theorem dX3_tell_30 : decode cX3_tell 30 = .ok (.idiv, 1) := by decide +kernel
theorem dX3_tell_31 : decode cX3_tell 31 = .ok (.invokevirtual 39, 3) := by decide +kernel
theorem dX3_tell_34 : decode cX3_tell 34 = .ok (.goto 13, 3) := by decide +kernel
theorem dX3_tell_37 : decode cX3_tell 37 = .ok (.aload_n 0, 1) := by decide +kernel
theorem dX3_tell_38 : decode cX3_tell 38 = .ok (.getfield 20, 3) := by decide +kernel
theorem dX3_tell_41 : decode cX3_tell 41 = .ok (.iload_n 1, 1) := by decide +kernel
theorem dX3_tell_42 : decode cX3_tell 42 = .ok (.iconst 2, 1) := by decide +kernel
theorem dX3_tell_43 : decode cX3_tell 43 = .ok (.idiv, 1) := by decide +kernel
theorem dX3_tell_44 : decode cX3_tell 44 = .ok (.invokevirtual 39, 3) := by decide +kernel
theorem dX3_tell_47 : decode cX3_tell 47 = .ok (.lreturn, 1) := by decide +kernel
set_option maxRecDepth 20000 in
theorem ggX3_reduce_X8_dropSign : GoodIn wsX3_reduce wsX8_dropSign := goodIn_r _ [8, 9, 10, 11, 77, 78, 79] (by decide +kernel) (by decide +kernel)
set_option maxRecDepth 20000 in
theorem gX3_reduce_X8_dropSign : GoodIn wsX3_reduce (wsV RX3 43 RX8 yX8_dropSign wsX8_dropSign) := goodIn_app (goodIn_of _ (by decide +kernel)) ggX3_reduce_X8_dropSign
set_option maxRecDepth 20000 in
theorem ggX3_reduce_X3_commonDivisor : GoodIn wsX3_reduce wsX3_commonDivisor := goodIn_r _ [16, 17, 18, 1, 3, 19, 2, 20, 21, 22, 7, 23, 10, 11, 24, 25, 26, 27, 28, 29, 30, 31, 9, 32, 33, 34, 35, 36, 37, 38, 39, 40, 41, 42, 43, 44, 45, 46, 47, 48, 49, 50, 51, 52, 53, 54, 55, 56, 57, 58, 59, 60, 61, 62, 63, 64, 65, 66, 67, 68, 69, 70, 71, 72, 73, 74, 75, 76, 77, 78, 79] (by decide +kernel) (by decide +kernel)
set_option maxRecDepth 20000 in
theorem gX3_reduce_X3_commonDivisor : GoodIn wsX3_reduce (wsV RX3 46 RX3 yX3_commonDivisor wsX3_commonDivisor) := goodIn_app (goodIn_of _ (by decide +kernel)) ggX3_reduce_X3_commonDivisor
set_option maxRecDepth 20000 in
theorem ggX3_reduce_X8_divide : GoodIn wsX3_reduce wsX8_divide := goodIn_r _ [43, 10, 44, 45, 26, 46, 11, 32, 33, 34, 7, 35, 9, 36, 37, 38, 39, 47, 48, 49, 50, 51, 52, 53, 54, 55, 56, 57, 58, 59, 60, 61, 62, 63, 64, 65, 66, 67, 68, 69, 70, 71, 77, 78, 79] (by decide +kernel) (by decide +kernel)
set_option maxRecDepth 20000 in
theorem gX3_reduce_X8_divide : GoodIn wsX3_reduce (wsV RX3 50 RX8 yX8_divide wsX8_divide) := goodIn_app (goodIn_of _ (by decide +kernel)) ggX3_reduce_X8_divide
set_option maxRecDepth 20000 in
theorem ggX3_reduce_X8_copy : GoodIn wsX3_reduce wsX8_copy := goodIn_r _ [23, 10, 11, 24, 25, 26, 27, 28, 29, 30, 31, 9, 32, 33, 34, 7, 35, 36, 37, 38, 39, 77, 78, 79] (by decide +kernel) (by decide +kernel)
set_option maxRecDepth 20000 in
theorem gX3_reduce_X8_copy : GoodIn wsX3_reduce (wsV RX3 54 RX8 yX8_copy wsX8_copy) := goodIn_app (goodIn_of _ (by decide +kernel)) ggX3_reduce_X8_copy
theorem dX3_reduce_0 : decode cX3_reduce 0 = .ok (.aload_n 0, 1) := by decide +kernel
theorem dX3_reduce_1 : decode cX3_reduce 1 = .ok (.getfield 14, 3) := by decide +kernel
theorem dX3_reduce_4 : decode cX3_reduce 4 = .ok (.invokevirtual 43, 3) := by decide +kernel
theorem dX3_reduce_7 : decode cX3_reduce 7 = .ok (.aload_n 0, 1) := by decide +kernel
theorem dX3_reduce_8 : decode cX3_reduce 8 = .ok (.invokevirtual 46, 3) := by decide +kernel
theorem dX3_reduce_11 : decode cX3_reduce 11 = .ok (.astore_n 1, 1) := by decide +kernel
theorem dX3_reduce_12 : decode cX3_reduce 12 = .ok (.aload_n 0, 1) := by decide +kernel
theorem dX3_reduce_13 : decode cX3_reduce 13 = .ok (.getfield 14, 3) := by decide +kernel
theorem dX3_reduce_16 : decode cX3_reduce 16 = .ok (.aload_n 1, 1) := by decide +kernel
theorem dX3_reduce_17 : decode cX3_reduce 17 = .ok (.aload_n 0, 1) := by decide +kernel
theorem dX3_reduce_18 : decode cX3_reduce 18 = .ok (.getfield 29, 3) := by decide +kernel
theorem dX3_reduce_21 : decode cX3_reduce 21 = .ok (.invokevirtual 50, 3) := by decide +kernel
theorem dX3_reduce_24 : decode cX3_reduce 24 = .ok (.aload_n 0, 1) := by decide +kernel
theorem dX3_reduce_25 : decode cX3_reduce 25 = .ok (.getfield 14, 3) := by decide +kernel
theorem dX3_reduce_28 : decode cX3_reduce 28 = .ok (.aload_n 0, 1) := by decide +kernel
theorem dX3_reduce_29 : decode cX3_reduce 29 = .ok (.getfield 29, 3) := by decide +kernel
theorem dX3_reduce_32 : decode cX3_reduce 32 = .ok (.invokevirtual 54, 3) := by decide +kernel
theorem dX3_reduce_35 : decode cX3_reduce 35 = .ok (.aload_n 0, 1) := by decide +kernel
theorem dX3_reduce_36 : decode cX3_reduce 36 = .ok (.getfield 20, 3) := by decide +kernel
theorem dX3_reduce_39 : decode cX3_reduce 39 = .ok (.aload_n 1, 1) := by decide +kernel
theorem dX3_reduce_40 : decode cX3_reduce 40 = .ok (.aload_n 0, 1) := by decide +kernel
theorem dX3_reduce_41 : decode cX3_reduce 41 = .ok (.getfield 29, 3) := by decide +kernel
theorem dX3_reduce_44 : decode cX3_reduce 44 = .ok (.invokevirtual 50, 3) := by decide +kernel
theorem dX3_reduce_47 : decode cX3_reduce 47 = .ok (.aload_n 0, 1) := by decide +kernel
theorem dX3_reduce_48 : decode cX3_reduce 48 = .ok (.getfield 20, 3) := by decide +kernel
theorem dX3_reduce_51 : decode cX3_reduce 51 = .ok (.aload_n 0, 1) := by decide +kernel
theorem dX3_reduce_52 : decode cX3_reduce 52 = .ok (.getfield 29, 3) := by decide +kernel
theorem dX3_reduce_55 : decode cX3_reduce 55 = .ok (.invokevirtual 54, 3) := by decide +kernel
theorem dX3_reduce_58 : decode cX3_reduce 58 = .ok (.return_, 1) := by decide +kernel
set_option maxRecDepth 20000 in
theorem ggX3_commonDivisor_X8_copy : GoodIn wsX3_commonDivisor wsX8_copy := goodIn_r _ [11, 12, 13, 14, 15, 16, 17, 18, 19, 20, 21, 22, 23, 24, 25, 10, 26, 27, 28, 29, 30, 68, 69, 70] (by decide +kernel) (by decide +kernel)
set_option maxRecDepth 20000 in
theorem gX3_commonDivisor_X8_copy : GoodIn wsX3_commonDivisor (wsV RX3 54 RX8 yX8_copy wsX8_copy) := goodIn_app (goodIn_of _ (by decide +kernel)) ggX3_commonDivisor_X8_copy
set_option maxRecDepth 20000 in
theorem ggX3_commonDivisor_X8_divide : GoodIn wsX3_commonDivisor wsX8_divide := goodIn_r _ [34, 12, 35, 36, 16, 37, 13, 23, 24, 25, 10, 26, 22, 27, 28, 29, 30, 38, 39, 40, 41, 42, 43, 44, 45, 46, 47, 48, 49, 50, 51, 52, 53, 54, 55, 56, 57, 58, 59, 60, 61, 62, 68, 69, 70] (by decide +kernel) (by decide +kernel)
set_option maxRecDepth 20000 in
theorem gX3_commonDivisor_X8_divide : GoodIn wsX3_commonDivisor (wsV RX3 50 RX8 yX8_divide wsX8_divide) := goodIn_app (goodIn_of _ (by decide +kernel)) ggX3_commonDivisor_X8_divide
theorem dX3_commonDivisor_0 : decode cX3_commonDivisor 0 = .ok (.aload_n 0, 1) := by decide +kernel
theorem dX3_commonDivisor_1 : decode cX3_commonDivisor 1 = .ok (.getfield 23, 3) := by decide +kernel
theorem dX3_commonDivisor_4 : decode cX3_commonDivisor 4 = .ok (.astore_n 1, 1) := by decide +kernel
theorem dX3_commonDivisor_5 : decode cX3_commonDivisor 5 = .ok (.aload_n 0, 1) := by decide +kernel
theorem dX3_commonDivisor_6 : decode cX3_commonDivisor 6 = .ok (.getfield 26, 3) := by decide +kernel
theorem dX3_commonDivisor_9 : decode cX3_commonDivisor 9 = .ok (.astore_n 2, 1) := by decide +kernel
theorem dX3_commonDivisor_10 : decode cX3_commonDivisor 10 = .ok (.aload_n 1, 1) := by decide +kernel
theorem dX3_commonDivisor_11 : decode cX3_commonDivisor 11 = .ok (.aload_n 0, 1) := by decide +kernel
theorem dX3_commonDivisor_12 : decode cX3_commonDivisor 12 = .ok (.getfield 14, 3) := by decide +kernel
theorem dX3_commonDivisor_15 : decode cX3_commonDivisor 15 = .ok (.invokevirtual 54, 3) := by decide +kernel
theorem dX3_commonDivisor_18 : decode cX3_commonDivisor 18 = .ok (.aload_n 2, 1) := by decide +kernel
theorem dX3_commonDivisor_19 : decode cX3_commonDivisor 19 = .ok (.aload_n 0, 1) := by decide +kernel
theorem dX3_commonDivisor_20 : decode cX3_commonDivisor 20 = .ok (.getfield 20, 3) := by decide +kernel
theorem dX3_commonDivisor_23 : decode cX3_commonDivisor 23 = .ok (.invokevirtual 54, 3) := by decide +kernel
theorem dX3_commonDivisor_26 : decode cX3_commonDivisor 26 = .ok (.iconst 0, 1) := by decide +kernel
theorem dX3_commonDivisor_27 : decode cX3_commonDivisor 27 = .ok (.istore_n 3, 1) := by decide +kernel
theorem dX3_commonDivisor_28 : decode cX3_commonDivisor 28 = .ok (.iload_n 3, 1) := by decide +kernel
theorem dX3_commonDivisor_29 : decode cX3_commonDivisor 29 = .ok (.sipush 1000, 3) := by decide +kernel
theorem dX3_commonDivisor_32 : decode cX3_commonDivisor 32 = .ok (.if_icmp .ge 33, 3) := by decide +kernel
theorem dX3_commonDivisor_35 : decode cX3_commonDivisor 35 = .ok (.aload_n 2, 1) := by decide +kernel
theorem dX3_commonDivisor_36 : decode cX3_commonDivisor 36 = .ok (.getfield 58, 3) := by decide +kernel
theorem dX3_commonDivisor_39 : decode cX3_commonDivisor 39 = .ok (.ifCond .le 26, 3) := by decide +kernel
theorem dX3_commonDivisor_42 : decode cX3_commonDivisor 42 = .ok (.aload_n 1, 1) := by decide +kernel
theorem dX3_commonDivisor_43 : decode cX3_commonDivisor 43 = .ok (.aload_n 2, 1) := by decide +kernel
theorem dX3_commonDivisor_44 : decode cX3_commonDivisor 44 = .ok (.aload_n 0, 1) := by decide +kernel
theorem dX3_commonDivisor_45 : decode cX3_commonDivisor 45 = .ok (.getfield 29, 3) := by decide +kernel
theorem dX3_commonDivisor_48 : decode cX3_commonDivisor 48 = .ok (.invokevirtual 50, 3) := by decide +kernel
theorem dX3_commonDivisor_51 : decode cX3_commonDivisor 51 = .ok (.aload_n 1, 1) := by decide +kernel
theorem dX3_commonDivisor_52 : decode cX3_commonDivisor 52 = .ok (.astore 4, 2) := by decide +kernel
theorem dX3_commonDivisor_54 : decode cX3_commonDivisor 54 = .ok (.aload_n 2, 1) := by decide +kernel
theorem dX3_commonDivisor_55 : decode cX3_commonDivisor 55 = .ok (.astore_n 1, 1) := by decide +kernel
theorem dX3_commonDivisor_56 : decode cX3_commonDivisor 56 = .ok (.aload 4, 2) := by decide +kernel
theorem dX3_commonDivisor_58 : decode cX3_commonDivisor 58 = .ok (.astore_n 2, 1) := by decide +kernel
theorem dX3_commonDivisor_59 : decode cX3_commonDivisor 59 = .ok (.iinc 3 1, 3) := by decide +kernel
theorem dX3_commonDivisor_62 : decode cX3_commonDivisor 62 = .ok (.goto (-34), 3) := by decide +kernel
theorem dX3_commonDivisor_65 : decode cX3_commonDivisor 65 = .ok (.aload_n 1, 1) := by decide +kernel
theorem dX3_commonDivisor_66 : decode cX3_commonDivisor 66 = .ok (.areturn, 1) := by decide +kernel
set_option maxRecDepth 20000 in
theorem ggX4_init_X8_init : GoodIn wsX4_init wsX8_init := goodIn_r _ [11, 12, 2, 3, 13, 14, 15, 16, 17, 18, 19] (by decide +kernel) (by decide +kernel)
set_option maxRecDepth 20000 in
theorem gX4_init_X8_init : GoodIn wsX4_init (wsX8_init) := ggX4_init_X8_init
theorem dX4_init_0 : decode cX4_init 0 = .ok (.aload_n 0, 1) := by decide +kernel
theorem dX4_init_1 : decode cX4_init 1 = .ok (.invokespecial 3, 3) := by decide +kernel
theorem dX4_init_4 : decode cX4_init 4 = .ok (.aload_n 0, 1) := by decide +kernel
theorem dX4_init_5 : decode cX4_init 5 = .ok (.new 9, 3) := by decide +kernel
theorem dX4_init_8 : decode cX4_init 8 = .ok (.dup, 1) := by decide +kernel
theorem dX4_init_9 : decode cX4_init 9 = .ok (.bipush 24, 2) := by decide +kernel
theorem dX4_init_11 : decode cX4_init 11 = .ok (.invokespecial 11, 3) := by decide +kernel
theorem dX4_init_14 : decode cX4_init 14 = .ok (.putfield 14, 3) := by decide +kernel
theorem dX4_init_17 : decode cX4_init 17 = .ok (.aload_n 0, 1) := by decide +kernel
theorem dX4_init_18 : decode cX4_init 18 = .ok (.iconst 1, 1) := by decide +kernel
theorem dX4_init_19 : decode cX4_init 19 = .ok (.putfield 20, 3) := by decide +kernel
theorem dX4_init_22 : decode cX4_init 22 = .ok (.return_, 1) := by decide +kernel
set_option maxRecDepth 20000 in
theorem ggX4_weigh_X8_clear : GoodIn wsX4_weigh wsX8_clear := goodIn_r _ [16, 17, 18, 19, 20, 21, 22, 23, 63, 64, 65] (by decide +kernel) (by decide +kernel)
set_option maxRecDepth 20000 in
theorem gX4_weigh_X8_clear : GoodIn wsX4_weigh (wsV RX4 37 RX8 yX8_clear wsX8_clear) := goodIn_app (goodIn_of _ (by decide +kernel)) ggX4_weigh_X8_clear
set_option maxRecDepth 20000 in
theorem ggX4_weigh_X8_add : GoodIn wsX4_weigh wsX8_add := goodIn_r _ [27, 18, 17, 28, 29, 30, 31, 63, 64, 65] (by decide +kernel) (by decide +kernel)
set_option maxRecDepth 20000 in
theorem gX4_weigh_X8_add : GoodIn wsX4_weigh (wsV RX4 46 RX8 yX8_add wsX8_add) := goodIn_app (goodIn_of _ (by decide +kernel)) ggX4_weigh_X8_add
set_option maxRecDepth 20000 in
theorem ggX4_weigh_X8_settle : GoodIn wsX4_weigh wsX8_settle := goodIn_r _ [35, 17, 36, 37, 38, 39, 40, 41, 42, 43, 15, 44, 45, 46, 47, 48, 49, 18, 19, 63, 64, 65] (by decide +kernel) (by decide +kernel)
set_option maxRecDepth 20000 in
theorem gX4_weigh_X8_settle : GoodIn wsX4_weigh (wsV RX4 63 RX8 yX8_settle wsX8_settle) := goodIn_app (goodIn_of _ (by decide +kernel)) ggX4_weigh_X8_settle
theorem dX4_weigh_0 : decode cX4_weigh 0 = .ok (.aload_n 0, 1) := by decide +kernel
theorem dX4_weigh_1 : decode cX4_weigh 1 = .ok (.aload_n 2, 1) := by decide +kernel
theorem dX4_weigh_2 : decode cX4_weigh 2 = .ok (.getfield 24, 3) := by decide +kernel
theorem dX4_weigh_5 : decode cX4_weigh 5 = .ok (.aload_n 1, 1) := by decide +kernel
theorem dX4_weigh_6 : decode cX4_weigh 6 = .ok (.getfield 29, 3) := by decide +kernel
theorem dX4_weigh_9 : decode cX4_weigh 9 = .ok (.imul, 1) := by decide +kernel
theorem dX4_weigh_10 : decode cX4_weigh 10 = .ok (.aload_n 2, 1) := by decide +kernel
theorem dX4_weigh_11 : decode cX4_weigh 11 = .ok (.getfield 34, 3) := by decide +kernel
theorem dX4_weigh_14 : decode cX4_weigh 14 = .ok (.imul, 1) := by decide +kernel
theorem dX4_weigh_15 : decode cX4_weigh 15 = .ok (.putfield 20, 3) := by decide +kernel
theorem dX4_weigh_18 : decode cX4_weigh 18 = .ok (.aload_n 0, 1) := by decide +kernel
theorem dX4_weigh_19 : decode cX4_weigh 19 = .ok (.getfield 14, 3) := by decide +kernel
theorem dX4_weigh_22 : decode cX4_weigh 22 = .ok (.invokevirtual 37, 3) := by decide +kernel
theorem dX4_weigh_25 : decode cX4_weigh 25 = .ok (.aload_n 0, 1) := by decide +kernel
theorem dX4_weigh_26 : decode cX4_weigh 26 = .ok (.getfield 14, 3) := by decide +kernel
theorem dX4_weigh_29 : decode cX4_weigh 29 = .ok (.aload_n 3, 1) := by decide +kernel
theorem dX4_weigh_30 : decode cX4_weigh 30 = .ok (.getfield 40, 3) := by decide +kernel
theorem dX4_weigh_33 : decode cX4_weigh 33 = .ok (.aload_n 2, 1) := by decide +kernel
theorem dX4_weigh_34 : decode cX4_weigh 34 = .ok (.getfield 44, 3) := by decide +kernel
theorem dX4_weigh_37 : decode cX4_weigh 37 = .ok (.i2l, 1) := by decide +kernel
theorem dX4_weigh_38 : decode cX4_weigh 38 = .ok (.aload_n 1, 1) := by decide +kernel
theorem dX4_weigh_39 : decode cX4_weigh 39 = .ok (.getfield 29, 3) := by decide +kernel
theorem dX4_weigh_42 : decode cX4_weigh 42 = .ok (.i2l, 1) := by decide +kernel
theorem dX4_weigh_43 : decode cX4_weigh 43 = .ok (.lmul, 1) := by decide +kernel
theorem dX4_weigh_44 : decode cX4_weigh 44 = .ok (.aload_n 2, 1) := by decide +kernel
theorem dX4_weigh_45 : decode cX4_weigh 45 = .ok (.getfield 34, 3) := by decide +kernel
theorem dX4_weigh_48 : decode cX4_weigh 48 = .ok (.i2l, 1) := by decide +kernel
theorem dX4_weigh_49 : decode cX4_weigh 49 = .ok (.lmul, 1) := by decide +kernel
theorem dX4_weigh_50 : decode cX4_weigh 50 = .ok (.invokevirtual 46, 3) := by decide +kernel
theorem dX4_weigh_53 : decode cX4_weigh 53 = .ok (.iconst 0, 1) := by decide +kernel
theorem dX4_weigh_54 : decode cX4_weigh 54 = .ok (.istore 4, 2) := by decide +kernel
theorem dX4_weigh_56 : decode cX4_weigh 56 = .ok (.iload 4, 2) := by decide +kernel
theorem dX4_weigh_58 : decode cX4_weigh 58 = .ok (.aload_n 1, 1) := by decide +kernel
theorem dX4_weigh_59 : decode cX4_weigh 59 = .ok (.getfield 50, 3) := by decide +kernel
theorem dX4_weigh_62 : decode cX4_weigh 62 = .ok (.if_icmp .ge 43, 3) := by decide +kernel
theorem dX4_weigh_65 : decode cX4_weigh 65 = .ok (.aload_n 0, 1) := by decide +kernel
theorem dX4_weigh_66 : decode cX4_weigh 66 = .ok (.getfield 14, 3) := by decide +kernel
theorem dX4_weigh_69 : decode cX4_weigh 69 = .ok (.aload_n 3, 1) := by decide +kernel
theorem dX4_weigh_70 : decode cX4_weigh 70 = .ok (.getfield 53, 3) := by decide +kernel
theorem dX4_weigh_73 : decode cX4_weigh 73 = .ok (.iload 4, 2) := by decide +kernel
theorem dX4_weigh_75 : decode cX4_weigh 75 = .ok (.aaload, 1) := by decide +kernel
theorem dX4_weigh_76 : decode cX4_weigh 76 = .ok (.aload_n 2, 1) := by decide +kernel
theorem dX4_weigh_77 : decode cX4_weigh 77 = .ok (.getfield 24, 3) := by decide +kernel
theorem dX4_weigh_80 : decode cX4_weigh 80 = .ok (.i2l, 1) := by decide +kernel
theorem dX4_weigh_81 : decode cX4_weigh 81 = .ok (.aload_n 1, 1) := by decide +kernel
theorem dX4_weigh_82 : decode cX4_weigh 82 = .ok (.getfield 56, 3) := by decide +kernel
theorem dX4_weigh_85 : decode cX4_weigh 85 = .ok (.i2l, 1) := by decide +kernel
theorem dX4_weigh_86 : decode cX4_weigh 86 = .ok (.lmul, 1) := by decide +kernel
theorem dX4_weigh_87 : decode cX4_weigh 87 = .ok (.aload_n 2, 1) := by decide +kernel
theorem dX4_weigh_88 : decode cX4_weigh 88 = .ok (.getfield 59, 3) := by decide +kernel
theorem dX4_weigh_91 : decode cX4_weigh 91 = .ok (.iload 4, 2) := by decide +kernel
theorem dX4_weigh_93 : decode cX4_weigh 93 = .ok (.iaload, 1) := by decide +kernel
theorem dX4_weigh_94 : decode cX4_weigh 94 = .ok (.i2l, 1) := by decide +kernel
theorem dX4_weigh_95 : decode cX4_weigh 95 = .ok (.lmul, 1) := by decide +kernel
theorem dX4_weigh_96 : decode cX4_weigh 96 = .ok (.invokevirtual 46, 3) := by decide +kernel
theorem dX4_weigh_99 : decode cX4_weigh 99 = .ok (.iinc 4 1, 3) := by decide +kernel
theorem dX4_weigh_102 : decode cX4_weigh 102 = .ok (.goto (-46), 3) := by decide +kernel
theorem dX4_weigh_105 : decode cX4_weigh 105 = .ok (.aload_n 0, 1) := by decide +kernel
theorem dX4_weigh_106 : decode cX4_weigh 106 = .ok (.getfield 14, 3) := by decide +kernel
theorem dX4_weigh_109 : decode cX4_weigh 109 = .ok (.invokevirtual 63, 3) := by decide +kernel
theorem dX4_weigh_112 : decode cX4_weigh 112 = .ok (.return_, 1) := by decide +kernel
set_option maxRecDepth 20000 in
theorem ggX5_init_X7_init : GoodIn wsX5_init wsX7_init := goodIn_r _ [14, 15, 2, 3, 16, 17, 18, 19, 20, 21, 22, 23, 24, 25, 26, 27, 28, 32, 33, 34, 35, 36] (by decide +kernel) (by decide +kernel)
set_option maxRecDepth 20000 in
theorem gX5_init_X7_init : GoodIn wsX5_init (wsX7_init) := ggX5_init_X7_init
theorem dX5_init_0 : decode cX5_init 0 = .ok (.aload_n 0, 1) := by decide +kernel
theorem dX5_init_1 : decode cX5_init 1 = .ok (.invokespecial 3, 3) := by decide +kernel
theorem dX5_init_4 : decode cX5_init 4 = .ok (.aload_n 0, 1) := by decide +kernel
theorem dX5_init_5 : decode cX5_init 5 = .ok (.bipush 9, 2) := by decide +kernel
theorem dX5_init_7 : decode cX5_init 7 = .ok (.anewarray 9, 3) := by decide +kernel
theorem dX5_init_10 : decode cX5_init 10 = .ok (.putfield 11, 3) := by decide +kernel
theorem dX5_init_13 : decode cX5_init 13 = .ok (.iconst 0, 1) := by decide +kernel
theorem dX5_init_14 : decode cX5_init 14 = .ok (.istore_n 1, 1) := by decide +kernel
theorem dX5_init_15 : decode cX5_init 15 = .ok (.iload_n 1, 1) := by decide +kernel
theorem dX5_init_16 : decode cX5_init 16 = .ok (.bipush 8, 2) := by decide +kernel
theorem dX5_init_18 : decode cX5_init 18 = .ok (.if_icmp .gt 24, 3) := by decide +kernel
theorem dX5_init_21 : decode cX5_init 21 = .ok (.aload_n 0, 1) := by decide +kernel
theorem dX5_init_22 : decode cX5_init 22 = .ok (.getfield 11, 3) := by decide +kernel
theorem dX5_init_25 : decode cX5_init 25 = .ok (.iload_n 1, 1) := by decide +kernel
theorem dX5_init_26 : decode cX5_init 26 = .ok (.new 9, 3) := by decide +kernel
theorem dX5_init_29 : decode cX5_init 29 = .ok (.dup, 1) := by decide +kernel
theorem dX5_init_30 : decode cX5_init 30 = .ok (.bipush 24, 2) := by decide +kernel
theorem dX5_init_32 : decode cX5_init 32 = .ok (.invokespecial 17, 3) := by decide +kernel
theorem dX5_init_35 : decode cX5_init 35 = .ok (.aastore, 1) := by decide +kernel
theorem dX5_init_36 : decode cX5_init 36 = .ok (.iinc 1 1, 3) := by decide +kernel
theorem dX5_init_39 : decode cX5_init 39 = .ok (.goto (-24), 3) := by decide +kernel
theorem dX5_init_42 : decode cX5_init 42 = .ok (.aload_n 0, 1) := by decide +kernel
theorem dX5_init_43 : decode cX5_init 43 = .ok (.bipush 9, 2) := by decide +kernel
theorem dX5_init_45 : decode cX5_init 45 = .ok (.bipush 6, 2) := by decide +kernel
theorem dX5_init_47 : decode cX5_init 47 = .ok (.multianewarray 20 2, 4) := by decide +kernel
theorem dX5_init_51 : decode cX5_init 51 = .ok (.putfield 22, 3) := by decide +kernel
theorem dX5_init_54 : decode cX5_init 54 = .ok (.aload_n 0, 1) := by decide +kernel
theorem dX5_init_55 : decode cX5_init 55 = .ok (.iconst 0, 1) := by decide +kernel
theorem dX5_init_56 : decode cX5_init 56 = .ok (.putfield 25, 3) := by decide +kernel
theorem dX5_init_59 : decode cX5_init 59 = .ok (.return_, 1) := by decide +kernel
set_option maxRecDepth 20000 in
theorem ggX5_climb_X5_begin : GoodIn wsX5_climb wsX5_begin := goodIn_r _ [6, 7, 8, 9, 10, 11, 12, 13, 14, 15, 16, 17, 18, 19, 20, 21, 22, 23, 24, 25, 26, 27, 28, 29, 30, 31, 32, 33, 34, 35, 36, 37, 38, 39, 40, 41, 42, 43, 44, 45, 46, 47, 48, 49, 50, 51, 52, 53, 54, 55, 56, 57, 58, 59, 60, 61, 62, 63, 64, 139, 140, 141, 142, 143, 144, 145, 146, 147, 148, 149, 150, 151, 152, 153, 154, 155] (by decide +kernel) (by decide +kernel)
set_option maxRecDepth 20000 in
theorem gX5_climb_X5_begin : GoodIn wsX5_climb (wsV RX5 29 RX5 yX5_begin wsX5_begin) := goodIn_app (goodIn_of _ (by decide +kernel)) ggX5_climb_X5_begin
set_option maxRecDepth 20000 in
theorem ggX5_climb_X5_step : GoodIn wsX5_climb wsX5_step := goodIn_r _ [68, 7, 69, 70, 71, 8, 72, 73, 74, 75, 39, 40, 41, 9, 76, 77, 78, 79, 80, 81, 82, 83, 84, 85, 31, 32, 25, 33, 34, 86, 87, 88, 89, 90, 91, 92, 93, 94, 95, 96, 97, 98, 99, 100, 101, 102, 11, 12, 13, 14, 15, 16, 17, 18, 19, 20, 21, 103, 104, 105, 106, 107, 108, 109, 110, 48, 49, 50, 51, 52, 53, 54, 55, 56, 57, 58, 59, 60, 61, 62, 63, 64, 111, 112, 113, 114, 115, 116, 117, 118, 119, 120, 121, 122, 123, 124, 125, 126, 127, 128, 129, 130, 46, 131, 132, 133, 134, 135, 136, 137, 138, 47, 139, 140, 141, 147, 148, 149, 150, 151, 152, 153, 154, 155, 142, 143, 156, 157, 158, 159, 160, 144, 145, 146] (by decide +kernel) (by decide +kernel)
set_option maxRecDepth 20000 in
theorem gX5_climb_X5_step : GoodIn wsX5_climb (wsV RX5 33 RX5 yX5_step wsX5_step) := goodIn_app (goodIn_of _ (by decide +kernel)) ggX5_climb_X5_step
theorem dX5_climb_0 : decode cX5_climb 0 = .ok (.aload_n 0, 1) := by decide +kernel
theorem dX5_climb_1 : decode cX5_climb 1 = .ok (.getfield 25, 3) := by decide +kernel
theorem dX5_climb_4 : decode cX5_climb 4 = .ok (.ifCond .ne 13, 3) := by decide +kernel
theorem dX5_climb_7 : decode cX5_climb 7 = .ok (.aload_n 0, 1) := by decide +kernel
theorem dX5_climb_8 : decode cX5_climb 8 = .ok (.aload_n 1, 1) := by decide +kernel
theorem dX5_climb_9 : decode cX5_climb 9 = .ok (.invokevirtual 29, 3) := by decide +kernel
theorem dX5_climb_12 : decode cX5_climb 12 = .ok (.aload_n 0, 1) := by decide +kernel
theorem dX5_climb_13 : decode cX5_climb 13 = .ok (.iconst 1, 1) := by decide +kernel
theorem dX5_climb_14 : decode cX5_climb 14 = .ok (.putfield 25, 3) := by decide +kernel
theorem dX5_climb_17 : decode cX5_climb 17 = .ok (.aload_n 0, 1) := by decide +kernel
theorem dX5_climb_18 : decode cX5_climb 18 = .ok (.getfield 25, 3) := by decide +kernel
theorem dX5_climb_21 : decode cX5_climb 21 = .ok (.iload_n 3, 1) := by decide +kernel
theorem dX5_climb_22 : decode cX5_climb 22 = .ok (.if_icmp .gt 35, 3) := by decide +kernel
theorem dX5_climb_25 : decode cX5_climb 25 = .ok (.aload_n 0, 1) := by decide +kernel
theorem dX5_climb_26 : decode cX5_climb 26 = .ok (.getfield 25, 3) := by decide +kernel
theorem dX5_climb_29 : decode cX5_climb 29 = .ok (.bipush 8, 2) := by decide +kernel
theorem dX5_climb_31 : decode cX5_climb 31 = .ok (.if_icmp .gt 26, 3) := by decide +kernel
theorem dX5_climb_34 : decode cX5_climb 34 = .ok (.aload_n 0, 1) := by decide +kernel
theorem dX5_climb_35 : decode cX5_climb 35 = .ok (.aload_n 1, 1) := by decide +kernel
theorem dX5_climb_36 : decode cX5_climb 36 = .ok (.aload_n 2, 1) := by decide +kernel
theorem dX5_climb_37 : decode cX5_climb 37 = .ok (.aload_n 0, 1) := by decide +kernel
theorem dX5_climb_38 : decode cX5_climb 38 = .ok (.getfield 25, 3) := by decide +kernel
theorem dX5_climb_41 : decode cX5_climb 41 = .ok (.invokevirtual 33, 3) := by decide +kernel
theorem dX5_climb_44 : decode cX5_climb 44 = .ok (.aload_n 0, 1) := by decide +kernel
theorem dX5_climb_45 : decode cX5_climb 45 = .ok (.dup, 1) := by decide +kernel
theorem dX5_climb_46 : decode cX5_climb 46 = .ok (.getfield 25, 3) := by decide +kernel
theorem dX5_climb_49 : decode cX5_climb 49 = .ok (.iconst 1, 1) := by decide +kernel
theorem dX5_climb_50 : decode cX5_climb 50 = .ok (.iadd, 1) := by decide +kernel
theorem dX5_climb_51 : decode cX5_climb 51 = .ok (.putfield 25, 3) := by decide +kernel
theorem dX5_climb_54 : decode cX5_climb 54 = .ok (.goto (-37), 3) := by decide +kernel
theorem dX5_climb_57 : decode cX5_climb 57 = .ok (.return_, 1) := by decide +kernel
set_option maxRecDepth 20000 in
theorem ggX5_begin_X8_clear : GoodIn wsX5_begin wsX8_clear := goodIn_r _ [8, 9, 10, 11, 12, 13, 14, 15, 64, 65, 66] (by decide +kernel) (by decide +kernel)
set_option maxRecDepth 20000 in
theorem gX5_begin_X8_clear : GoodIn wsX5_begin (wsV RX5 41 RX8 yX8_clear wsX8_clear) := goodIn_app (goodIn_of _ (by decide +kernel)) ggX5_begin_X8_clear
set_option maxRecDepth 20000 in
theorem ggX5_begin_X6_commonRewardBelow : GoodIn wsX5_begin wsX6_commonRewardBelow := goodIn_r _ [20, 21, 22, 23, 24, 25, 26, 19, 27, 28, 29, 30, 31, 32, 33, 34, 35, 67, 68, 69, 70, 71, 72, 73, 74, 75] (by decide +kernel) (by decide +kernel)
set_option maxRecDepth 20000 in
theorem gX5_begin_X6_commonRewardBelow : GoodIn wsX5_begin (wsV RX5 50 RX6 yX6_commonRewardBelow wsX6_commonRewardBelow) := goodIn_app (goodIn_of _ (by decide +kernel)) ggX5_begin_X6_commonRewardBelow
set_option maxRecDepth 20000 in
theorem ggX5_begin_X8_put : GoodIn wsX5_begin wsX8_put := goodIn_r _ [39, 9, 40, 5, 6, 7, 8, 10, 11, 12, 13, 14, 15, 41, 42, 43, 44, 45, 46, 47, 48, 49, 50, 51, 52, 53, 54, 55, 56, 57, 58, 64, 65, 66] (by decide +kernel) (by decide +kernel)
set_option maxRecDepth 20000 in
theorem gX5_begin_X8_put : GoodIn wsX5_begin (wsV RX5 56 RX8 yX8_put wsX8_put) := goodIn_app (goodIn_of _ (by decide +kernel)) ggX5_begin_X8_put
theorem dX5_begin_0 : decode cX5_begin 0 = .ok (.iconst 0, 1) := by decide +kernel
theorem dX5_begin_1 : decode cX5_begin 1 = .ok (.istore_n 2, 1) := by decide +kernel
theorem dX5_begin_2 : decode cX5_begin 2 = .ok (.iload_n 2, 1) := by decide +kernel
theorem dX5_begin_3 : decode cX5_begin 3 = .ok (.bipush 6, 2) := by decide +kernel
theorem dX5_begin_5 : decode cX5_begin 5 = .ok (.if_icmp .ge 23, 3) := by decide +kernel
theorem dX5_begin_8 : decode cX5_begin 8 = .ok (.aload_n 0, 1) := by decide +kernel
theorem dX5_begin_9 : decode cX5_begin 9 = .ok (.getfield 11, 3) := by decide +kernel
theorem dX5_begin_12 : decode cX5_begin 12 = .ok (.iconst 0, 1) := by decide +kernel
theorem dX5_begin_13 : decode cX5_begin 13 = .ok (.aaload, 1) := by decide +kernel
theorem dX5_begin_14 : decode cX5_begin 14 = .ok (.getfield 37, 3) := by decide +kernel
theorem dX5_begin_17 : decode cX5_begin 17 = .ok (.iload_n 2, 1) := by decide +kernel
theorem dX5_begin_18 : decode cX5_begin 18 = .ok (.aaload, 1) := by decide +kernel
theorem dX5_begin_19 : decode cX5_begin 19 = .ok (.invokevirtual 41, 3) := by decide +kernel
theorem dX5_begin_22 : decode cX5_begin 22 = .ok (.iinc 2 1, 3) := by decide +kernel
theorem dX5_begin_25 : decode cX5_begin 25 = .ok (.goto (-23), 3) := by decide +kernel
theorem dX5_begin_28 : decode cX5_begin 28 = .ok (.aload_n 0, 1) := by decide +kernel
theorem dX5_begin_29 : decode cX5_begin 29 = .ok (.getfield 11, 3) := by decide +kernel
theorem dX5_begin_32 : decode cX5_begin 32 = .ok (.iconst 0, 1) := by decide +kernel
theorem dX5_begin_33 : decode cX5_begin 33 = .ok (.aaload, 1) := by decide +kernel
theorem dX5_begin_34 : decode cX5_begin 34 = .ok (.getfield 46, 3) := by decide +kernel
theorem dX5_begin_37 : decode cX5_begin 37 = .ok (.aload_n 1, 1) := by decide +kernel
theorem dX5_begin_38 : decode cX5_begin 38 = .ok (.invokevirtual 50, 3) := by decide +kernel
theorem dX5_begin_41 : decode cX5_begin 41 = .ok (.i2l, 1) := by decide +kernel
theorem dX5_begin_42 : decode cX5_begin 42 = .ok (.invokevirtual 56, 3) := by decide +kernel
theorem dX5_begin_45 : decode cX5_begin 45 = .ok (.return_, 1) := by decide +kernel
set_option maxRecDepth 20000 in
theorem ggX5_step_X1_greatest : GoodIn wsX5_step wsX1_greatest := goodIn_r _ [19, 20, 21, 22, 23, 24, 25, 26, 27, 28, 29, 30, 31, 32, 33, 34, 35, 36, 37, 38, 39, 40, 41, 42, 43, 44, 45, 46, 47, 48, 49, 50, 51, 52, 53, 54, 55, 56, 57, 58, 59, 60, 61, 62, 11, 63, 64, 65, 66, 67, 68, 69, 70, 71, 72, 73, 74, 75, 76, 77, 78, 79, 80, 81, 82, 83, 84, 18, 85, 86, 87, 88, 89, 90, 91, 92, 126, 127, 128, 115, 116, 117, 118, 119, 120, 121, 122, 123, 129, 130, 124, 125, 131, 132, 133] (by decide +kernel) (by decide +kernel)
set_option maxRecDepth 20000 in
theorem gX5_step_X1_greatest : GoodIn wsX5_step (wsV RX5 63 RX1 yX1_greatest wsX1_greatest) := goodIn_app (goodIn_of _ (by decide +kernel)) ggX5_step_X1_greatest
set_option maxRecDepth 20000 in
theorem ggX5_step_X6_find : GoodIn wsX5_step wsX6_find := goodIn_r _ [27, 28, 115, 116, 117, 118, 119] (by decide +kernel) (by decide +kernel)
set_option maxRecDepth 20000 in
theorem gX5_step_X6_find : GoodIn wsX5_step (wsV RX5 69 RX6 yX6_find wsX6_find) := goodIn_app (goodIn_of _ (by decide +kernel)) ggX5_step_X6_find
set_option maxRecDepth 20000 in
theorem ggX5_step_X8_copy : GoodIn wsX5_step wsX8_copy := goodIn_r _ [97, 51, 50, 61, 62, 11, 63, 98, 99, 100, 101, 52, 102, 46, 47, 48, 49, 53, 54, 55, 56, 131, 132, 133] (by decide +kernel) (by decide +kernel)
set_option maxRecDepth 20000 in
theorem gX5_step_X8_copy : GoodIn wsX5_step (wsV RX5 86 RX8 yX8_copy wsX8_copy) := goodIn_app (goodIn_of _ (by decide +kernel)) ggX5_step_X8_copy
set_option maxRecDepth 20000 in
theorem ggX5_step_X8_divideSmall : GoodIn wsX5_step wsX8_divideSmall := goodIn_r _ [106, 51, 68, 50, 78, 79, 80, 48, 81, 52, 131, 132, 133] (by decide +kernel) (by decide +kernel)
set_option maxRecDepth 20000 in
theorem gX5_step_X8_divideSmall : GoodIn wsX5_step (wsV RX5 92 RX8 yX8_divideSmall wsX8_divideSmall) := goodIn_app (goodIn_of _ (by decide +kernel)) ggX5_step_X8_divideSmall
set_option maxRecDepth 20000 in
theorem ggX5_step_X8_multiply : GoodIn wsX5_step wsX8_multiply := goodIn_r _ [110, 51, 50, 111, 65, 66, 48, 67, 68, 69, 70, 71, 72, 73, 74, 75, 76, 77, 78, 79, 80, 81, 52, 131, 132, 133] (by decide +kernel) (by decide +kernel)
set_option maxRecDepth 20000 in
theorem gX5_step_X8_multiply : GoodIn wsX5_step (wsV RX5 101 RX8 yX8_multiply wsX8_multiply) := goodIn_app (goodIn_of _ (by decide +kernel)) ggX5_step_X8_multiply
theorem dX5_step_0 : decode cX5_step 0 = .ok (.aload_n 0, 1) := by decide +kernel
theorem dX5_step_1 : decode cX5_step 1 = .ok (.getfield 11, 3) := by decide +kernel
theorem dX5_step_4 : decode cX5_step 4 = .ok (.iload_n 3, 1) := by decide +kernel
theorem dX5_step_5 : decode cX5_step 5 = .ok (.iconst 1, 1) := by decide +kernel
theorem dX5_step_6 : decode cX5_step 6 = .ok (.isub, 1) := by decide +kernel
theorem dX5_step_7 : decode cX5_step 7 = .ok (.aaload, 1) := by decide +kernel
theorem dX5_step_8 : decode cX5_step 8 = .ok (.astore 4, 2) := by decide +kernel
theorem dX5_step_10 : decode cX5_step 10 = .ok (.aload_n 0, 1) := by decide +kernel
theorem dX5_step_11 : decode cX5_step 11 = .ok (.getfield 11, 3) := by decide +kernel
theorem dX5_step_14 : decode cX5_step 14 = .ok (.iload_n 3, 1) := by decide +kernel
theorem dX5_step_15 : decode cX5_step 15 = .ok (.aaload, 1) := by decide +kernel
theorem dX5_step_16 : decode cX5_step 16 = .ok (.astore 5, 2) := by decide +kernel
theorem dX5_step_18 : decode cX5_step 18 = .ok (.lconst 1, 1) := by decide +kernel
theorem dX5_step_19 : decode cX5_step 19 = .ok (.lstore 6, 2) := by decide +kernel
theorem dX5_step_21 : decode cX5_step 21 = .ok (.iconst 0, 1) := by decide +kernel
theorem dX5_step_22 : decode cX5_step 22 = .ok (.istore 8, 2) := by decide +kernel
theorem dX5_step_24 : decode cX5_step 24 = .ok (.iload 8, 2) := by decide +kernel
theorem dX5_step_26 : decode cX5_step 26 = .ok (.aload_n 1, 1) := by decide +kernel
theorem dX5_step_27 : decode cX5_step 27 = .ok (.getfield 60, 3) := by decide +kernel
theorem dX5_step_30 : decode cX5_step 30 = .ok (.if_icmp .ge 87, 3) := by decide +kernel
theorem dX5_step_33 : decode cX5_step 33 = .ok (.aload_n 2, 1) := by decide +kernel
theorem dX5_step_34 : decode cX5_step 34 = .ok (.aload_n 1, 1) := by decide +kernel
theorem dX5_step_35 : decode cX5_step 35 = .ok (.iload 8, 2) := by decide +kernel
theorem dX5_step_37 : decode cX5_step 37 = .ok (.iconst 0, 1) := by decide +kernel
theorem dX5_step_38 : decode cX5_step 38 = .ok (.aload 4, 2) := by decide +kernel
theorem dX5_step_40 : decode cX5_step 40 = .ok (.invokevirtual 63, 3) := by decide +kernel
theorem dX5_step_43 : decode cX5_step 43 = .ok (.istore 9, 2) := by decide +kernel
theorem dX5_step_45 : decode cX5_step 45 = .ok (.aload_n 1, 1) := by decide +kernel
theorem dX5_step_46 : decode cX5_step 46 = .ok (.iload 8, 2) := by decide +kernel
theorem dX5_step_48 : decode cX5_step 48 = .ok (.iload 9, 2) := by decide +kernel
theorem dX5_step_50 : decode cX5_step 50 = .ok (.invokevirtual 69, 3) := by decide +kernel
theorem dX5_step_53 : decode cX5_step 53 = .ok (.astore 10, 2) := by decide +kernel
theorem dX5_step_55 : decode cX5_step 55 = .ok (.aload_n 0, 1) := by decide +kernel
theorem dX5_step_56 : decode cX5_step 56 = .ok (.getfield 22, 3) := by decide +kernel
theorem dX5_step_59 : decode cX5_step 59 = .ok (.iload_n 3, 1) := by decide +kernel
theorem dX5_step_60 : decode cX5_step 60 = .ok (.aaload, 1) := by decide +kernel
theorem dX5_step_61 : decode cX5_step 61 = .ok (.iload 8, 2) := by decide +kernel
theorem dX5_step_63 : decode cX5_step 63 = .ok (.iload 9, 2) := by decide +kernel
theorem dX5_step_65 : decode cX5_step 65 = .ok (.iastore, 1) := by decide +kernel
theorem dX5_step_66 : decode cX5_step 66 = .ok (.lload 6, 2) := by decide +kernel
theorem dX5_step_68 : decode cX5_step 68 = .ok (.aload 10, 2) := by decide +kernel
theorem dX5_step_70 : decode cX5_step 70 = .ok (.getfield 73, 3) := by decide +kernel
theorem dX5_step_73 : decode cX5_step 73 = .ok (.i2l, 1) := by decide +kernel
theorem dX5_step_74 : decode cX5_step 74 = .ok (.lmul, 1) := by decide +kernel
theorem dX5_step_75 : decode cX5_step 75 = .ok (.lstore 6, 2) := by decide +kernel
theorem dX5_step_77 : decode cX5_step 77 = .ok (.aload 5, 2) := by decide +kernel
theorem dX5_step_79 : decode cX5_step 79 = .ok (.getfield 37, 3) := by decide +kernel
theorem dX5_step_82 : decode cX5_step 82 = .ok (.iload 8, 2) := by decide +kernel
theorem dX5_step_84 : decode cX5_step 84 = .ok (.aaload, 1) := by decide +kernel
theorem dX5_step_85 : decode cX5_step 85 = .ok (.aload_n 2, 1) := by decide +kernel
theorem dX5_step_86 : decode cX5_step 86 = .ok (.getfield 78, 3) := by decide +kernel
theorem dX5_step_89 : decode cX5_step 89 = .ok (.getfield 82, 3) := by decide +kernel
theorem dX5_step_92 : decode cX5_step 92 = .ok (.invokevirtual 86, 3) := by decide +kernel
theorem dX5_step_95 : decode cX5_step 95 = .ok (.aload 5, 2) := by decide +kernel
theorem dX5_step_97 : decode cX5_step 97 = .ok (.getfield 37, 3) := by decide +kernel
theorem dX5_step_100 : decode cX5_step 100 = .ok (.iload 8, 2) := by decide +kernel
theorem dX5_step_102 : decode cX5_step 102 = .ok (.aaload, 1) := by decide +kernel
theorem dX5_step_103 : decode cX5_step 103 = .ok (.aload 10, 2) := by decide +kernel
theorem dX5_step_105 : decode cX5_step 105 = .ok (.getfield 90, 3) := by decide +kernel
theorem dX5_step_108 : decode cX5_step 108 = .ok (.invokevirtual 92, 3) := by decide +kernel
theorem dX5_step_111 : decode cX5_step 111 = .ok (.iinc 8 1, 3) := by decide +kernel
theorem dX5_step_114 : decode cX5_step 114 = .ok (.goto (-90), 3) := by decide +kernel
theorem dX5_step_117 : decode cX5_step 117 = .ok (.iconst 0, 1) := by decide +kernel
theorem dX5_step_118 : decode cX5_step 118 = .ok (.istore 8, 2) := by decide +kernel
theorem dX5_step_120 : decode cX5_step 120 = .ok (.iload 8, 2) := by decide +kernel
theorem dX5_step_122 : decode cX5_step 122 = .ok (.aload_n 1, 1) := by decide +kernel
theorem dX5_step_123 : decode cX5_step 123 = .ok (.getfield 60, 3) := by decide +kernel
theorem dX5_step_126 : decode cX5_step 126 = .ok (.if_icmp .ge 50, 3) := by decide +kernel
theorem dX5_step_129 : decode cX5_step 129 = .ok (.aload_n 1, 1) := by decide +kernel
theorem dX5_step_130 : decode cX5_step 130 = .ok (.iload 8, 2) := by decide +kernel
theorem dX5_step_132 : decode cX5_step 132 = .ok (.aload_n 0, 1) := by decide +kernel
theorem dX5_step_133 : decode cX5_step 133 = .ok (.getfield 22, 3) := by decide +kernel
theorem dX5_step_136 : decode cX5_step 136 = .ok (.iload_n 3, 1) := by decide +kernel
theorem dX5_step_137 : decode cX5_step 137 = .ok (.aaload, 1) := by decide +kernel
theorem dX5_step_138 : decode cX5_step 138 = .ok (.iload 8, 2) := by decide +kernel
theorem dX5_step_140 : decode cX5_step 140 = .ok (.iaload, 1) := by decide +kernel
theorem dX5_step_141 : decode cX5_step 141 = .ok (.invokevirtual 69, 3) := by decide +kernel
theorem dX5_step_144 : decode cX5_step 144 = .ok (.getfield 73, 3) := by decide +kernel
theorem dX5_step_147 : decode cX5_step 147 = .ok (.iconst 1, 1) := by decide +kernel
theorem dX5_step_148 : decode cX5_step 148 = .ok (.invokestatic 95, 3) := by decide +kernel
theorem dX5_step_151 : decode cX5_step 151 = .ok (.istore 9, 2) := by decide +kernel
theorem dX5_step_153 : decode cX5_step 153 = .ok (.aload 5, 2) := by decide +kernel
theorem dX5_step_155 : decode cX5_step 155 = .ok (.getfield 37, 3) := by decide +kernel
theorem dX5_step_158 : decode cX5_step 158 = .ok (.iload 8, 2) := by decide +kernel
theorem dX5_step_160 : decode cX5_step 160 = .ok (.aaload, 1) := by decide +kernel
theorem dX5_step_161 : decode cX5_step 161 = .ok (.lload 6, 2) := by decide +kernel
theorem dX5_step_163 : decode cX5_step 163 = .ok (.iload 9, 2) := by decide +kernel
theorem dX5_step_165 : decode cX5_step 165 = .ok (.i2l, 1) := by decide +kernel
theorem dX5_step_166 : decode cX5_step 166 = .ok (.ldiv, 1) := by decide +kernel
theorem dX5_step_167 : decode cX5_step 167 = .ok (.invokevirtual 101, 3) := by decide +kernel
theorem dX5_step_170 : decode cX5_step 170 = .ok (.iinc 8 1, 3) := by decide +kernel
theorem dX5_step_173 : decode cX5_step 173 = .ok (.goto (-53), 3) := by decide +kernel
theorem dX5_step_176 : decode cX5_step 176 = .ok (.aload 5, 2) := by decide +kernel
theorem dX5_step_178 : decode cX5_step 178 = .ok (.getfield 46, 3) := by decide +kernel
theorem dX5_step_181 : decode cX5_step 181 = .ok (.aload 4, 2) := by decide +kernel
theorem dX5_step_183 : decode cX5_step 183 = .ok (.getfield 46, 3) := by decide +kernel
theorem dX5_step_186 : decode cX5_step 186 = .ok (.invokevirtual 86, 3) := by decide +kernel
theorem dX5_step_189 : decode cX5_step 189 = .ok (.aload 5, 2) := by decide +kernel
theorem dX5_step_191 : decode cX5_step 191 = .ok (.getfield 46, 3) := by decide +kernel
theorem dX5_step_194 : decode cX5_step 194 = .ok (.aload_n 1, 1) := by decide +kernel
theorem dX5_step_195 : decode cX5_step 195 = .ok (.getfield 104, 3) := by decide +kernel
theorem dX5_step_198 : decode cX5_step 198 = .ok (.i2l, 1) := by decide +kernel
theorem dX5_step_199 : decode cX5_step 199 = .ok (.invokevirtual 101, 3) := by decide +kernel
theorem dX5_step_202 : decode cX5_step 202 = .ok (.aload 5, 2) := by decide +kernel
theorem dX5_step_204 : decode cX5_step 204 = .ok (.getfield 46, 3) := by decide +kernel
theorem dX5_step_207 : decode cX5_step 207 = .ok (.lload 6, 2) := by decide +kernel
theorem dX5_step_209 : decode cX5_step 209 = .ok (.invokevirtual 101, 3) := by decide +kernel
theorem dX5_step_212 : decode cX5_step 212 = .ok (.return_, 1) := by decide +kernel
set_option maxRecDepth 20000 in
theorem ggX6_init_X0_init : GoodIn wsX6_init wsX0_init := goodIn_r _ [15, 16, 2, 3, 4, 17, 18, 19, 20, 26, 27, 28, 29] (by decide +kernel) (by decide +kernel)
set_option maxRecDepth 20000 in
theorem gX6_init_X0_init : GoodIn wsX6_init (wsX0_init) := ggX6_init_X0_init
theorem dX6_init_0 : decode cX6_init 0 = .ok (.aload_n 0, 1) := by decide +kernel
theorem dX6_init_1 : decode cX6_init 1 = .ok (.invokespecial 3, 3) := by decide +kernel
theorem dX6_init_4 : decode cX6_init 4 = .ok (.aload_n 0, 1) := by decide +kernel
theorem dX6_init_5 : decode cX6_init 5 = .ok (.bipush 6, 2) := by decide +kernel
theorem dX6_init_7 : decode cX6_init 7 = .ok (.newarray .int, 2) := by decide +kernel
theorem dX6_init_9 : decode cX6_init 9 = .ok (.putfield 9, 3) := by decide +kernel
theorem dX6_init_12 : decode cX6_init 12 = .ok (.aload_n 0, 1) := by decide +kernel
theorem dX6_init_13 : decode cX6_init 13 = .ok (.bipush 24, 2) := by decide +kernel
theorem dX6_init_15 : decode cX6_init 15 = .ok (.anewarray 15, 3) := by decide +kernel
theorem dX6_init_18 : decode cX6_init 18 = .ok (.putfield 17, 3) := by decide +kernel
theorem dX6_init_21 : decode cX6_init 21 = .ok (.iconst 0, 1) := by decide +kernel
theorem dX6_init_22 : decode cX6_init 22 = .ok (.istore_n 1, 1) := by decide +kernel
theorem dX6_init_23 : decode cX6_init 23 = .ok (.iload_n 1, 1) := by decide +kernel
theorem dX6_init_24 : decode cX6_init 24 = .ok (.aload_n 0, 1) := by decide +kernel
theorem dX6_init_25 : decode cX6_init 25 = .ok (.getfield 17, 3) := by decide +kernel
theorem dX6_init_28 : decode cX6_init 28 = .ok (.arraylength, 1) := by decide +kernel
theorem dX6_init_29 : decode cX6_init 29 = .ok (.if_icmp .ge 22, 3) := by decide +kernel
theorem dX6_init_32 : decode cX6_init 32 = .ok (.aload_n 0, 1) := by decide +kernel
theorem dX6_init_33 : decode cX6_init 33 = .ok (.getfield 17, 3) := by decide +kernel
theorem dX6_init_36 : decode cX6_init 36 = .ok (.iload_n 1, 1) := by decide +kernel
theorem dX6_init_37 : decode cX6_init 37 = .ok (.new 15, 3) := by decide +kernel
theorem dX6_init_40 : decode cX6_init 40 = .ok (.dup, 1) := by decide +kernel
theorem dX6_init_41 : decode cX6_init 41 = .ok (.invokespecial 21, 3) := by decide +kernel
theorem dX6_init_44 : decode cX6_init 44 = .ok (.aastore, 1) := by decide +kernel
theorem dX6_init_45 : decode cX6_init 45 = .ok (.iinc 1 1, 3) := by decide +kernel
theorem dX6_init_48 : decode cX6_init 48 = .ok (.goto (-25), 3) := by decide +kernel
theorem dX6_init_51 : decode cX6_init 51 = .ok (.aload_n 0, 1) := by decide +kernel
theorem dX6_init_52 : decode cX6_init 52 = .ok (.iconst 0, 1) := by decide +kernel
theorem dX6_init_53 : decode cX6_init 53 = .ok (.putfield 22, 3) := by decide +kernel
theorem dX6_init_56 : decode cX6_init 56 = .ok (.aload_n 0, 1) := by decide +kernel
theorem dX6_init_57 : decode cX6_init 57 = .ok (.iconst 1, 1) := by decide +kernel
theorem dX6_init_58 : decode cX6_init 58 = .ok (.putfield 26, 3) := by decide +kernel
theorem dX6_init_61 : decode cX6_init 61 = .ok (.aload_n 0, 1) := by decide +kernel
theorem dX6_init_62 : decode cX6_init 62 = .ok (.iconst 2, 1) := by decide +kernel
theorem dX6_init_63 : decode cX6_init 63 = .ok (.putfield 29, 3) := by decide +kernel
theorem dX6_init_66 : decode cX6_init 66 = .ok (.return_, 1) := by decide +kernel
theorem dX6_hasState_0 : decode cX6_hasState 0 = .ok (.iload_n 1, 1) := by decide +kernel
theorem dX6_hasState_1 : decode cX6_hasState 1 = .ok (.ifCond .lt 15, 3) := by decide +kernel
theorem dX6_hasState_4 : decode cX6_hasState 4 = .ok (.iload_n 1, 1) := by decide +kernel
theorem dX6_hasState_5 : decode cX6_hasState 5 = .ok (.aload_n 0, 1) := by decide +kernel
theorem dX6_hasState_6 : decode cX6_hasState 6 = .ok (.getfield 22, 3) := by decide +kernel
theorem dX6_hasState_9 : decode cX6_hasState 9 = .ok (.if_icmp .ge 7, 3) := by decide +kernel
theorem dX6_hasState_12 : decode cX6_hasState 12 = .ok (.iconst 1, 1) := by decide +kernel
theorem dX6_hasState_13 : decode cX6_hasState 13 = .ok (.goto 4, 3) := by decide +kernel
theorem dX6_hasState_16 : decode cX6_hasState 16 = .ok (.iconst 0, 1) := by decide +kernel
theorem dX6_hasState_17 : decode cX6_hasState 17 = .ok (.ireturn, 1) := by decide +kernel
set_option maxRecDepth 20000 in
theorem ggX6_hasAction_X6_hasState : GoodIn wsX6_hasAction wsX6_hasState := goodIn_r _ [6, 7, 8, 9, 10, 11, 12] (by decide +kernel) (by decide +kernel)
set_option maxRecDepth 20000 in
theorem gX6_hasAction_X6_hasState : GoodIn wsX6_hasAction (wsV RX6 32 RX6 yX6_hasState wsX6_hasState) := goodIn_app (goodIn_of _ (by decide +kernel)) ggX6_hasAction_X6_hasState
theorem dX6_hasAction_0 : decode cX6_hasAction 0 = .ok (.aload_n 0, 1) := by decide +kernel
theorem dX6_hasAction_1 : decode cX6_hasAction 1 = .ok (.iload_n 1, 1) := by decide +kernel
theorem dX6_hasAction_2 : decode cX6_hasAction 2 = .ok (.invokevirtual 32, 3) := by decide +kernel
theorem dX6_hasAction_5 : decode cX6_hasAction 5 = .ok (.ifCond .eq 21, 3) := by decide +kernel
theorem dX6_hasAction_8 : decode cX6_hasAction 8 = .ok (.iload_n 2, 1) := by decide +kernel
theorem dX6_hasAction_9 : decode cX6_hasAction 9 = .ok (.ifCond .lt 17, 3) := by decide +kernel
theorem dX6_hasAction_12 : decode cX6_hasAction 12 = .ok (.iload_n 2, 1) := by decide +kernel
theorem dX6_hasAction_13 : decode cX6_hasAction 13 = .ok (.aload_n 0, 1) := by decide +kernel
theorem dX6_hasAction_14 : decode cX6_hasAction 14 = .ok (.getfield 9, 3) := by decide +kernel
theorem dX6_hasAction_17 : decode cX6_hasAction 17 = .ok (.iload_n 1, 1) := by decide +kernel
theorem dX6_hasAction_18 : decode cX6_hasAction 18 = .ok (.iaload, 1) := by decide +kernel
theorem dX6_hasAction_19 : decode cX6_hasAction 19 = .ok (.if_icmp .ge 7, 3) := by decide +kernel
theorem dX6_hasAction_22 : decode cX6_hasAction 22 = .ok (.iconst 1, 1) := by decide +kernel
theorem dX6_hasAction_23 : decode cX6_hasAction 23 = .ok (.goto 4, 3) := by decide +kernel
theorem dX6_hasAction_26 : decode cX6_hasAction 26 = .ok (.iconst 0, 1) := by decide +kernel
theorem dX6_hasAction_27 : decode cX6_hasAction 27 = .ok (.ireturn, 1) := by decide +kernel
theorem dX6_find_0 : decode cX6_find 0 = .ok (.aload_n 0, 1) := by decide +kernel
theorem dX6_find_1 : decode cX6_find 1 = .ok (.getfield 17, 3) := by decide +kernel
theorem dX6_find_4 : decode cX6_find 4 = .ok (.iload_n 1, 1) := by decide +kernel
theorem dX6_find_5 : decode cX6_find 5 = .ok (.iconst 4, 1) := by decide +kernel
theorem dX6_find_6 : decode cX6_find 6 = .ok (.imul, 1) := by decide +kernel
theorem dX6_find_7 : decode cX6_find 7 = .ok (.iload_n 2, 1) := by decide +kernel
theorem dX6_find_8 : decode cX6_find 8 = .ok (.iadd, 1) := by decide +kernel
theorem dX6_find_9 : decode cX6_find 9 = .ok (.aaload, 1) := by decide +kernel
theorem dX6_find_10 : decode cX6_find 10 = .ok (.areturn, 1) := by decide +kernel
set_option maxRecDepth 20000 in
theorem ggX6_countActions_X6_find : GoodIn wsX6_countActions wsX6_find := goodIn_r _ [8, 9, 10, 11, 12, 13, 14] (by decide +kernel) (by decide +kernel)
set_option maxRecDepth 20000 in
theorem gX6_countActions_X6_find : GoodIn wsX6_countActions (wsV RX6 36 RX6 yX6_find wsX6_find) := goodIn_app (goodIn_of _ (by decide +kernel)) ggX6_countActions_X6_find
theorem dX6_countActions_0 : decode cX6_countActions 0 = .ok (.iconst 0, 1) := by decide +kernel
theorem dX6_countActions_1 : decode cX6_countActions 1 = .ok (.istore_n 2, 1) := by decide +kernel
theorem dX6_countActions_2 : decode cX6_countActions 2 = .ok (.iconst 0, 1) := by decide +kernel
theorem dX6_countActions_3 : decode cX6_countActions 3 = .ok (.istore_n 3, 1) := by decide +kernel
theorem dX6_countActions_4 : decode cX6_countActions 4 = .ok (.iload_n 3, 1) := by decide +kernel
theorem dX6_countActions_5 : decode cX6_countActions 5 = .ok (.aload_n 0, 1) := by decide +kernel
theorem dX6_countActions_6 : decode cX6_countActions 6 = .ok (.getfield 22, 3) := by decide +kernel
theorem dX6_countActions_9 : decode cX6_countActions 9 = .ok (.if_icmp .ge 49, 3) := by decide +kernel
theorem dX6_countActions_12 : decode cX6_countActions 12 = .ok (.iconst 0, 1) := by decide +kernel
theorem dX6_countActions_13 : decode cX6_countActions 13 = .ok (.istore 4, 2) := by decide +kernel
theorem dX6_countActions_15 : decode cX6_countActions 15 = .ok (.iload 4, 2) := by decide +kernel
theorem dX6_countActions_17 : decode cX6_countActions 17 = .ok (.aload_n 0, 1) := by decide +kernel
theorem dX6_countActions_18 : decode cX6_countActions 18 = .ok (.getfield 9, 3) := by decide +kernel
theorem dX6_countActions_21 : decode cX6_countActions 21 = .ok (.iload_n 3, 1) := by decide +kernel
theorem dX6_countActions_22 : decode cX6_countActions 22 = .ok (.iaload, 1) := by decide +kernel
theorem dX6_countActions_23 : decode cX6_countActions 23 = .ok (.if_icmp .ge 29, 3) := by decide +kernel
theorem dX6_countActions_26 : decode cX6_countActions 26 = .ok (.iload_n 1, 1) := by decide +kernel
theorem dX6_countActions_27 : decode cX6_countActions 27 = .ok (.ifCond .eq 16, 3) := by decide +kernel
theorem dX6_countActions_30 : decode cX6_countActions 30 = .ok (.aload_n 0, 1) := by decide +kernel
theorem dX6_countActions_31 : decode cX6_countActions 31 = .ok (.iload_n 3, 1) := by decide +kernel
theorem dX6_countActions_32 : decode cX6_countActions 32 = .ok (.iload 4, 2) := by decide +kernel
theorem dX6_countActions_34 : decode cX6_countActions 34 = .ok (.invokevirtual 36, 3) := by decide +kernel
theorem dX6_countActions_37 : decode cX6_countActions 37 = .ok (.getfield 40, 3) := by decide +kernel
theorem dX6_countActions_40 : decode cX6_countActions 40 = .ok (.ifCond .le 6, 3) := by decide +kernel
theorem dX6_countActions_43 : decode cX6_countActions 43 = .ok (.iinc 2 1, 3) := by decide +kernel
theorem dX6_countActions_46 : decode cX6_countActions 46 = .ok (.iinc 4 1, 3) := by decide +kernel
theorem dX6_countActions_49 : decode cX6_countActions 49 = .ok (.goto (-34), 3) := by decide +kernel
theorem dX6_countActions_52 : decode cX6_countActions 52 = .ok (.iinc 3 1, 3) := by decide +kernel
theorem dX6_countActions_55 : decode cX6_countActions 55 = .ok (.goto (-51), 3) := by decide +kernel
theorem dX6_countActions_58 : decode cX6_countActions 58 = .ok (.iload_n 2, 1) := by decide +kernel
theorem dX6_countActions_59 : decode cX6_countActions 59 = .ok (.ireturn, 1) := by decide +kernel
set_option maxRecDepth 20000 in
theorem ggX6_allReady_X6_countActions : GoodIn wsX6_allReady wsX6_countActions := goodIn_r _ [7, 1, 2, 8, 9, 10, 11, 6, 12, 13, 14, 15, 16, 17, 18, 19, 20, 21, 22] (by decide +kernel) (by decide +kernel)
set_option maxRecDepth 20000 in
theorem gX6_allReady_X6_countActions : GoodIn wsX6_allReady (wsV RX6 43 RX6 yX6_countActions wsX6_countActions) := goodIn_app (goodIn_of _ (by decide +kernel)) ggX6_allReady_X6_countActions
theorem dX6_allReady_0 : decode cX6_allReady 0 = .ok (.iconst 0, 1) := by decide +kernel
theorem dX6_allReady_1 : decode cX6_allReady 1 = .ok (.istore_n 1, 1) := by decide +kernel
theorem dX6_allReady_2 : decode cX6_allReady 2 = .ok (.iload_n 1, 1) := by decide +kernel
theorem dX6_allReady_3 : decode cX6_allReady 3 = .ok (.aload_n 0, 1) := by decide +kernel
theorem dX6_allReady_4 : decode cX6_allReady 4 = .ok (.getfield 22, 3) := by decide +kernel
theorem dX6_allReady_7 : decode cX6_allReady 7 = .ok (.if_icmp .ge 20, 3) := by decide +kernel
theorem dX6_allReady_10 : decode cX6_allReady 10 = .ok (.aload_n 0, 1) := by decide +kernel
theorem dX6_allReady_11 : decode cX6_allReady 11 = .ok (.getfield 9, 3) := by decide +kernel
theorem dX6_allReady_14 : decode cX6_allReady 14 = .ok (.iload_n 1, 1) := by decide +kernel
theorem dX6_allReady_15 : decode cX6_allReady 15 = .ok (.iaload, 1) := by decide +kernel
theorem dX6_allReady_16 : decode cX6_allReady 16 = .ok (.ifCond .ne 5, 3) := by decide +kernel
theorem dX6_allReady_19 : decode cX6_allReady 19 = .ok (.iconst 0, 1) := by decide +kernel
theorem dX6_allReady_20 : decode cX6_allReady 20 = .ok (.ireturn, 1) := by decide +kernel
theorem dX6_allReady_21 : decode cX6_allReady 21 = .ok (.iinc 1 1, 3) := by decide +kernel
theorem dX6_allReady_24 : decode cX6_allReady 24 = .ok (.goto (-22), 3) := by decide +kernel
theorem dX6_allReady_27 : decode cX6_allReady 27 = .ok (.aload_n 0, 1) := by decide +kernel
theorem dX6_allReady_28 : decode cX6_allReady 28 = .ok (.getfield 22, 3) := by decide +kernel
theorem dX6_allReady_31 : decode cX6_allReady 31 = .ok (.ifCond .le 20, 3) := by decide +kernel
theorem dX6_allReady_34 : decode cX6_allReady 34 = .ok (.aload_n 0, 1) := by decide +kernel
theorem dX6_allReady_35 : decode cX6_allReady 35 = .ok (.iconst 1, 1) := by decide +kernel
theorem dX6_allReady_36 : decode cX6_allReady 36 = .ok (.invokevirtual 43, 3) := by decide +kernel
theorem dX6_allReady_39 : decode cX6_allReady 39 = .ok (.aload_n 0, 1) := by decide +kernel
theorem dX6_allReady_40 : decode cX6_allReady 40 = .ok (.iconst 0, 1) := by decide +kernel
theorem dX6_allReady_41 : decode cX6_allReady 41 = .ok (.invokevirtual 43, 3) := by decide +kernel
theorem dX6_allReady_44 : decode cX6_allReady 44 = .ok (.if_icmp .ne 7, 3) := by decide +kernel
theorem dX6_allReady_47 : decode cX6_allReady 47 = .ok (.iconst 1, 1) := by decide +kernel
theorem dX6_allReady_48 : decode cX6_allReady 48 = .ok (.goto 4, 3) := by decide +kernel
theorem dX6_allReady_51 : decode cX6_allReady 51 = .ok (.iconst 0, 1) := by decide +kernel
theorem dX6_allReady_52 : decode cX6_allReady 52 = .ok (.ireturn, 1) := by decide +kernel
set_option maxRecDepth 20000 in
theorem ggX6_commonRewardBelow_X6_find : GoodIn wsX6_commonRewardBelow wsX6_find := goodIn_r _ [8, 9, 17, 18, 19, 20, 21] (by decide +kernel) (by decide +kernel)
set_option maxRecDepth 20000 in
theorem gX6_commonRewardBelow_X6_find : GoodIn wsX6_commonRewardBelow (wsV RX6 36 RX6 yX6_find wsX6_find) := goodIn_app (goodIn_of _ (by decide +kernel)) ggX6_commonRewardBelow_X6_find
set_option maxRecDepth 20000 in
theorem ggX6_commonRewardBelow_X6_commonDivisor : GoodIn wsX6_commonRewardBelow wsX6_commonDivisor := goodIn_r _ [12, 13, 14, 15, 16] (by decide +kernel) (by decide +kernel)
set_option maxRecDepth 20000 in
theorem gX6_commonRewardBelow_X6_commonDivisor : GoodIn wsX6_commonRewardBelow (va_wsS RX6 50 yX6_commonDivisor wsX6_commonDivisor) := goodIn_app (goodIn_of _ (by decide +kernel)) ggX6_commonRewardBelow_X6_commonDivisor
theorem dX6_commonRewardBelow_0 : decode cX6_commonRewardBelow 0 = .ok (.iconst 1, 1) := by decide +kernel
theorem dX6_commonRewardBelow_1 : decode cX6_commonRewardBelow 1 = .ok (.istore_n 1, 1) := by decide +kernel
theorem dX6_commonRewardBelow_2 : decode cX6_commonRewardBelow 2 = .ok (.iconst 0, 1) := by decide +kernel
theorem dX6_commonRewardBelow_3 : decode cX6_commonRewardBelow 3 = .ok (.istore_n 2, 1) := by decide +kernel
theorem dX6_commonRewardBelow_4 : decode cX6_commonRewardBelow 4 = .ok (.iload_n 2, 1) := by decide +kernel
theorem dX6_commonRewardBelow_5 : decode cX6_commonRewardBelow 5 = .ok (.aload_n 0, 1) := by decide +kernel
theorem dX6_commonRewardBelow_6 : decode cX6_commonRewardBelow 6 = .ok (.getfield 22, 3) := by decide +kernel
theorem dX6_commonRewardBelow_9 : decode cX6_commonRewardBelow 9 = .ok (.if_icmp .ge 50, 3) := by decide +kernel
theorem dX6_commonRewardBelow_12 : decode cX6_commonRewardBelow 12 = .ok (.iconst 0, 1) := by decide +kernel
theorem dX6_commonRewardBelow_13 : decode cX6_commonRewardBelow 13 = .ok (.istore_n 3, 1) := by decide +kernel
theorem dX6_commonRewardBelow_14 : decode cX6_commonRewardBelow 14 = .ok (.iload_n 3, 1) := by decide +kernel
theorem dX6_commonRewardBelow_15 : decode cX6_commonRewardBelow 15 = .ok (.aload_n 0, 1) := by decide +kernel
theorem dX6_commonRewardBelow_16 : decode cX6_commonRewardBelow 16 = .ok (.getfield 9, 3) := by decide +kernel
theorem dX6_commonRewardBelow_19 : decode cX6_commonRewardBelow 19 = .ok (.iload_n 2, 1) := by decide +kernel
theorem dX6_commonRewardBelow_20 : decode cX6_commonRewardBelow 20 = .ok (.iaload, 1) := by decide +kernel
theorem dX6_commonRewardBelow_21 : decode cX6_commonRewardBelow 21 = .ok (.if_icmp .ge 32, 3) := by decide +kernel
theorem dX6_commonRewardBelow_24 : decode cX6_commonRewardBelow 24 = .ok (.aload_n 0, 1) := by decide +kernel
theorem dX6_commonRewardBelow_25 : decode cX6_commonRewardBelow 25 = .ok (.iload_n 2, 1) := by decide +kernel
theorem dX6_commonRewardBelow_26 : decode cX6_commonRewardBelow 26 = .ok (.iload_n 3, 1) := by decide +kernel
theorem dX6_commonRewardBelow_27 : decode cX6_commonRewardBelow 27 = .ok (.invokevirtual 36, 3) := by decide +kernel
theorem dX6_commonRewardBelow_30 : decode cX6_commonRewardBelow 30 = .ok (.getfield 47, 3) := by decide +kernel
theorem dX6_commonRewardBelow_33 : decode cX6_commonRewardBelow 33 = .ok (.istore 4, 2) := by decide +kernel
theorem dX6_commonRewardBelow_35 : decode cX6_commonRewardBelow 35 = .ok (.iload_n 1, 1) := by decide +kernel
theorem dX6_commonRewardBelow_36 : decode cX6_commonRewardBelow 36 = .ok (.iload 4, 2) := by decide +kernel
theorem dX6_commonRewardBelow_38 : decode cX6_commonRewardBelow 38 = .ok (.iload_n 1, 1) := by decide +kernel
theorem dX6_commonRewardBelow_39 : decode cX6_commonRewardBelow 39 = .ok (.iload 4, 2) := by decide +kernel
theorem dX6_commonRewardBelow_41 : decode cX6_commonRewardBelow 41 = .ok (.invokestatic 50, 3) := by decide +kernel
theorem dX6_commonRewardBelow_44 : decode cX6_commonRewardBelow 44 = .ok (.idiv, 1) := by decide +kernel
theorem dX6_commonRewardBelow_45 : decode cX6_commonRewardBelow 45 = .ok (.imul, 1) := by decide +kernel
theorem dX6_commonRewardBelow_46 : decode cX6_commonRewardBelow 46 = .ok (.istore_n 1, 1) := by decide +kernel
theorem dX6_commonRewardBelow_47 : decode cX6_commonRewardBelow 47 = .ok (.iinc 3 1, 3) := by decide +kernel
theorem dX6_commonRewardBelow_50 : decode cX6_commonRewardBelow 50 = .ok (.goto (-36), 3) := by decide +kernel
theorem dX6_commonRewardBelow_53 : decode cX6_commonRewardBelow 53 = .ok (.iinc 2 1, 3) := by decide +kernel
theorem dX6_commonRewardBelow_56 : decode cX6_commonRewardBelow 56 = .ok (.goto (-52), 3) := by decide +kernel
theorem dX6_commonRewardBelow_59 : decode cX6_commonRewardBelow 59 = .ok (.iload_n 1, 1) := by decide +kernel
theorem dX6_commonRewardBelow_60 : decode cX6_commonRewardBelow 60 = .ok (.ireturn, 1) := by decide +kernel
theorem dX6_commonDivisor_0 : decode cX6_commonDivisor 0 = .ok (.iload_n 1, 1) := by decide +kernel
theorem dX6_commonDivisor_1 : decode cX6_commonDivisor 1 = .ok (.istore_n 2, 1) := by decide +kernel
theorem dX6_commonDivisor_2 : decode cX6_commonDivisor 2 = .ok (.iload_n 2, 1) := by decide +kernel
theorem dX6_commonDivisor_3 : decode cX6_commonDivisor 3 = .ok (.iconst 1, 1) := by decide +kernel
theorem dX6_commonDivisor_4 : decode cX6_commonDivisor 4 = .ok (.if_icmp .le 21, 3) := by decide +kernel
theorem dX6_commonDivisor_7 : decode cX6_commonDivisor 7 = .ok (.iload_n 0, 1) := by decide +kernel
theorem dX6_commonDivisor_8 : decode cX6_commonDivisor 8 = .ok (.iload_n 2, 1) := by decide +kernel
theorem dX6_commonDivisor_9 : decode cX6_commonDivisor 9 = .ok (.irem, 1) := by decide +kernel
theorem dX6_commonDivisor_10 : decode cX6_commonDivisor 10 = .ok (.ifCond .ne 9, 3) := by decide +kernel
theorem dX6_commonDivisor_13 : decode cX6_commonDivisor 13 = .ok (.iload_n 1, 1) := by decide +kernel
theorem dX6_commonDivisor_14 : decode cX6_commonDivisor 14 = .ok (.iload_n 2, 1) := by decide +kernel
theorem dX6_commonDivisor_15 : decode cX6_commonDivisor 15 = .ok (.irem, 1) := by decide +kernel
theorem dX6_commonDivisor_16 : decode cX6_commonDivisor 16 = .ok (.ifCond .eq 9, 3) := by decide +kernel
theorem dX6_commonDivisor_19 : decode cX6_commonDivisor 19 = .ok (.iinc 2 (-1), 3) := by decide +kernel
theorem dX6_commonDivisor_22 : decode cX6_commonDivisor 22 = .ok (.goto (-20), 3) := by decide +kernel
theorem dX6_commonDivisor_25 : decode cX6_commonDivisor 25 = .ok (.iload_n 2, 1) := by decide +kernel
theorem dX6_commonDivisor_26 : decode cX6_commonDivisor 26 = .ok (.iconst 1, 1) := by decide +kernel
theorem dX6_commonDivisor_27 : decode cX6_commonDivisor 27 = .ok (.invokestatic 54, 3) := by decide +kernel
theorem dX6_commonDivisor_30 : decode cX6_commonDivisor 30 = .ok (.ireturn, 1) := by decide +kernel
set_option maxRecDepth 20000 in
theorem ggX7_init_X8_init : GoodIn wsX7_init wsX8_init := goodIn_r _ [11, 12, 2, 3, 13, 14, 15, 16, 19, 20, 21] (by decide +kernel) (by decide +kernel)
set_option maxRecDepth 20000 in
theorem gX7_init_X8_init : GoodIn wsX7_init (wsX8_init) := ggX7_init_X8_init
theorem dX7_init_0 : decode cX7_init 0 = .ok (.aload_n 0, 1) := by decide +kernel
theorem dX7_init_1 : decode cX7_init 1 = .ok (.invokespecial 3, 3) := by decide +kernel
theorem dX7_init_4 : decode cX7_init 4 = .ok (.aload_n 0, 1) := by decide +kernel
theorem dX7_init_5 : decode cX7_init 5 = .ok (.bipush 6, 2) := by decide +kernel
theorem dX7_init_7 : decode cX7_init 7 = .ok (.anewarray 9, 3) := by decide +kernel
theorem dX7_init_10 : decode cX7_init 10 = .ok (.putfield 11, 3) := by decide +kernel
theorem dX7_init_13 : decode cX7_init 13 = .ok (.iconst 0, 1) := by decide +kernel
theorem dX7_init_14 : decode cX7_init 14 = .ok (.istore_n 2, 1) := by decide +kernel
theorem dX7_init_15 : decode cX7_init 15 = .ok (.iload_n 2, 1) := by decide +kernel
theorem dX7_init_16 : decode cX7_init 16 = .ok (.bipush 6, 2) := by decide +kernel
theorem dX7_init_18 : decode cX7_init 18 = .ok (.if_icmp .ge 23, 3) := by decide +kernel
theorem dX7_init_21 : decode cX7_init 21 = .ok (.aload_n 0, 1) := by decide +kernel
theorem dX7_init_22 : decode cX7_init 22 = .ok (.getfield 11, 3) := by decide +kernel
theorem dX7_init_25 : decode cX7_init 25 = .ok (.iload_n 2, 1) := by decide +kernel
theorem dX7_init_26 : decode cX7_init 26 = .ok (.new 9, 3) := by decide +kernel
theorem dX7_init_29 : decode cX7_init 29 = .ok (.dup, 1) := by decide +kernel
theorem dX7_init_30 : decode cX7_init 30 = .ok (.iload_n 1, 1) := by decide +kernel
theorem dX7_init_31 : decode cX7_init 31 = .ok (.invokespecial 17, 3) := by decide +kernel
theorem dX7_init_34 : decode cX7_init 34 = .ok (.aastore, 1) := by decide +kernel
theorem dX7_init_35 : decode cX7_init 35 = .ok (.iinc 2 1, 3) := by decide +kernel
theorem dX7_init_38 : decode cX7_init 38 = .ok (.goto (-23), 3) := by decide +kernel
theorem dX7_init_41 : decode cX7_init 41 = .ok (.aload_n 0, 1) := by decide +kernel
theorem dX7_init_42 : decode cX7_init 42 = .ok (.new 9, 3) := by decide +kernel
theorem dX7_init_45 : decode cX7_init 45 = .ok (.dup, 1) := by decide +kernel
theorem dX7_init_46 : decode cX7_init 46 = .ok (.iload_n 1, 1) := by decide +kernel
theorem dX7_init_47 : decode cX7_init 47 = .ok (.invokespecial 17, 3) := by decide +kernel
theorem dX7_init_50 : decode cX7_init 50 = .ok (.putfield 20, 3) := by decide +kernel
theorem dX7_init_53 : decode cX7_init 53 = .ok (.return_, 1) := by decide +kernel
end
section
/-! own rows: numbers on the stack as whole numbers; cells as facts of the heap -/
def iI (z : Int) : Int32 := Int32.ofInt z
def lI (z : Int) : Int64 := Int64.ofInt z
theorem iI_t {z : Int} (h1 : -2147483648 ≤ z) (h2 : z ≤ 2147483647) : (iI z).toInt = z := Int32.toInt_ofInt_of_le (by omega) (by omega)
theorem lI_t {z : Int} (h1 : -9223372036854775808 ≤ z) (h2 : z ≤ 9223372036854775807) : (lI z).toInt = z := Int64.toInt_ofInt_of_le (by omega) (by omega)
theorem iI_of (x : Int32) : x = iI x.toInt := (Int32.ofInt_toInt x).symm
theorem lI_of (x : Int64) : x = lI x.toInt := (Int64.ofInt_toInt x).symm
theorem iI_b (x : Int32) : -2147483648 ≤ x.toInt ∧ x.toInt ≤ 2147483647 := ⟨by have := Int32.le_toInt x; omega, by have := Int32.toInt_lt x; omega⟩
theorem lI_b (x : Int64) : -9223372036854775808 ≤ x.toInt ∧ x.toInt ≤ 9223372036854775807 := ⟨by have := Int64.le_toInt x; omega, by have := Int64.toInt_lt x; omega⟩
theorem iI_add (a b : Int) : iI a + iI b = iI (a + b) := (Int32.ofInt_add a b).symm
theorem iI_sub (a b : Int) : iI a - iI b = iI (a - b) := (Int32.ofInt_sub a b).symm
theorem iI_mul (a b : Int) : iI a * iI b = iI (a * b) := (Int32.ofInt_mul a b).symm
theorem iI_neg (a : Int) : - iI a = iI (-a) := (Int32.ofInt_neg a).symm
theorem lI_add (a b : Int) : lI a + lI b = lI (a + b) := (Int64.ofInt_add a b).symm
theorem lI_sub (a b : Int) : lI a - lI b = lI (a - b) := (Int64.ofInt_sub a b).symm
theorem lI_mul (a b : Int) : lI a * lI b = lI (a * b) := (Int64.ofInt_mul a b).symm
theorem lI_neg (a : Int) : - lI a = lI (-a) := (Int64.ofInt_neg a).symm
theorem iI_lt {a b : Int} (a1 : -2147483648 ≤ a) (a2 : a ≤ 2147483647) (b1 : -2147483648 ≤ b) (b2 : b ≤ 2147483647) : iI a < iI b ↔ a < b := by
  rw [Int32.lt_iff_toInt_lt, iI_t a1 a2, iI_t b1 b2]
theorem iI_le {a b : Int} (a1 : -2147483648 ≤ a) (a2 : a ≤ 2147483647) (b1 : -2147483648 ≤ b) (b2 : b ≤ 2147483647) : iI a ≤ iI b ↔ a ≤ b := by
  rw [Int32.le_iff_toInt_le, iI_t a1 a2, iI_t b1 b2]
theorem iI_eq {a b : Int} (a1 : -2147483648 ≤ a) (a2 : a ≤ 2147483647) (b1 : -2147483648 ≤ b) (b2 : b ≤ 2147483647) : iI a = iI b ↔ a = b := by
  rw [← Int32.toInt_inj, iI_t a1 a2, iI_t b1 b2]
theorem lI_lt {a b : Int} (a1 : -9223372036854775808 ≤ a) (a2 : a ≤ 9223372036854775807) (b1 : -9223372036854775808 ≤ b) (b2 : b ≤ 9223372036854775807) : lI a < lI b ↔ a < b := by
  rw [Int64.lt_iff_toInt_lt, lI_t a1 a2, lI_t b1 b2]
theorem lI_le {a b : Int} (a1 : -9223372036854775808 ≤ a) (a2 : a ≤ 9223372036854775807) (b1 : -9223372036854775808 ≤ b) (b2 : b ≤ 9223372036854775807) : lI a ≤ lI b ↔ a ≤ b := by
  rw [Int64.le_iff_toInt_le, lI_t a1 a2, lI_t b1 b2]
theorem lI_eq {a b : Int} (a1 : -9223372036854775808 ≤ a) (a2 : a ≤ 9223372036854775807) (b1 : -9223372036854775808 ≤ b) (b2 : b ≤ 9223372036854775807) : lI a = lI b ↔ a = b := by
  rw [← Int64.toInt_inj, lI_t a1 a2, lI_t b1 b2]
theorem iI_z : iI 0 = 0 := rfl
theorem lI_z : lI 0 = 0 := rfl
theorem iI_nI (n : Nat) : nI n = iI n := Int32.ofInt_eq_ofNat.symm
theorem iI_l {z : Int} (h1 : -2147483648 ≤ z) (h2 : z ≤ 2147483647) : (iI z).toInt64 = lI z := Int32.toInt64_ofInt (by have e1 : Int32.minValue.toInt = -2147483648 := (by decide +kernel); omega) (by have e2 : Int32.maxValue.toInt = 2147483647 := (by decide +kernel); omega)
theorem lI_i (z : Int) : (lI z).toInt32 = iI z := Int64.toInt32_ofInt
theorem iI_div {a b : Int} (a1 : -2147483648 < a) (a2 : a ≤ 2147483647) (b1 : -2147483648 ≤ b) (b2 : b ≤ 2147483647) : iI a / iI b = iI (a.tdiv b) := by
  have e1 : Int32.minValue.toInt = -2147483648 := by decide +kernel
  have e2 : Int32.maxValue.toInt = 2147483647 := by decide +kernel
  refine Eq.symm (Int32.ofInt_tdiv ?_ ?_ ?_ ?_) <;> omega
theorem lI_div {a b : Int} (a1 : -9223372036854775808 < a) (a2 : a ≤ 9223372036854775807) (b1 : -9223372036854775808 ≤ b) (b2 : b ≤ 9223372036854775807) : lI a / lI b = lI (a.tdiv b) := by
  have e1 : Int64.minValue.toInt = -9223372036854775808 := by decide +kernel
  have e2 : Int64.maxValue.toInt = 9223372036854775807 := by decide +kernel
  refine Eq.symm (Int64.ofInt_tdiv ?_ ?_ ?_ ?_) <;> omega
theorem iI_rem {a b : Int} (a1 : -2147483648 < a) (a2 : a ≤ 2147483647) (b1 : -2147483648 ≤ b) (b2 : b ≤ 2147483647) : iI a - iI a / iI b * iI b = iI (a.tmod b) := by
  rw [iI_div a1 a2 b1 b2, iI_mul, iI_sub]
  congr 1
  have := Int.tmod_add_mul_tdiv a b
  rw [Int.mul_comm] at this
  omega
theorem lI_rem {a b : Int} (a1 : -9223372036854775808 < a) (a2 : a ≤ 9223372036854775807) (b1 : -9223372036854775808 ≤ b) (b2 : b ≤ 9223372036854775807) : lI a - lI a / lI b * lI b = lI (a.tmod b) := by
  rw [lI_div a1 a2 b1 b2, lI_mul, lI_sub]
  congr 1
  have := Int.tmod_add_mul_tdiv a b
  rw [Int.mul_comm] at this
  omega
theorem iI_in {n : Nat} {i : Int} {j : Nat} (hi : i = (j : Int)) (hj : j < n) (hn : n < 2147483648) : vp_in (iI i) n ∧ (iI i).toNatClampNeg = j := by
  subst hi
  rw [← iI_nI]
  exact ⟨vp_in_nI hj hn, nI_clamp (by omega)⟩
/-- f, but x at j -/
def ud (f : Nat → Int) (j : Nat) (x : Int) : Nat → Int := fun q => if q = j then x else f q
theorem ud_s (f : Nat → Int) (j : Nat) (x : Int) : ud f j x j = x := if_pos rfl
theorem ud_n (f : Nat → Int) {j q : Nat} (x : Int) (h : q ≠ j) : ud f j x q = f q := if_neg h
/-- f, but x at j: addresses -/
def uq (f : Nat → Option Nat) (j : Nat) (x : Option Nat) : Nat → Option Nat := fun q => if q = j then x else f q
-- cells as facts of the heap
def pw_tys (E : Nat → ClassId) : List (ClassId × FieldType) := [(E 0, .int), (E 1, .long), (E 2, .boolean), (E 3, .object "PolicyWorks$Action"), (E 4, .object "PolicyWorks$Row"), (E 5, .object "PolicyWorks$Whole"), (E 6, .array .int)]
def KK (D : va_G) (E : Nat → ClassId) (U : State) : Prop := va_K D vwCl (pw_tys E) U
theorem KK.moved {D : va_G} {E : Nat → ClassId} {u U : State} (hvm : u.vm.Alike U.vm) (h : KK D E u) : KK D E U := va_K.moved hvm h
def OA (D : va_G) (a ci : Nat) (fs : List Value) (H : Heap) : Prop := va_at D vwCl (a, .inr (ci, fs)) H
def LA (E : Nat → ClassId) (a n : Nat) (f : Nat → Int) (H : Heap) : Prop := H[a]? = some (vp_cell (E 1) (n, .inr (.inl (fun j => lI (f j)))))
def IA (E : Nat → ClassId) (a n : Nat) (f : Nat → Int) (H : Heap) : Prop := H[a]? = some (vp_cell (E 0) (n, .inl (fun j => iI (f j))))
def ZA (E : Nat → ClassId) (a n : Nat) (f : Nat → Int) (H : Heap) : Prop := H[a]? = some (vp_cell (E 2) (n, .inl (fun j => iI (f j))))
def QA (E : Nat → ClassId) (k a n : Nat) (f : Nat → Option Nat) (H : Heap) : Prop := H[a]? = some (vp_cell (E k) (n, .inr (.inr (.inr (.inr f)))))
theorem OA.k {D : va_G} {a ci : Nat} {fs : List Value} {H H1 : Heap} (h : OA D a ci fs H) (hq : H1[a]? = H[a]?) : OA D a ci fs H1 := va_at.kept h hq
theorem LA.k {E : Nat → ClassId} {a n : Nat} {f : Nat → Int} {H H1 : Heap} (h : LA E a n f H) (hq : H1[a]? = H[a]?) : LA E a n f H1 := hq.trans h
theorem IA.k {E : Nat → ClassId} {a n : Nat} {f : Nat → Int} {H H1 : Heap} (h : IA E a n f H) (hq : H1[a]? = H[a]?) : IA E a n f H1 := hq.trans h
theorem ZA.k {E : Nat → ClassId} {a n : Nat} {f : Nat → Int} {H H1 : Heap} (h : ZA E a n f H) (hq : H1[a]? = H[a]?) : ZA E a n f H1 := hq.trans h
theorem QA.k {E : Nat → ClassId} {k a n : Nat} {f : Nat → Option Nat} {H H1 : Heap} (h : QA E k a n f H) (hq : H1[a]? = H[a]?) : QA E k a n f H1 := hq.trans h
theorem OA.lt {D : va_G} {a ci : Nat} {fs : List Value} {H : Heap} (h : OA D a ci fs H) : a < H.size := va_at.lt h
theorem pw_lt {a : Nat} {x : Cell} {H : Heap} (h : H[a]? = some x) : a < H.size := (Array.getElem?_eq_some_iff.mp h).1
theorem LA.lt {E : Nat → ClassId} {a n : Nat} {f : Nat → Int} {H : Heap} (h : LA E a n f H) : a < H.size := pw_lt h
theorem IA.lt {E : Nat → ClassId} {a n : Nat} {f : Nat → Int} {H : Heap} (h : IA E a n f H) : a < H.size := pw_lt h
theorem ZA.lt {E : Nat → ClassId} {a n : Nat} {f : Nat → Int} {H : Heap} (h : ZA E a n f H) : a < H.size := pw_lt h
theorem QA.lt {E : Nat → ClassId} {k a n : Nat} {f : Nat → Option Nat} {H : Heap} (h : QA E k a n f H) : a < H.size := pw_lt h
theorem LA.to {E : Nat → ClassId} {a n : Nat} {f g : Nat → Int} {H : Heap} (h : LA E a n f H) (hfg : ∀ j, f j = g j) : LA E a n g H := by rw [← funext hfg]; exact h
theorem IA.to {E : Nat → ClassId} {a n : Nat} {f g : Nat → Int} {H : Heap} (h : IA E a n f H) (hfg : ∀ j, f j = g j) : IA E a n g H := by rw [← funext hfg]; exact h
/-- an array's contents count up to its length alone -/
theorem pw_arr {cA : ClassId} {n : Nat} {f g : Nat → Value} (h : ∀ j, j < n → f j = g j) : arrV cA n f = arrV cA n g := by
  unfold arrV
  congr 1
  apply Array.ext
  · simp
  · intro i h1 h2
    simp at h1 ⊢
    exact h i h1
theorem LA.up {E : Nat → ClassId} {a n : Nat} {f g : Nat → Int} {H : Heap} (h : LA E a n f H) (hfg : ∀ j, j < n → f j = g j) : LA E a n g H := by
  unfold LA at *
  rw [h, vp_cell_l, vp_cell_l, pw_arr (fun j hj => by rw [hfg j hj])]
theorem IA.up {E : Nat → ClassId} {a n : Nat} {f g : Nat → Int} {H : Heap} (h : IA E a n f H) (hfg : ∀ j, j < n → f j = g j) : IA E a n g H := by
  unfold IA at *
  rw [h, vp_cell_i, vp_cell_i, pw_arr (fun j hj => by rw [hfg j hj])]
theorem ZA.up {E : Nat → ClassId} {a n : Nat} {f g : Nat → Int} {H : Heap} (h : ZA E a n f H) (hfg : ∀ j, j < n → f j = g j) : ZA E a n g H := by
  unfold ZA at *
  rw [h, vp_cell_i, vp_cell_i, pw_arr (fun j hj => by rw [hfg j hj])]
theorem QA.up {E : Nat → ClassId} {k a n : Nat} {f g : Nat → Option Nat} {H : Heap} (h : QA E k a n f H) (hfg : ∀ j, j < n → f j = g j) : QA E k a n g H := by
  unfold QA at *
  rw [h, vp_cell_q, vp_cell_q, pw_arr (fun j hj => by rw [hfg j hj])]
section PW
variable {p : Program} {l : Launch} {e : Env} {R : Room} {s : State} {m : MethodId} {args : Array Value} {below : List Frame} {meth : Method} {c : Code} {H : Heap} {locs : List Loc} {cells slots : Nat} {Q : State → Prop}
variable {cc : ByteArray} {pc : Nat} {ls : Array Slot} {rest : List Value} {D : va_G} {E : Nat → ClassId} {A : Nat → Prop} {H0 : Heap}
theorem pw_iconst (hx : p.tables.exec = Jvm.exec) (hb : c.code = cc) {n : Int} (d : decode cc pc = .ok (.iconst n, 1)) (k : W p l e R s m args below meth c H locs cells slots Q (F0 m (pc + 1) ls (.int (iI n) :: rest))) : W p l e R s m args below meth c H locs cells slots Q (F0 m pc ls rest) := lv_iconst hx hb d rfl k
theorem pw_bipush (hx : p.tables.exec = Jvm.exec) (hb : c.code = cc) {n : Int} (d : decode cc pc = .ok (.bipush n, 2)) (k : W p l e R s m args below meth c H locs cells slots Q (F0 m (pc + 2) ls (.int (iI n) :: rest))) (hv : (Int8.ofInt n).toInt32 = iI n := by decide +kernel) : W p l e R s m args below meth c H locs cells slots Q (F0 m pc ls rest) := lv_bipush hx hb d hv k
theorem pw_sipush (hx : p.tables.exec = Jvm.exec) (hb : c.code = cc) {n : Int} (d : decode cc pc = .ok (.sipush n, 3)) (k : W p l e R s m args below meth c H locs cells slots Q (F0 m (pc + 3) ls (.int (iI n) :: rest))) (hv : (Int16.ofInt n).toInt32 = iI n := by decide +kernel) : W p l e R s m args below meth c H locs cells slots Q (F0 m pc ls rest) := lv_sipush hx hb d hv k
theorem pw_lconst (hx : p.tables.exec = Jvm.exec) (hb : c.code = cc) {n : Fin 2} {z : Int} (d : decode cc pc = .ok (.lconst n, 1)) (k : W p l e R s m args below meth c H locs cells slots Q (F0 m (pc + 1) ls (.long (lI z) :: rest))) (hv : Int64.ofNat (n : Nat) = lI z := by decide +kernel) : W p l e R s m args below meth c H locs cells slots Q (F0 m pc ls rest) := lv_lconst hx hb d hv k
theorem pw_ldc (hx : p.tables.exec = Jvm.exec) (hb : c.code = cc) {own : String} {index : Nat} {v : Int32} {z : Int} (hown : s.vm.findClass own = some m.cls) (hc : (Jvm.Cond.constant own index v).before args s = true) (hv : v = iI z) (d : decode cc pc = .ok (.ldc index, 2)) (k : W p l e R s m args below meth c H locs cells slots Q (F0 m (pc + 2) ls (.int (iI z) :: rest))) : W p l e R s m args below meth c H locs cells slots Q (F0 m pc ls rest) := lv_ldc hx hb hown hc d (hv ▸ k)
theorem pw_ldc2 (hx : p.tables.exec = Jvm.exec) (hb : c.code = cc) {own : String} {index : Nat} {v : Int64} {z : Int} (hown : s.vm.findClass own = some m.cls) (hc : (Jvm.Cond.constantLong own index v).before args s = true) (hv : v = lI z) (d : decode cc pc = .ok (.ldc2_w index, 3)) (k : W p l e R s m args below meth c H locs cells slots Q (F0 m (pc + 3) ls (.long (lI z) :: rest))) : W p l e R s m args below meth c H locs cells slots Q (F0 m pc ls rest) := lv_ldc2 hx hb hown hc d (hv ▸ k)
theorem pw_iadd (hx : p.tables.exec = Jvm.exec) (hb : c.code = cc) {x y : Int} (d : decode cc pc = .ok (.iadd, 1)) (k : W p l e R s m args below meth c H locs cells slots Q (F0 m (pc + 1) ls (.int (iI (x + y)) :: rest))) : W p l e R s m args below meth c H locs cells slots Q (F0 m pc ls (.int (iI y) :: .int (iI x) :: rest)) := lv_iadd hx hb d (by rw [iI_add]; exact k)
theorem pw_ladd (hx : p.tables.exec = Jvm.exec) (hb : c.code = cc) {x y : Int} (d : decode cc pc = .ok (.ladd, 1)) (k : W p l e R s m args below meth c H locs cells slots Q (F0 m (pc + 1) ls (.long (lI (x + y)) :: rest))) : W p l e R s m args below meth c H locs cells slots Q (F0 m pc ls (.long (lI y) :: .long (lI x) :: rest)) := lv_ladd hx hb d (by rw [lI_add]; exact k)
theorem pw_isub (hx : p.tables.exec = Jvm.exec) (hb : c.code = cc) {x y : Int} (d : decode cc pc = .ok (.isub, 1)) (k : W p l e R s m args below meth c H locs cells slots Q (F0 m (pc + 1) ls (.int (iI (x - y)) :: rest))) : W p l e R s m args below meth c H locs cells slots Q (F0 m pc ls (.int (iI y) :: .int (iI x) :: rest)) := lv_isub hx hb d (by rw [iI_sub]; exact k)
theorem pw_lsub (hx : p.tables.exec = Jvm.exec) (hb : c.code = cc) {x y : Int} (d : decode cc pc = .ok (.lsub, 1)) (k : W p l e R s m args below meth c H locs cells slots Q (F0 m (pc + 1) ls (.long (lI (x - y)) :: rest))) : W p l e R s m args below meth c H locs cells slots Q (F0 m pc ls (.long (lI y) :: .long (lI x) :: rest)) := lv_lsub hx hb d (by rw [lI_sub]; exact k)
theorem pw_imul (hx : p.tables.exec = Jvm.exec) (hb : c.code = cc) {x y : Int} (d : decode cc pc = .ok (.imul, 1)) (k : W p l e R s m args below meth c H locs cells slots Q (F0 m (pc + 1) ls (.int (iI (x * y)) :: rest))) : W p l e R s m args below meth c H locs cells slots Q (F0 m pc ls (.int (iI y) :: .int (iI x) :: rest)) := lv_imul hx hb d (by rw [iI_mul]; exact k)
theorem pw_lmul (hx : p.tables.exec = Jvm.exec) (hb : c.code = cc) {x y : Int} (d : decode cc pc = .ok (.lmul, 1)) (k : W p l e R s m args below meth c H locs cells slots Q (F0 m (pc + 1) ls (.long (lI (x * y)) :: rest))) : W p l e R s m args below meth c H locs cells slots Q (F0 m pc ls (.long (lI y) :: .long (lI x) :: rest)) := lv_lmul hx hb d (by rw [lI_mul]; exact k)
theorem pw_ineg (hx : p.tables.exec = Jvm.exec) (hb : c.code = cc) {x : Int} (d : decode cc pc = .ok (.ineg, 1)) (k : W p l e R s m args below meth c H locs cells slots Q (F0 m (pc + 1) ls (.int (iI (-x)) :: rest))) : W p l e R s m args below meth c H locs cells slots Q (F0 m pc ls (.int (iI x) :: rest)) := lv_ineg hx hb d (by rw [iI_neg]; exact k)
theorem pw_lneg (hx : p.tables.exec = Jvm.exec) (hb : c.code = cc) {x : Int} (d : decode cc pc = .ok (.lneg, 1)) (k : W p l e R s m args below meth c H locs cells slots Q (F0 m (pc + 1) ls (.long (lI (-x)) :: rest))) : W p l e R s m args below meth c H locs cells slots Q (F0 m pc ls (.long (lI x) :: rest)) := lv_lneg hx hb d (by rw [lI_neg]; exact k)
theorem pw_idiv (hx : p.tables.exec = Jvm.exec) (hb : c.code = cc) {x y : Int} (d : decode cc pc = .ok (.idiv, 1)) (h0 : y ≠ 0) (k : W p l e R s m args below meth c H locs cells slots Q (F0 m (pc + 1) ls (.int (iI (x.tdiv y)) :: rest))) (x1 : -2147483648 < x := by omega) (x2 : x ≤ 2147483647 := by omega) (y1 : -2147483648 ≤ y := by omega) (y2 : y ≤ 2147483647 := by omega) : W p l e R s m args below meth c H locs cells slots Q (F0 m pc ls (.int (iI y) :: .int (iI x) :: rest)) := lv_idiv hx hb d (fun h => h0 ((iI_eq y1 y2 (by omega) (by omega)).mp (h.trans iI_z.symm))) (by rw [iI_div x1 x2 y1 y2]; exact k)
theorem pw_irem (hx : p.tables.exec = Jvm.exec) (hb : c.code = cc) {x y : Int} (d : decode cc pc = .ok (.irem, 1)) (h0 : y ≠ 0) (k : W p l e R s m args below meth c H locs cells slots Q (F0 m (pc + 1) ls (.int (iI (x.tmod y)) :: rest))) (x1 : -2147483648 < x := by omega) (x2 : x ≤ 2147483647 := by omega) (y1 : -2147483648 ≤ y := by omega) (y2 : y ≤ 2147483647 := by omega) : W p l e R s m args below meth c H locs cells slots Q (F0 m pc ls (.int (iI y) :: .int (iI x) :: rest)) := lv_irem hx hb d (fun h => h0 ((iI_eq y1 y2 (by omega) (by omega)).mp (h.trans iI_z.symm))) (by rw [iI_rem x1 x2 y1 y2]; exact k)
theorem pw_ldiv (hx : p.tables.exec = Jvm.exec) (hb : c.code = cc) {x y : Int} (d : decode cc pc = .ok (.ldiv, 1)) (h0 : y ≠ 0) (k : W p l e R s m args below meth c H locs cells slots Q (F0 m (pc + 1) ls (.long (lI (x.tdiv y)) :: rest))) (x1 : -9223372036854775808 < x := by omega) (x2 : x ≤ 9223372036854775807 := by omega) (y1 : -9223372036854775808 ≤ y := by omega) (y2 : y ≤ 9223372036854775807 := by omega) : W p l e R s m args below meth c H locs cells slots Q (F0 m pc ls (.long (lI y) :: .long (lI x) :: rest)) := lv_ldiv hx hb d (fun h => h0 ((lI_eq y1 y2 (by omega) (by omega)).mp (h.trans lI_z.symm))) (by rw [lI_div x1 x2 y1 y2]; exact k)
theorem pw_lrem (hx : p.tables.exec = Jvm.exec) (hb : c.code = cc) {x y : Int} (d : decode cc pc = .ok (.lrem, 1)) (h0 : y ≠ 0) (k : W p l e R s m args below meth c H locs cells slots Q (F0 m (pc + 1) ls (.long (lI (x.tmod y)) :: rest))) (x1 : -9223372036854775808 < x := by omega) (x2 : x ≤ 9223372036854775807 := by omega) (y1 : -9223372036854775808 ≤ y := by omega) (y2 : y ≤ 9223372036854775807 := by omega) : W p l e R s m args below meth c H locs cells slots Q (F0 m pc ls (.long (lI y) :: .long (lI x) :: rest)) := lv_lrem hx hb d (fun h => h0 ((lI_eq y1 y2 (by omega) (by omega)).mp (h.trans lI_z.symm))) (by rw [lI_rem x1 x2 y1 y2]; exact k)
theorem pw_i2l (hx : p.tables.exec = Jvm.exec) (hb : c.code = cc) {x : Int} (d : decode cc pc = .ok (.i2l, 1)) (k : W p l e R s m args below meth c H locs cells slots Q (F0 m (pc + 1) ls (.long (lI x) :: rest))) (x1 : -2147483648 ≤ x := by omega) (x2 : x ≤ 2147483647 := by omega) : W p l e R s m args below meth c H locs cells slots Q (F0 m pc ls (.int (iI x) :: rest)) := lv_i2l hx hb d (iI_l x1 x2) k
theorem pw_l2i (hx : p.tables.exec = Jvm.exec) (hb : c.code = cc) {x : Int} (d : decode cc pc = .ok (.l2i, 1)) (k : W p l e R s m args below meth c H locs cells slots Q (F0 m (pc + 1) ls (.int (iI x) :: rest))) : W p l e R s m args below meth c H locs cells slots Q (F0 m pc ls (.long (lI x) :: rest)) := lv_l2i hx hb d (lI_i x) k
theorem pw_icmp_eq (hx : p.tables.exec = Jvm.exec) (hb : c.code = cc) {x y : Int} {off : Int} {tgt : Nat} (d : decode cc pc = .ok (.if_icmp .eq off, 3)) (ht : (pc : Int) + off = (tgt : Int)) (kt : x = y → W p l e R s m args below meth c H locs cells slots Q (F0 m tgt ls rest)) (kf : x ≠ y → W p l e R s m args below meth c H locs cells slots Q (F0 m (pc + 3) ls rest)) (x1 : -2147483648 ≤ x := by omega) (x2 : x ≤ 2147483647 := by omega) (y1 : -2147483648 ≤ y := by omega) (y2 : y ≤ 2147483647 := by omega) : W p l e R s m args below meth c H locs cells slots Q (F0 m pc ls (.int (iI y) :: .int (iI x) :: rest)) := lv_icmp_eq hx hb d ht (fun h => kt ((iI_eq x1 x2 y1 y2).mp h)) (fun h => kf (fun q => h ((iI_eq x1 x2 y1 y2).mpr q)))
theorem pw_if_eq (hx : p.tables.exec = Jvm.exec) (hb : c.code = cc) {x : Int} {off : Int} {tgt : Nat} (d : decode cc pc = .ok (.ifCond .eq off, 3)) (ht : (pc : Int) + off = (tgt : Int)) (kt : x = 0 → W p l e R s m args below meth c H locs cells slots Q (F0 m tgt ls rest)) (kf : x ≠ 0 → W p l e R s m args below meth c H locs cells slots Q (F0 m (pc + 3) ls rest)) (x1 : -2147483648 ≤ x := by omega) (x2 : x ≤ 2147483647 := by omega) : W p l e R s m args below meth c H locs cells slots Q (F0 m pc ls (.int (iI x) :: rest)) := by
  have hz : (0 : Int32) = iI 0 := rfl
  refine lv_if_eq hx hb d ht (fun h => ?_) (fun h => ?_)
  · rw [hz] at h
    exact kt ((iI_eq x1 x2 (by omega) (by omega)).mp h)
  · rw [hz] at h
    exact kf (fun q => h (q ▸ rfl))
theorem pw_icmp_ne (hx : p.tables.exec = Jvm.exec) (hb : c.code = cc) {x y : Int} {off : Int} {tgt : Nat} (d : decode cc pc = .ok (.if_icmp .ne off, 3)) (ht : (pc : Int) + off = (tgt : Int)) (kt : x ≠ y → W p l e R s m args below meth c H locs cells slots Q (F0 m tgt ls rest)) (kf : x = y → W p l e R s m args below meth c H locs cells slots Q (F0 m (pc + 3) ls rest)) (x1 : -2147483648 ≤ x := by omega) (x2 : x ≤ 2147483647 := by omega) (y1 : -2147483648 ≤ y := by omega) (y2 : y ≤ 2147483647 := by omega) : W p l e R s m args below meth c H locs cells slots Q (F0 m pc ls (.int (iI y) :: .int (iI x) :: rest)) := lv_icmp_ne hx hb d ht (fun h => kt (fun q => h ((iI_eq x1 x2 y1 y2).mpr q))) (fun h => kf ((iI_eq x1 x2 y1 y2).mp h))
theorem pw_if_ne (hx : p.tables.exec = Jvm.exec) (hb : c.code = cc) {x : Int} {off : Int} {tgt : Nat} (d : decode cc pc = .ok (.ifCond .ne off, 3)) (ht : (pc : Int) + off = (tgt : Int)) (kt : x ≠ 0 → W p l e R s m args below meth c H locs cells slots Q (F0 m tgt ls rest)) (kf : x = 0 → W p l e R s m args below meth c H locs cells slots Q (F0 m (pc + 3) ls rest)) (x1 : -2147483648 ≤ x := by omega) (x2 : x ≤ 2147483647 := by omega) : W p l e R s m args below meth c H locs cells slots Q (F0 m pc ls (.int (iI x) :: rest)) := by
  have hz : (0 : Int32) = iI 0 := rfl
  refine lv_if_ne hx hb d ht (fun h => ?_) (fun h => ?_)
  · rw [hz] at h
    exact kt (fun q => h (q ▸ rfl))
  · rw [hz] at h
    exact kf ((iI_eq x1 x2 (by omega) (by omega)).mp h)
theorem pw_icmp_lt (hx : p.tables.exec = Jvm.exec) (hb : c.code = cc) {x y : Int} {off : Int} {tgt : Nat} (d : decode cc pc = .ok (.if_icmp .lt off, 3)) (ht : (pc : Int) + off = (tgt : Int)) (kt : x < y → W p l e R s m args below meth c H locs cells slots Q (F0 m tgt ls rest)) (kf : y ≤ x → W p l e R s m args below meth c H locs cells slots Q (F0 m (pc + 3) ls rest)) (x1 : -2147483648 ≤ x := by omega) (x2 : x ≤ 2147483647 := by omega) (y1 : -2147483648 ≤ y := by omega) (y2 : y ≤ 2147483647 := by omega) : W p l e R s m args below meth c H locs cells slots Q (F0 m pc ls (.int (iI y) :: .int (iI x) :: rest)) := lv_icmp_lt hx hb d ht (fun h => kt ((iI_lt x1 x2 y1 y2).mp h)) (fun h => kf (by have := mt (iI_lt x1 x2 y1 y2).mpr h; omega))
theorem pw_if_lt (hx : p.tables.exec = Jvm.exec) (hb : c.code = cc) {x : Int} {off : Int} {tgt : Nat} (d : decode cc pc = .ok (.ifCond .lt off, 3)) (ht : (pc : Int) + off = (tgt : Int)) (kt : x < 0 → W p l e R s m args below meth c H locs cells slots Q (F0 m tgt ls rest)) (kf : 0 ≤ x → W p l e R s m args below meth c H locs cells slots Q (F0 m (pc + 3) ls rest)) (x1 : -2147483648 ≤ x := by omega) (x2 : x ≤ 2147483647 := by omega) : W p l e R s m args below meth c H locs cells slots Q (F0 m pc ls (.int (iI x) :: rest)) := by
  have hz : (0 : Int32) = iI 0 := rfl
  refine lv_if_lt hx hb d ht (fun h => ?_) (fun h => ?_)
  · rw [hz] at h
    exact kt ((iI_lt x1 x2 (by omega) (by omega)).mp h)
  · rw [hz] at h
    exact kf (Int.not_lt.mp (fun q => h ((iI_lt x1 x2 (by omega) (by omega)).mpr q)))
theorem pw_icmp_ge (hx : p.tables.exec = Jvm.exec) (hb : c.code = cc) {x y : Int} {off : Int} {tgt : Nat} (d : decode cc pc = .ok (.if_icmp .ge off, 3)) (ht : (pc : Int) + off = (tgt : Int)) (kt : y ≤ x → W p l e R s m args below meth c H locs cells slots Q (F0 m tgt ls rest)) (kf : x < y → W p l e R s m args below meth c H locs cells slots Q (F0 m (pc + 3) ls rest)) (x1 : -2147483648 ≤ x := by omega) (x2 : x ≤ 2147483647 := by omega) (y1 : -2147483648 ≤ y := by omega) (y2 : y ≤ 2147483647 := by omega) : W p l e R s m args below meth c H locs cells slots Q (F0 m pc ls (.int (iI y) :: .int (iI x) :: rest)) := lv_icmp_ge hx hb d ht (fun h => kt ((iI_le y1 y2 x1 x2).mp h)) (fun h => kf (by have := mt (iI_le y1 y2 x1 x2).mpr h; omega))
theorem pw_if_ge (hx : p.tables.exec = Jvm.exec) (hb : c.code = cc) {x : Int} {off : Int} {tgt : Nat} (d : decode cc pc = .ok (.ifCond .ge off, 3)) (ht : (pc : Int) + off = (tgt : Int)) (kt : 0 ≤ x → W p l e R s m args below meth c H locs cells slots Q (F0 m tgt ls rest)) (kf : x < 0 → W p l e R s m args below meth c H locs cells slots Q (F0 m (pc + 3) ls rest)) (x1 : -2147483648 ≤ x := by omega) (x2 : x ≤ 2147483647 := by omega) : W p l e R s m args below meth c H locs cells slots Q (F0 m pc ls (.int (iI x) :: rest)) := by
  have hz : (0 : Int32) = iI 0 := rfl
  refine lv_if_ge hx hb d ht (fun h => ?_) (fun h => ?_)
  · rw [hz] at h
    exact kt ((iI_le (by omega) (by omega) x1 x2).mp h)
  · rw [hz] at h
    exact kf (Int.not_le.mp (fun q => h ((iI_le (by omega) (by omega) x1 x2).mpr q)))
theorem pw_icmp_gt (hx : p.tables.exec = Jvm.exec) (hb : c.code = cc) {x y : Int} {off : Int} {tgt : Nat} (d : decode cc pc = .ok (.if_icmp .gt off, 3)) (ht : (pc : Int) + off = (tgt : Int)) (kt : y < x → W p l e R s m args below meth c H locs cells slots Q (F0 m tgt ls rest)) (kf : x ≤ y → W p l e R s m args below meth c H locs cells slots Q (F0 m (pc + 3) ls rest)) (x1 : -2147483648 ≤ x := by omega) (x2 : x ≤ 2147483647 := by omega) (y1 : -2147483648 ≤ y := by omega) (y2 : y ≤ 2147483647 := by omega) : W p l e R s m args below meth c H locs cells slots Q (F0 m pc ls (.int (iI y) :: .int (iI x) :: rest)) := lv_icmp_gt hx hb d ht (fun h => kt ((iI_lt y1 y2 x1 x2).mp h)) (fun h => kf (by have := mt (iI_lt y1 y2 x1 x2).mpr h; omega))
theorem pw_if_gt (hx : p.tables.exec = Jvm.exec) (hb : c.code = cc) {x : Int} {off : Int} {tgt : Nat} (d : decode cc pc = .ok (.ifCond .gt off, 3)) (ht : (pc : Int) + off = (tgt : Int)) (kt : 0 < x → W p l e R s m args below meth c H locs cells slots Q (F0 m tgt ls rest)) (kf : x ≤ 0 → W p l e R s m args below meth c H locs cells slots Q (F0 m (pc + 3) ls rest)) (x1 : -2147483648 ≤ x := by omega) (x2 : x ≤ 2147483647 := by omega) : W p l e R s m args below meth c H locs cells slots Q (F0 m pc ls (.int (iI x) :: rest)) := by
  have hz : (0 : Int32) = iI 0 := rfl
  refine lv_if_gt hx hb d ht (fun h => ?_) (fun h => ?_)
  · rw [hz] at h
    exact kt ((iI_lt (by omega) (by omega) x1 x2).mp h)
  · rw [hz] at h
    exact kf (Int.not_lt.mp (fun q => h ((iI_lt (by omega) (by omega) x1 x2).mpr q)))
theorem pw_icmp_le (hx : p.tables.exec = Jvm.exec) (hb : c.code = cc) {x y : Int} {off : Int} {tgt : Nat} (d : decode cc pc = .ok (.if_icmp .le off, 3)) (ht : (pc : Int) + off = (tgt : Int)) (kt : x ≤ y → W p l e R s m args below meth c H locs cells slots Q (F0 m tgt ls rest)) (kf : y < x → W p l e R s m args below meth c H locs cells slots Q (F0 m (pc + 3) ls rest)) (x1 : -2147483648 ≤ x := by omega) (x2 : x ≤ 2147483647 := by omega) (y1 : -2147483648 ≤ y := by omega) (y2 : y ≤ 2147483647 := by omega) : W p l e R s m args below meth c H locs cells slots Q (F0 m pc ls (.int (iI y) :: .int (iI x) :: rest)) := lv_icmp_le hx hb d ht (fun h => kt ((iI_le x1 x2 y1 y2).mp h)) (fun h => kf (by have := mt (iI_le x1 x2 y1 y2).mpr h; omega))
theorem pw_if_le (hx : p.tables.exec = Jvm.exec) (hb : c.code = cc) {x : Int} {off : Int} {tgt : Nat} (d : decode cc pc = .ok (.ifCond .le off, 3)) (ht : (pc : Int) + off = (tgt : Int)) (kt : x ≤ 0 → W p l e R s m args below meth c H locs cells slots Q (F0 m tgt ls rest)) (kf : 0 < x → W p l e R s m args below meth c H locs cells slots Q (F0 m (pc + 3) ls rest)) (x1 : -2147483648 ≤ x := by omega) (x2 : x ≤ 2147483647 := by omega) : W p l e R s m args below meth c H locs cells slots Q (F0 m pc ls (.int (iI x) :: rest)) := by
  have hz : (0 : Int32) = iI 0 := rfl
  refine lv_if_le hx hb d ht (fun h => ?_) (fun h => ?_)
  · rw [hz] at h
    exact kt ((iI_le x1 x2 (by omega) (by omega)).mp h)
  · rw [hz] at h
    exact kf (Int.not_le.mp (fun q => h ((iI_le x1 x2 (by omega) (by omega)).mpr q)))
theorem pw_cmp (x y : Int) : ∀ {a b : Int}, a = x → b = y → (-9223372036854775808 ≤ x) → (x ≤ 9223372036854775807) → (-9223372036854775808 ≤ y) → (y ≤ 9223372036854775807) → lg_cmp (lI a) (lI b) = iI (if y < x then 1 else if x = y then 0 else -1) := by
  intro a b ha hb x1 x2 y1 y2
  subst ha
  subst hb
  unfold lg_cmp
  by_cases h1 : b < a
  · rw [if_pos ((lI_lt y1 y2 x1 x2).mpr h1), if_pos h1]; rfl
  · rw [if_neg (fun h => h1 ((lI_lt y1 y2 x1 x2).mp h)), if_neg h1]
    by_cases h2 : a = b
    · rw [if_pos (h2 ▸ rfl), if_pos h2]; rfl
    · rw [if_neg (fun h => h2 ((lI_eq x1 x2 y1 y2).mp h)), if_neg h2]; rfl
theorem pw_lcmp_eq (hx : p.tables.exec = Jvm.exec) (hb : c.code = cc) {x y : Int} {off : Int} {tgt : Nat} (d1 : decode cc pc = .ok (.lcmp, 1)) (d : decode cc (pc + 1) = .ok (.ifCond .eq off, 3)) (ht : ((pc + 1 : Nat) : Int) + off = (tgt : Int)) (kt : x = y → W p l e R s m args below meth c H locs cells slots Q (F0 m tgt ls rest)) (kf : x ≠ y → W p l e R s m args below meth c H locs cells slots Q (F0 m (pc + 4) ls rest)) (x1 : -9223372036854775808 ≤ x := by omega) (x2 : x ≤ 9223372036854775807 := by omega) (y1 : -9223372036854775808 ≤ y := by omega) (y2 : y ≤ 9223372036854775807 := by omega) : W p l e R s m args below meth c H locs cells slots Q (F0 m pc ls (.long (lI y) :: .long (lI x) :: rest)) := by
  refine W.lcmp hx hb d1 ?_
  rw [pw_cmp x y rfl rfl x1 x2 y1 y2]
  have hr : -1 ≤ (if y < x then (1 : Int) else if x = y then 0 else -1) ∧ (if y < x then (1 : Int) else if x = y then 0 else -1) ≤ 1 := by split <;> (try split) <;> omega
  refine pw_if_eq hx hb d ht (fun h => kt ?_) (fun h => kf ?_) (by omega) (by omega) <;> (by_cases h1 : y < x <;> by_cases h2 : x = y <;> simp only [h1, h2, if_true, if_false] at h <;> omega)
theorem pw_lcmp_ne (hx : p.tables.exec = Jvm.exec) (hb : c.code = cc) {x y : Int} {off : Int} {tgt : Nat} (d1 : decode cc pc = .ok (.lcmp, 1)) (d : decode cc (pc + 1) = .ok (.ifCond .ne off, 3)) (ht : ((pc + 1 : Nat) : Int) + off = (tgt : Int)) (kt : x ≠ y → W p l e R s m args below meth c H locs cells slots Q (F0 m tgt ls rest)) (kf : x = y → W p l e R s m args below meth c H locs cells slots Q (F0 m (pc + 4) ls rest)) (x1 : -9223372036854775808 ≤ x := by omega) (x2 : x ≤ 9223372036854775807 := by omega) (y1 : -9223372036854775808 ≤ y := by omega) (y2 : y ≤ 9223372036854775807 := by omega) : W p l e R s m args below meth c H locs cells slots Q (F0 m pc ls (.long (lI y) :: .long (lI x) :: rest)) := by
  refine W.lcmp hx hb d1 ?_
  rw [pw_cmp x y rfl rfl x1 x2 y1 y2]
  have hr : -1 ≤ (if y < x then (1 : Int) else if x = y then 0 else -1) ∧ (if y < x then (1 : Int) else if x = y then 0 else -1) ≤ 1 := by split <;> (try split) <;> omega
  refine pw_if_ne hx hb d ht (fun h => kt ?_) (fun h => kf ?_) (by omega) (by omega) <;> (by_cases h1 : y < x <;> by_cases h2 : x = y <;> simp only [h1, h2, if_true, if_false] at h <;> omega)
theorem pw_lcmp_lt (hx : p.tables.exec = Jvm.exec) (hb : c.code = cc) {x y : Int} {off : Int} {tgt : Nat} (d1 : decode cc pc = .ok (.lcmp, 1)) (d : decode cc (pc + 1) = .ok (.ifCond .lt off, 3)) (ht : ((pc + 1 : Nat) : Int) + off = (tgt : Int)) (kt : x < y → W p l e R s m args below meth c H locs cells slots Q (F0 m tgt ls rest)) (kf : y ≤ x → W p l e R s m args below meth c H locs cells slots Q (F0 m (pc + 4) ls rest)) (x1 : -9223372036854775808 ≤ x := by omega) (x2 : x ≤ 9223372036854775807 := by omega) (y1 : -9223372036854775808 ≤ y := by omega) (y2 : y ≤ 9223372036854775807 := by omega) : W p l e R s m args below meth c H locs cells slots Q (F0 m pc ls (.long (lI y) :: .long (lI x) :: rest)) := by
  refine W.lcmp hx hb d1 ?_
  rw [pw_cmp x y rfl rfl x1 x2 y1 y2]
  have hr : -1 ≤ (if y < x then (1 : Int) else if x = y then 0 else -1) ∧ (if y < x then (1 : Int) else if x = y then 0 else -1) ≤ 1 := by split <;> (try split) <;> omega
  refine pw_if_lt hx hb d ht (fun h => kt ?_) (fun h => kf ?_) (by omega) (by omega) <;> (by_cases h1 : y < x <;> by_cases h2 : x = y <;> simp only [h1, h2, if_true, if_false] at h <;> omega)
theorem pw_lcmp_ge (hx : p.tables.exec = Jvm.exec) (hb : c.code = cc) {x y : Int} {off : Int} {tgt : Nat} (d1 : decode cc pc = .ok (.lcmp, 1)) (d : decode cc (pc + 1) = .ok (.ifCond .ge off, 3)) (ht : ((pc + 1 : Nat) : Int) + off = (tgt : Int)) (kt : y ≤ x → W p l e R s m args below meth c H locs cells slots Q (F0 m tgt ls rest)) (kf : x < y → W p l e R s m args below meth c H locs cells slots Q (F0 m (pc + 4) ls rest)) (x1 : -9223372036854775808 ≤ x := by omega) (x2 : x ≤ 9223372036854775807 := by omega) (y1 : -9223372036854775808 ≤ y := by omega) (y2 : y ≤ 9223372036854775807 := by omega) : W p l e R s m args below meth c H locs cells slots Q (F0 m pc ls (.long (lI y) :: .long (lI x) :: rest)) := by
  refine W.lcmp hx hb d1 ?_
  rw [pw_cmp x y rfl rfl x1 x2 y1 y2]
  have hr : -1 ≤ (if y < x then (1 : Int) else if x = y then 0 else -1) ∧ (if y < x then (1 : Int) else if x = y then 0 else -1) ≤ 1 := by split <;> (try split) <;> omega
  refine pw_if_ge hx hb d ht (fun h => kt ?_) (fun h => kf ?_) (by omega) (by omega) <;> (by_cases h1 : y < x <;> by_cases h2 : x = y <;> simp only [h1, h2, if_true, if_false] at h <;> omega)
theorem pw_lcmp_gt (hx : p.tables.exec = Jvm.exec) (hb : c.code = cc) {x y : Int} {off : Int} {tgt : Nat} (d1 : decode cc pc = .ok (.lcmp, 1)) (d : decode cc (pc + 1) = .ok (.ifCond .gt off, 3)) (ht : ((pc + 1 : Nat) : Int) + off = (tgt : Int)) (kt : y < x → W p l e R s m args below meth c H locs cells slots Q (F0 m tgt ls rest)) (kf : x ≤ y → W p l e R s m args below meth c H locs cells slots Q (F0 m (pc + 4) ls rest)) (x1 : -9223372036854775808 ≤ x := by omega) (x2 : x ≤ 9223372036854775807 := by omega) (y1 : -9223372036854775808 ≤ y := by omega) (y2 : y ≤ 9223372036854775807 := by omega) : W p l e R s m args below meth c H locs cells slots Q (F0 m pc ls (.long (lI y) :: .long (lI x) :: rest)) := by
  refine W.lcmp hx hb d1 ?_
  rw [pw_cmp x y rfl rfl x1 x2 y1 y2]
  have hr : -1 ≤ (if y < x then (1 : Int) else if x = y then 0 else -1) ∧ (if y < x then (1 : Int) else if x = y then 0 else -1) ≤ 1 := by split <;> (try split) <;> omega
  refine pw_if_gt hx hb d ht (fun h => kt ?_) (fun h => kf ?_) (by omega) (by omega) <;> (by_cases h1 : y < x <;> by_cases h2 : x = y <;> simp only [h1, h2, if_true, if_false] at h <;> omega)
theorem pw_lcmp_le (hx : p.tables.exec = Jvm.exec) (hb : c.code = cc) {x y : Int} {off : Int} {tgt : Nat} (d1 : decode cc pc = .ok (.lcmp, 1)) (d : decode cc (pc + 1) = .ok (.ifCond .le off, 3)) (ht : ((pc + 1 : Nat) : Int) + off = (tgt : Int)) (kt : x ≤ y → W p l e R s m args below meth c H locs cells slots Q (F0 m tgt ls rest)) (kf : y < x → W p l e R s m args below meth c H locs cells slots Q (F0 m (pc + 4) ls rest)) (x1 : -9223372036854775808 ≤ x := by omega) (x2 : x ≤ 9223372036854775807 := by omega) (y1 : -9223372036854775808 ≤ y := by omega) (y2 : y ≤ 9223372036854775807 := by omega) : W p l e R s m args below meth c H locs cells slots Q (F0 m pc ls (.long (lI y) :: .long (lI x) :: rest)) := by
  refine W.lcmp hx hb d1 ?_
  rw [pw_cmp x y rfl rfl x1 x2 y1 y2]
  have hr : -1 ≤ (if y < x then (1 : Int) else if x = y then 0 else -1) ∧ (if y < x then (1 : Int) else if x = y then 0 else -1) ≤ 1 := by split <;> (try split) <;> omega
  refine pw_if_le hx hb d ht (fun h => kt ?_) (fun h => kf ?_) (by omega) (by omega) <;> (by_cases h1 : y < x <;> by_cases h2 : x = y <;> simp only [h1, h2, if_true, if_false] at h <;> omega)
-- arrays
theorem pw_lald (hx : p.tables.exec = Jvm.exec) (hb : c.code = cc) (hK : KK D E s) {a n : Nat} {f : Nat → Int} (hA : LA E a n f H) {i : Int} (j : Nat) (hi : i = (j : Int)) (hj : j < n) (hn : n < 2147483648) (d : decode cc pc = .ok (.laload, 1)) (k : W p l e R s m args below meth c H locs cells slots Q (F0 m (pc + 1) ls (.long (lI (f j)) :: rest))) : W p l e R s m args below meth c H locs cells slots Q (F0 m pc ls (.int (iI i) :: .ref a :: rest)) := by
  obtain ⟨h1, h2⟩ := iI_in hi hj hn
  refine va_lald (D := D) (cl := vwCl) (ws := [(a, .inl (E 1, n, .inr (.inl (fun q => lI (f q)))))]) hx hb hK (fun k q hq => ?_) 0 1 rfl rfl h1 d ?_
  · cases k with
    | zero => cases hq; exact hA
    | succ k => cases hq
  · rw [h2]; exact k
theorem pw_iald (hx : p.tables.exec = Jvm.exec) (hb : c.code = cc) (hK : KK D E s) {a n : Nat} {f : Nat → Int} (hA : IA E a n f H) {i : Int} (j : Nat) (hi : i = (j : Int)) (hj : j < n) (hn : n < 2147483648) (d : decode cc pc = .ok (.iaload, 1)) (k : W p l e R s m args below meth c H locs cells slots Q (F0 m (pc + 1) ls (.int (iI (f j)) :: rest))) : W p l e R s m args below meth c H locs cells slots Q (F0 m pc ls (.int (iI i) :: .ref a :: rest)) := by
  obtain ⟨h1, h2⟩ := iI_in hi hj hn
  refine va_iald (D := D) (cl := vwCl) (ws := [(a, .inl (E 0, n, .inl (fun q => iI (f q))))]) hx hb hK (fun k q hq => ?_) 0 0 rfl rfl h1 d ?_
  · cases k with
    | zero => cases hq; exact hA
    | succ k => cases hq
  · rw [h2]; exact k
theorem pw_zald (hx : p.tables.exec = Jvm.exec) (hb : c.code = cc) (hK : KK D E s) {a n : Nat} {f : Nat → Int} (hA : ZA E a n f H) {i : Int} (j : Nat) (hi : i = (j : Int)) (hj : j < n) (hn : n < 2147483648) (d : decode cc pc = .ok (.baload, 1)) (k : W p l e R s m args below meth c H locs cells slots Q (F0 m (pc + 1) ls (.int (iI (f j)) :: rest))) : W p l e R s m args below meth c H locs cells slots Q (F0 m pc ls (.int (iI i) :: .ref a :: rest)) := by
  obtain ⟨h1, h2⟩ := iI_in hi hj hn
  refine va_zald (D := D) (cl := vwCl) (ws := [(a, .inl (E 2, n, .inl (fun q => iI (f q))))]) hx hb hK (fun k q hq => ?_) 0 2 rfl rfl h1 d ?_
  · cases k with
    | zero => cases hq; exact hA
    | succ k => cases hq
  · rw [h2]; exact k
theorem pw_one {a : Nat} {x : va_E} (h : va_at D vwCl (a, x) H) : va_P D vwCl [(a, x)] H := fun k q hq => by
  cases k with
  | zero => cases hq; exact h
  | succ k => cases hq
theorem pw_alen (hx : p.tables.exec = Jvm.exec) (hb : c.code = cc) (hK : KK D E s) {a n k0 : Nat} {x : vp_A} (hA : H[a]? = some (vp_cell (E k0) x)) {ty : FieldType} (ht : (pw_tys E)[k0]? = some (E k0, ty)) (hn : x.1 = n) (d : decode cc pc = .ok (.arraylength, 1)) (k : W p l e R s m args below meth c H locs cells slots Q (F0 m (pc + 1) ls (.int (iI (n : Int)) :: rest))) : W p l e R s m args below meth c H locs cells slots Q (F0 m pc ls (.ref a :: rest)) :=
  va_alen (D := D) (cl := vwCl) (ws := [(a, .inl (E k0, x))]) hx hb hK (pw_one (D := D) hA) 0 k0 rfl ht (v := iI (n : Int)) (by rw [hn]; exact iI_nI n) d k
theorem pw_get (hx : p.tables.exec = Jvm.exec) (hb : c.code = cc) {own ref C : String} {T : u_T} {N ci index : Nat} {Ts : List Cond} {a : Nat} {fs : List Value} (hts : ∀ w ∈ Ts, w.before args s = true) (hin : ∀ w ∈ u_ws C T N, w ∈ Ts) (hown : s.vm.findClass own = some m.cls) (hK : KK D E s) (hO : OA D a ci fs H) (hc : vwCl[ci]? = some (C, T, N)) (k : Nat) (hk : k < N) (hlink : (Cond.fieldLink own index ref (T k).2.1 (T k).2.2.1).before args s = true) (href : ref = (T k).1) {v : Value} (hv : fs[k]? = some v) (d : decode cc pc = .ok (.getfield index, 3))
    (kk : W p l e R s m args below meth c H locs cells slots Q (F0 m (pc + 3) ls (v :: rest))) : W p l e R s m args below meth c H locs cells slots Q (F0 m pc ls (.ref a :: rest)) :=
  va_get (D := D) (cl := vwCl) (ws := [(a, .inr (ci, fs))]) hx hb hts hin hown hK (pw_one hO) 0 rfl hc k hk hlink (fun x h => by rw [href]; exact h) hv d kk
theorem pw_put (hx : p.tables.exec = Jvm.exec) (hb : c.code = cc) {own ref C : String} {T : u_T} {N ci index : Nat} {Ts : List Cond} {a : Nat} {fs : List Value} (hts : ∀ w ∈ Ts, w.before args s = true) (hin : ∀ w ∈ u_ws C T N, w ∈ Ts) (ty0 : Nat → FieldType) (hty : ∀ k, k < N → parseFieldDescriptor (T k).2.2.1 = some (ty0 k)) (hnm : ∀ a, a < N → ∀ b, b < N → a ≠ b → (T a).2.1 ≠ (T b).2.1) (hown : s.vm.findClass own = some m.cls) (hK : KK D E s) (hO : OA D a ci fs H) (hS : va_S A H0 H locs) (hAa : A a) (hc : vwCl[ci]? = some (C, T, N)) (k : Nat) (hk : k < N) (hlink : (Cond.fieldLink own index ref (T k).2.1 (T k).2.2.1).before args s = true) (href : ref = (T k).1) (hfin : (T k).2.2.2 = false) {v : Value} (hn : narrow (ty0 k) v = v) (hfit : fits (ty0 k) v = true) (hl : k < fs.length) (d : decode cc pc = .ok (.putfield index, 3))
    (kk : ∀ (H1 : Heap) (locs1 : List Loc), OA D a ci (fs.set k v) H1 → H1.size = H.size → (∀ q : Nat, q ≠ a → H1[q]? = H[q]?) → va_S A H0 H1 locs1 → W p l e R s m args below meth c H1 locs1 cells slots Q (F0 m (pc + 3) ls rest)) : W p l e R s m args below meth c H locs cells slots Q (F0 m pc ls (v :: .ref a :: rest)) := by
  have hP := pw_one hO
  have hK0 : va_K D vwCl (pw_tys E) s := hK
  have hap := va_apart (own := own) hts hin ty0 hty hnm hK0 hc
  obtain ⟨r, h1, cell, q1, q2, q3, q4⟩ := hP 0 _ rfl
  have hr : r = (C, T, N) := Option.some.inj (h1.symm.trans hc)
  subst hr
  obtain ⟨hS', hfc, kC, hkC, hkind⟩ := hK0.1 ci _ hc
  obtain ⟨cf, kf, fi, f, hi, hsl⟩ := hS' k hk
  have hlay := hts _ (hin _ (u_in_lay hk))
  unfold u_lay at hlay
  rw [if_neg (by rw [hfin]; decide)] at hlay
  have hst := (u_facts hfc hkC (u_lays hts hin hk) hi).1
  have h6 := u_store hfc hkC hkind hlay hi (hty k hk) hn hfit
  refine W.putK hx hb (f := f) ⟨hown, hlink, ⟨_, _, _, by rw [href]; exact hi⟩, hst⟩ (by rw [q2]; exact h6) q1 q3 (by rw [hsl]; exact k2_hasslot (q4 k hk)) rfl rfl d fun H' e1 e2 e3 => ?_
  rw [hsl] at e1 ⊢
  exact kk H' _ ⟨_, hc, t_OB.to (V := updV (vp_V fs) k v) ⟨_, e1, q2, q3, t_set q4 hap hk v⟩ (fun j _ => vp_updV_set hl v j)⟩ e2 e3 (hS.put e2 e3 hAa)
theorem pw_putF (hx : p.tables.exec = Jvm.exec) (hb : c.code = cc) {own ref C : String} {T : u_T} {N ci index : Nat} {Ts : List Cond} {a : Nat} {fs : List Value} (hts : ∀ w ∈ Ts, w.before args s = true) (hin : ∀ w ∈ u_ws C T N, w ∈ Ts) (ty0 : Nat → FieldType) (hty : ∀ k, k < N → parseFieldDescriptor (T k).2.2.1 = some (ty0 k)) (hnm : ∀ a, a < N → ∀ b, b < N → a ≠ b → (T a).2.1 ≠ (T b).2.1) (hown : s.vm.findClass own = some m.cls) (hK : KK D E s) (hO : OA D a ci fs H) (hS : va_S A H0 H locs) (hAa : A a) (hc : vwCl[ci]? = some (C, T, N)) (k : Nat) (hk : k < N) (hlink : (Cond.fieldLink own index ref (T k).2.1 (T k).2.2.1).before args s = true) (href : ref = (T k).1) (hfin : (T k).2.2.2 = true) (hin2 : meth.name = "<init>") (hdecl : (T k).1 = own) {v : Value} (hn : narrow (ty0 k) v = v) (hfit : fits (ty0 k) v = true) (hl : k < fs.length) (d : decode cc pc = .ok (.putfield index, 3))
    (kk : ∀ (H1 : Heap) (locs1 : List Loc), OA D a ci (fs.set k v) H1 → H1.size = H.size → (∀ q : Nat, q ≠ a → H1[q]? = H[q]?) → va_S A H0 H1 locs1 → W p l e R s m args below meth c H1 locs1 cells slots Q (F0 m (pc + 3) ls rest)) : W p l e R s m args below meth c H locs cells slots Q (F0 m pc ls (v :: .ref a :: rest)) := by
  have hP := pw_one hO
  have hK0 : va_K D vwCl (pw_tys E) s := hK
  have hap := va_apart (own := own) hts hin ty0 hty hnm hK0 hc
  obtain ⟨r, h1, cell, q1, q2, q3, q4⟩ := hP 0 _ rfl
  have hr : r = (C, T, N) := Option.some.inj (h1.symm.trans hc)
  subst hr
  obtain ⟨hS', hfc, kC, hkC, hkind⟩ := hK0.1 ci _ hc
  obtain ⟨cf, kf, fi, f, hi, hsl⟩ := hS' k hk
  have hlay := hts _ (hin _ (u_in_lay hk))
  unfold u_lay at hlay
  rw [if_pos hfin] at hlay
  have hst := (u_facts hfc hkC (u_lays hts hin hk) hi).1
  have hcf : m.cls = cf := by
    obtain ⟨_, _, c', _, _, _, -, -, hf', -, -, -, hown2, -⟩ := Cond.laysFinal_spec hlay
    have e1 : c' = cf := by have := hi.symm.trans hf'; simp at this; exact this.1.symm
    rw [hdecl] at hown2
    rw [← e1]; exact Option.some.inj (hown.symm.trans hown2)
  have h6 := u_fits hfc hkC hkind (Or.inr hlay) hi (hty k hk) hn hfit
  refine W.putFinK hx hb hown hlink (by rw [href]; exact hi) hst hcf hin2 (by rw [q2]; exact h6) q1 q3 (by rw [hsl]; exact k2_hasslot (q4 k hk)) rfl rfl d fun H' e1 e2 e3 => ?_
  rw [hsl] at e1 ⊢
  exact kk H' _ ⟨_, hc, t_OB.to (V := updV (vp_V fs) k v) ⟨_, e1, q2, q3, t_set q4 hap hk v⟩ (fun j _ => vp_updV_set hl v j)⟩ e2 e3 (hS.put e2 e3 hAa)
theorem pw_last (hx : p.tables.exec = Jvm.exec) (hb : c.code = cc) (hK : KK D E s) {a n : Nat} {f : Nat → Int} (hA : LA E a n f H) (hS : va_S A H0 H locs) (hAa : A a) {i x : Int} (j : Nat) (hi : i = (j : Int)) (hj : j < n) (hn : n < 2147483648) (d : decode cc pc = .ok (.lastore, 1))
    (kk : ∀ (H1 : Heap) (locs1 : List Loc), LA E a n (ud f j x) H1 → H1.size = H.size → (∀ q : Nat, q ≠ a → H1[q]? = H[q]?) → va_S A H0 H1 locs1 → W p l e R s m args below meth c H1 locs1 cells slots Q (F0 m (pc + 1) ls rest)) : W p l e R s m args below meth c H locs cells slots Q (F0 m pc ls (.long (lI x) :: .int (iI i) :: .ref a :: rest)) := by
  obtain ⟨h1, h2⟩ := iI_in hi hj hn
  have hK0 : va_K D vwCl (pw_tys E) s := hK
  refine W.last hx hb hA ((hK0.2 1 _ rfl).1 n (fun j => .long (lI (f j)))) (fun q => by cases q) (by show ¬ (iI i < 0 ∨ (arrV _ _ _).slots.size ≤ _); rw [arrV_size]; exact h1) rfl rfl d fun H1 e z oq => ?_
  refine kk H1 _ ?_ z oq (hS.put z oq hAa)
  show H1[a]? = some (vp_cell _ _)
  rw [e, vp_cell_l, vp_cell_l, arrV_store, h2]
  congr 2
  funext q
  by_cases hq : q = j
  · subst hq
    simp [updV, ud]
  · simp [updV, ud, hq]
theorem pw_iast (hx : p.tables.exec = Jvm.exec) (hb : c.code = cc) (hK : KK D E s) {a n : Nat} {f : Nat → Int} (hA : IA E a n f H) (hS : va_S A H0 H locs) (hAa : A a) {i x : Int} (j : Nat) (hi : i = (j : Int)) (hj : j < n) (hn : n < 2147483648) (d : decode cc pc = .ok (.iastore, 1))
    (kk : ∀ (H1 : Heap) (locs1 : List Loc), IA E a n (ud f j x) H1 → H1.size = H.size → (∀ q : Nat, q ≠ a → H1[q]? = H[q]?) → va_S A H0 H1 locs1 → W p l e R s m args below meth c H1 locs1 cells slots Q (F0 m (pc + 1) ls rest)) : W p l e R s m args below meth c H locs cells slots Q (F0 m pc ls (.int (iI x) :: .int (iI i) :: .ref a :: rest)) := by
  obtain ⟨h1, h2⟩ := iI_in hi hj hn
  have hK0 : va_K D vwCl (pw_tys E) s := hK
  refine W.iast hx hb hA ((hK0.2 0 _ rfl).1 n (fun j => .int (iI (f j)))) (fun q => by cases q) (by show ¬ (iI i < 0 ∨ (arrV _ _ _).slots.size ≤ _); rw [arrV_size]; exact h1) rfl rfl d fun H1 e z oq => ?_
  refine kk H1 _ ?_ z oq (hS.put z oq hAa)
  show H1[a]? = some (vp_cell _ _)
  rw [e, vp_cell_i, vp_cell_i, arrV_store, h2]
  congr 2
  funext q
  by_cases hq : q = j
  · subst hq
    simp [updV, ud]
  · simp [updV, ud, hq]
end PW
end
section
/-! contracts in one form: what a method asks of the heap, what it answers, what it leaves -/
abbrev rvV : Unit → Option Value := fun _ => none
abbrev rvI : Int → Option Value := fun z => some (.int (iI z))
abbrev rvL : Int → Option Value := fun z => some (.long (lI z))
abbrev rvR : Nat → Option Value := fun a => some (.ref a)
def pw_Q {ρ : Type} (rv : ρ → Option Value) (Post : ρ → Heap → Prop) (A : Nat → Prop) : Array Value → State → Outcome → State → Prop := fun _ st oc t => (∃ z : ρ, oc = .returned (rv z) ∧ Post z t.heap) ∧ va_F A st t
def pw_M {ρ : Type} (rv : ρ → Option Value) (l : Launch) (D : va_G) (E : Nat → ClassId) (y : MethodName) (ws : List Cond) (rm : Room) (as : List Value) (Pre : Heap → Prop) (Post : ρ → Heap → Prop) (A : Nat → Prop) (mc ms : Nat) : Prop :=
  Met l y ws rm (va_Pc as (fun U => KK D E U ∧ Pre U.heap)) (pw_Q rv Post A) mc ms A
theorem pw_blind {D : va_G} {E : Nat → ClassId} {as : List Value} {Pre : Heap → Prop} : FrameBlind (va_Pc as (fun U => KK D E U ∧ Pre U.heap)) := fun a U g mk q => by
  obtain ⟨q0, q1, q2⟩ := q
  exact ⟨q0, KK.moved (u := U) (U := U.calling g mk a) (Vm.Alike.refl U.vm) q1, q2⟩
theorem pw_of {ρ : Type} {rv : ρ → Option Value} {l : Launch} {D : va_G} {E : Nat → ClassId} {y : MethodName} {ws ws' : List Cond} {rm : Room} {as : List Value} {Pre : Heap → Prop} {Post : ρ → Heap → Prop} {A : Nat → Prop} {mc ms : Nat} {cc : ByteArray} {maxL : Nat} {ret : Option FieldType}
    (hy : plainFor y = true) (hw : ws = Cond.code y cc maxL ret :: ws') (hlen : (lg_sl as).length ≤ maxL)
    (body : ∀ (p : Program) (e : Env) (s : State) (m : MethodId) (args : Array Value) (below : List Frame) (meth : Method) (c : Code), p.tables.exec = Jvm.exec → c.code = cc → meth.sig.returnType = ret → c.maxLocals = maxL → (∀ w ∈ ws, w.before args s = true) → s.vm.findClass y.cls = some m.cls → meth.locks = false → meth.name = y.name → KK D E s → Pre s.heap →
      ∀ ls : Array Slot, lv_has ls maxL (lv_args 0 as) → W p l e rm s m args below meth c s.heap [] 0 0 (MQ below (pw_Q rv Post A) args s mc ms A) (F0 m 0 ls [])) : pw_M rv l D E y ws rm as Pre Post A mc ms := by
  unfold pw_M Met
  refine MetFree.of_bodySF (code := cc) (maxLocals := maxL) (ret := ret) hy ?_ ?_
  · intro args s m h hn
    obtain ⟨meth, c, h1, h2, h3, h4, h5, h6, -, -⟩ := Cond.code_spec hn (atoms_spec (ws := ws) h _ (by rw [hw]; exact List.mem_cons_self))
    exact ⟨meth, c, h1, h2, h3, h4, h5, h6⟩
  · intro p e s m args below meth c s₁ B hml hv _
    obtain ⟨rfl, hK, hp⟩ := hv
    have hh0 : s₁.heap = s.heap := by rw [B.state]; rfl
    have K := body p e s m as.toArray below meth c B.exec B.bytes B.returns hml (atoms_spec (ws := ws) B.pre) (findClass_of_methodNamed B.named) B.notSynchronized (name_of_methodNamed B.named B.method).1 hK hp _ (lv_entry as hlen)
    rw [← lg_entry_eq] at K
    obtain ⟨t, a1, o, b1, b2, b3⟩ := K s₁ hh0 (Stand.of_body B)
    exact ⟨t, o, a1, b1, b2, ⟨b3.1, b3.2⟩⟩
section PWC
variable {p : Program} {l : Launch} {e : Env} {R : Room} {s : State} {m : MethodId} {args : Array Value} {below : List Frame} {meth : Method} {c : Code} {H : Heap} {locs : List Loc} {cells slots : Nat} {Q : State → Prop}
variable {cc : ByteArray} {pc : Nat} {ls : Array Slot} {rest st : List Value} {D : va_G} {E : Nat → ClassId} {A A1 : Nat → Prop} {H0 : Heap}
variable {y : MethodName} {bytes : ByteArray} {maxL nL mc ms n index ci N b : Nat} {ret : Option FieldType} {ws : List Cond} {rm : Room} {Ts : List Cond} {own C : String} {As : List Value} {fs : List Value} {T : u_T} {Pre : Heap → Prop}
theorem pw_vret {Post : Unit → Heap → Prop} (hx : p.tables.exec = Jvm.exec) (hb : c.code = cc) (hr : meth.sig.returnType = none) (hlocks : meth.locks = false) (hS : va_S A s.heap H locs) (hp : Post () H) (d : decode cc pc = .ok (.return_, 1)) : W p l e R s m args below meth c H locs cells slots (MQ below (pw_Q rvV Post A) args s cells slots A) (F0 m pc ls []) :=
  W.vret hx hb hr (fun t ht _ => ⟨⟨(), rfl, by rw [ht]; exact hp⟩, hS.F ht⟩) hS.2.2 d hlocks
theorem pw_iret {Post : Int → Heap → Prop} {z : Int} (hx : p.tables.exec = Jvm.exec) (hb : c.code = cc) (hr : meth.sig.returnType = some .int) (hlocks : meth.locks = false) (hS : va_S A s.heap H locs) (hp : Post z H) (d : decode cc pc = .ok (.ireturn, 1)) : W p l e R s m args below meth c H locs cells slots (MQ below (pw_Q rvI Post A) args s cells slots A) (F0 m pc ls [.int (iI z)]) :=
  W.iret hx hb hr (fun t ht _ => ⟨⟨z, rfl, by rw [ht]; exact hp⟩, hS.F ht⟩) hS.2.2 d hlocks
theorem pw_bit {z : Int} (hz : z = 0 ∨ z = 1) : narrow .boolean (.int (iI z)) = .int (iI z) := by
  rcases hz with h | h <;> subst h <;> decide +kernel
theorem pw_zret {Post : Int → Heap → Prop} {z : Int} (hx : p.tables.exec = Jvm.exec) (hb : c.code = cc) (hr : meth.sig.returnType = some .boolean) (hlocks : meth.locks = false) (hS : va_S A s.heap H locs) (hz : z = 0 ∨ z = 1) (hp : Post z H) (d : decode cc pc = .ok (.ireturn, 1)) : W p l e R s m args below meth c H locs cells slots (MQ below (pw_Q rvI Post A) args s cells slots A) (F0 m pc ls [.int (iI z)]) :=
  W.zret hx hb hr (pw_bit hz) (fun t ht _ => ⟨⟨z, rfl, by rw [ht]; exact hp⟩, hS.F ht⟩) hS.2.2 d hlocks
theorem pw_lret {Post : Int → Heap → Prop} {z : Int} (hx : p.tables.exec = Jvm.exec) (hb : c.code = cc) (hr : meth.sig.returnType = some .long) (hlocks : meth.locks = false) (hS : va_S A s.heap H locs) (hp : Post z H) (d : decode cc pc = .ok (.lreturn, 1)) : W p l e R s m args below meth c H locs cells slots (MQ below (pw_Q rvL Post A) args s cells slots A) (F0 m pc ls [.long (lI z)]) :=
  W.lret hx hb hr (fun t ht _ => ⟨⟨z, rfl, by rw [ht]; exact hp⟩, hS.F ht⟩) hS.2.2 d hlocks
theorem pw_aret {Post : Nat → Heap → Prop} {a : Nat} {cn : String} (hx : p.tables.exec = Jvm.exec) (hb : c.code = cc) (hr : meth.sig.returnType = some (.object cn)) (hlocks : meth.locks = false) (hS : va_S A s.heap H locs) (hp : Post a H) (d : decode cc pc = .ok (.areturn, 1)) : W p l e R s m args below meth c H locs cells slots (MQ below (pw_Q rvR Post A) args s cells slots A) (F0 m pc ls [.ref a]) :=
  W.aret hx hb hr (Or.inl ⟨_, rfl⟩) (Or.inr ⟨_, rfl⟩) (fun t ht _ => ⟨⟨a, rfl, by rw [ht]; exact hp⟩, hS.F ht⟩) hS.2.2 d hlocks
/-- what is old and not freed stays -/
abbrev pw_same (A1 : Nat → Prop) (H H1 : Heap) : Prop := ∀ q : Nat, q < H.size → ¬ A1 q → H1[q]? = H[q]?
theorem pw_run {ρ : Type} {rv : ρ → Option Value} {Post : ρ → Heap → Prop} {g : JFrame} {a : Array Value} (hr : va_Run p l e R s m args below meth c H locs cells slots mc ms g rest (pw_Q rv Post A1 a) A1) (hS : va_S A H0 H locs) (hA : ∀ q, A1 q → A q)
    (kk : ∀ (z : ρ) (H1 : Heap) (locs1 : List Loc), Post z H1 → H.size ≤ H1.size → pw_same A1 H H1 → va_S A H0 H1 locs1 → W p l e R s m args below meth c H1 locs1 (cells + mc) (slots + ms) Q { g with pc := g.pc + 3, stack := (rv z).toList ++ rest }) : W p l e R s m args below meth c H locs cells slots Q g := by
  intro T hT X
  obtain ⟨v, st₀, t, T', L, h0, X', hL, e1, e2, ⟨⟨z, hv, hp⟩, hz, hk⟩, st⟩ := hr T hT X
  cases hv
  rw [h0] at hz hk
  obtain ⟨t2, a1, b1⟩ := kk z T'.heap (locs ++ L) (by rw [e1]; exact hp) (by rw [e1]; exact hz) (fun q h1 h2 => by rw [e1]; exact hk q h1 h2)
    ⟨Nat.le_trans hS.1 (by rw [e1]; exact hz), fun q h1 h2 => by rw [e1, hk q (Nat.lt_of_lt_of_le h1 hS.1) (fun z => h2 (hA q z))]; exact hS.2.1 q h1 h2, fun q hq => by
      rcases List.mem_append.mp hq with h | h
      · exact hS.2.2 q h
      · exact hA _ (hL q h)⟩ T' rfl X'
  exact ⟨t2, st t2 a1, b1⟩
theorem pw_callVv {Post : Unit → Heap → Prop} (S : CallFix p m c cc nL s args Ts own) (hM : pw_M rvV l D E y ws rm (.ref b :: As) Pre Post A1 mc ms) (cw : CallW R s args own C index y bytes maxL ret ws rm mc ms n) (hK : KK D E s) (hO : OA D b ci fs H) (hc : vwCl[ci]? = some (C, T, N)) (hpre : Pre H) (hn : As.length = n) (hsize : ls.size = nL) (hst : st = As.reverse ++ .ref b :: rest) (hW : (rest.map fun v => v.category).sum ≤ 8) (d : decode cc pc = .ok (.invokevirtual index, 3)) (hf : cells + mc ≤ R.cells ∧ slots + ms ≤ R.slots) (hS : va_S A H0 H locs) (hA : ∀ q, A1 q → A q)
    (kk : ∀ (H1 : Heap) (locs1 : List Loc), Post () H1 → H.size ≤ H1.size → pw_same A1 H H1 → va_S A H0 H1 locs1 → W p l e R s m args below meth c H1 locs1 (cells + mc) (slots + ms) Q (F0 m (pc + 3) ls (rest))) : W p l e R s m args below meth c H locs cells slots Q (F0 m pc ls st) :=
  pw_run (va_runV (g := F0 m pc ls st) S hM cw ⟨pw_blind, va_recv (D := D) (tys := pw_tys E) (q0 := 0) (fs := fs) hK (pw_one hO) hc rfl, fun U hU hWm => ⟨rfl, KK.moved hWm.alike hK, hU ▸ hpre⟩⟩ rfl hn hsize hst (lv_room (m := m) (pc := pc) (ls := ls) (rest := st) hW) d hf) hS hA (fun z H1 locs1 h1 h2 h3 h4 => kk H1 locs1 h1 h2 h3 h4)
theorem pw_callSv {Post : Unit → Heap → Prop} (S : CallFix p m c cc nL s args Ts own) (hM : pw_M rvV l D E y ws rm As Pre Post A1 mc ms) (cw : CallB R s args own index y bytes maxL ret ws rm mc ms n ∧ (Cond.static y).before args s = true) (hK : KK D E s) (hpre : Pre H) (hn : As.length = n) (hsize : ls.size = nL) (hst : st = As.reverse ++ rest) (hW : (rest.map fun v => v.category).sum ≤ 8) (d : decode cc pc = .ok (.invokestatic index, 3)) (hf : cells + mc ≤ R.cells ∧ slots + ms ≤ R.slots) (hS : va_S A H0 H locs) (hA : ∀ q, A1 q → A q)
    (kk : ∀ (H1 : Heap) (locs1 : List Loc), Post () H1 → H.size ≤ H1.size → pw_same A1 H H1 → va_S A H0 H1 locs1 → W p l e R s m args below meth c H1 locs1 (cells + mc) (slots + ms) Q (F0 m (pc + 3) ls (rest))) : W p l e R s m args below meth c H locs cells slots Q (F0 m pc ls st) :=
  pw_run (va_runS (g := F0 m pc ls st) S hM cw ⟨pw_blind, fun U hU hWm => ⟨rfl, KK.moved hWm.alike hK, hU ▸ hpre⟩⟩ rfl hn hsize hst (lv_room (m := m) (pc := pc) (ls := ls) (rest := st) hW) d hf) hS hA (fun z H1 locs1 h1 h2 h3 h4 => kk H1 locs1 h1 h2 h3 h4)
theorem pw_callI {Post : Unit → Heap → Prop} (S : CallFix p m c cc nL s args Ts own) (hM : pw_M rvV l D E y ws rm (.ref b :: As) Pre Post A1 mc ms) (cw : CallB R s args own index y bytes maxL none ws rm mc ms n ∧ y.name = "<init>" ∧ (Cond.instanceMethod y).before args s = true) (hK : KK D E s) (hpre : Pre H) (hn : As.length = n) (hsize : ls.size = nL) (hst : st = As.reverse ++ .ref b :: rest) (hW : (rest.map fun v => v.category).sum ≤ 8) (d : decode cc pc = .ok (.invokespecial index, 3)) (hf : cells + mc ≤ R.cells ∧ slots + ms ≤ R.slots) (hS : va_S A H0 H locs) (hA : ∀ q, A1 q → A q)
    (kk : ∀ (H1 : Heap) (locs1 : List Loc), Post () H1 → H.size ≤ H1.size → pw_same A1 H H1 → va_S A H0 H1 locs1 → W p l e R s m args below meth c H1 locs1 (cells + mc) (slots + ms) Q (F0 m (pc + 3) ls (rest))) : W p l e R s m args below meth c H locs cells slots Q (F0 m pc ls st) :=
  pw_run (va_runI (g := F0 m pc ls st) S hM cw ⟨pw_blind, fun U hU hWm => ⟨rfl, KK.moved hWm.alike hK, hU ▸ hpre⟩⟩ rfl hn hsize hst (lv_room (m := m) (pc := pc) (ls := ls) (rest := st) hW) d hf) hS hA (fun z H1 locs1 h1 h2 h3 h4 => kk H1 locs1 h1 h2 h3 h4)
theorem pw_callVi {Post : Int → Heap → Prop} (S : CallFix p m c cc nL s args Ts own) (hM : pw_M rvI l D E y ws rm (.ref b :: As) Pre Post A1 mc ms) (cw : CallW R s args own C index y bytes maxL ret ws rm mc ms n) (hK : KK D E s) (hO : OA D b ci fs H) (hc : vwCl[ci]? = some (C, T, N)) (hpre : Pre H) (hn : As.length = n) (hsize : ls.size = nL) (hst : st = As.reverse ++ .ref b :: rest) (hW : (rest.map fun v => v.category).sum ≤ 8) (d : decode cc pc = .ok (.invokevirtual index, 3)) (hf : cells + mc ≤ R.cells ∧ slots + ms ≤ R.slots) (hS : va_S A H0 H locs) (hA : ∀ q, A1 q → A q)
    (kk : ∀ (z : Int) (H1 : Heap) (locs1 : List Loc), Post z H1 → H.size ≤ H1.size → pw_same A1 H H1 → va_S A H0 H1 locs1 → W p l e R s m args below meth c H1 locs1 (cells + mc) (slots + ms) Q (F0 m (pc + 3) ls (.int (iI z) :: rest))) : W p l e R s m args below meth c H locs cells slots Q (F0 m pc ls st) :=
  pw_run (va_runV (g := F0 m pc ls st) S hM cw ⟨pw_blind, va_recv (D := D) (tys := pw_tys E) (q0 := 0) (fs := fs) hK (pw_one hO) hc rfl, fun U hU hWm => ⟨rfl, KK.moved hWm.alike hK, hU ▸ hpre⟩⟩ rfl hn hsize hst (lv_room (m := m) (pc := pc) (ls := ls) (rest := st) hW) d hf) hS hA (fun z H1 locs1 h1 h2 h3 h4 => kk z H1 locs1 h1 h2 h3 h4)
theorem pw_callSi {Post : Int → Heap → Prop} (S : CallFix p m c cc nL s args Ts own) (hM : pw_M rvI l D E y ws rm As Pre Post A1 mc ms) (cw : CallB R s args own index y bytes maxL ret ws rm mc ms n ∧ (Cond.static y).before args s = true) (hK : KK D E s) (hpre : Pre H) (hn : As.length = n) (hsize : ls.size = nL) (hst : st = As.reverse ++ rest) (hW : (rest.map fun v => v.category).sum ≤ 8) (d : decode cc pc = .ok (.invokestatic index, 3)) (hf : cells + mc ≤ R.cells ∧ slots + ms ≤ R.slots) (hS : va_S A H0 H locs) (hA : ∀ q, A1 q → A q)
    (kk : ∀ (z : Int) (H1 : Heap) (locs1 : List Loc), Post z H1 → H.size ≤ H1.size → pw_same A1 H H1 → va_S A H0 H1 locs1 → W p l e R s m args below meth c H1 locs1 (cells + mc) (slots + ms) Q (F0 m (pc + 3) ls (.int (iI z) :: rest))) : W p l e R s m args below meth c H locs cells slots Q (F0 m pc ls st) :=
  pw_run (va_runS (g := F0 m pc ls st) S hM cw ⟨pw_blind, fun U hU hWm => ⟨rfl, KK.moved hWm.alike hK, hU ▸ hpre⟩⟩ rfl hn hsize hst (lv_room (m := m) (pc := pc) (ls := ls) (rest := st) hW) d hf) hS hA (fun z H1 locs1 h1 h2 h3 h4 => kk z H1 locs1 h1 h2 h3 h4)
theorem pw_callVl {Post : Int → Heap → Prop} (S : CallFix p m c cc nL s args Ts own) (hM : pw_M rvL l D E y ws rm (.ref b :: As) Pre Post A1 mc ms) (cw : CallW R s args own C index y bytes maxL ret ws rm mc ms n) (hK : KK D E s) (hO : OA D b ci fs H) (hc : vwCl[ci]? = some (C, T, N)) (hpre : Pre H) (hn : As.length = n) (hsize : ls.size = nL) (hst : st = As.reverse ++ .ref b :: rest) (hW : (rest.map fun v => v.category).sum ≤ 8) (d : decode cc pc = .ok (.invokevirtual index, 3)) (hf : cells + mc ≤ R.cells ∧ slots + ms ≤ R.slots) (hS : va_S A H0 H locs) (hA : ∀ q, A1 q → A q)
    (kk : ∀ (z : Int) (H1 : Heap) (locs1 : List Loc), Post z H1 → H.size ≤ H1.size → pw_same A1 H H1 → va_S A H0 H1 locs1 → W p l e R s m args below meth c H1 locs1 (cells + mc) (slots + ms) Q (F0 m (pc + 3) ls (.long (lI z) :: rest))) : W p l e R s m args below meth c H locs cells slots Q (F0 m pc ls st) :=
  pw_run (va_runV (g := F0 m pc ls st) S hM cw ⟨pw_blind, va_recv (D := D) (tys := pw_tys E) (q0 := 0) (fs := fs) hK (pw_one hO) hc rfl, fun U hU hWm => ⟨rfl, KK.moved hWm.alike hK, hU ▸ hpre⟩⟩ rfl hn hsize hst (lv_room (m := m) (pc := pc) (ls := ls) (rest := st) hW) d hf) hS hA (fun z H1 locs1 h1 h2 h3 h4 => kk z H1 locs1 h1 h2 h3 h4)
theorem pw_callSl {Post : Int → Heap → Prop} (S : CallFix p m c cc nL s args Ts own) (hM : pw_M rvL l D E y ws rm As Pre Post A1 mc ms) (cw : CallB R s args own index y bytes maxL ret ws rm mc ms n ∧ (Cond.static y).before args s = true) (hK : KK D E s) (hpre : Pre H) (hn : As.length = n) (hsize : ls.size = nL) (hst : st = As.reverse ++ rest) (hW : (rest.map fun v => v.category).sum ≤ 8) (d : decode cc pc = .ok (.invokestatic index, 3)) (hf : cells + mc ≤ R.cells ∧ slots + ms ≤ R.slots) (hS : va_S A H0 H locs) (hA : ∀ q, A1 q → A q)
    (kk : ∀ (z : Int) (H1 : Heap) (locs1 : List Loc), Post z H1 → H.size ≤ H1.size → pw_same A1 H H1 → va_S A H0 H1 locs1 → W p l e R s m args below meth c H1 locs1 (cells + mc) (slots + ms) Q (F0 m (pc + 3) ls (.long (lI z) :: rest))) : W p l e R s m args below meth c H locs cells slots Q (F0 m pc ls st) :=
  pw_run (va_runS (g := F0 m pc ls st) S hM cw ⟨pw_blind, fun U hU hWm => ⟨rfl, KK.moved hWm.alike hK, hU ▸ hpre⟩⟩ rfl hn hsize hst (lv_room (m := m) (pc := pc) (ls := ls) (rest := st) hW) d hf) hS hA (fun z H1 locs1 h1 h2 h3 h4 => kk z H1 locs1 h1 h2 h3 h4)
theorem pw_callVr {Post : Nat → Heap → Prop} (S : CallFix p m c cc nL s args Ts own) (hM : pw_M rvR l D E y ws rm (.ref b :: As) Pre Post A1 mc ms) (cw : CallW R s args own C index y bytes maxL ret ws rm mc ms n) (hK : KK D E s) (hO : OA D b ci fs H) (hc : vwCl[ci]? = some (C, T, N)) (hpre : Pre H) (hn : As.length = n) (hsize : ls.size = nL) (hst : st = As.reverse ++ .ref b :: rest) (hW : (rest.map fun v => v.category).sum ≤ 8) (d : decode cc pc = .ok (.invokevirtual index, 3)) (hf : cells + mc ≤ R.cells ∧ slots + ms ≤ R.slots) (hS : va_S A H0 H locs) (hA : ∀ q, A1 q → A q)
    (kk : ∀ (z : Nat) (H1 : Heap) (locs1 : List Loc), Post z H1 → H.size ≤ H1.size → pw_same A1 H H1 → va_S A H0 H1 locs1 → W p l e R s m args below meth c H1 locs1 (cells + mc) (slots + ms) Q (F0 m (pc + 3) ls (.ref z :: rest))) : W p l e R s m args below meth c H locs cells slots Q (F0 m pc ls st) :=
  pw_run (va_runV (g := F0 m pc ls st) S hM cw ⟨pw_blind, va_recv (D := D) (tys := pw_tys E) (q0 := 0) (fs := fs) hK (pw_one hO) hc rfl, fun U hU hWm => ⟨rfl, KK.moved hWm.alike hK, hU ▸ hpre⟩⟩ rfl hn hsize hst (lv_room (m := m) (pc := pc) (ls := ls) (rest := st) hW) d hf) hS hA (fun z H1 locs1 h1 h2 h3 h4 => kk z H1 locs1 h1 h2 h3 h4)
theorem pw_callSr {Post : Nat → Heap → Prop} (S : CallFix p m c cc nL s args Ts own) (hM : pw_M rvR l D E y ws rm As Pre Post A1 mc ms) (cw : CallB R s args own index y bytes maxL ret ws rm mc ms n ∧ (Cond.static y).before args s = true) (hK : KK D E s) (hpre : Pre H) (hn : As.length = n) (hsize : ls.size = nL) (hst : st = As.reverse ++ rest) (hW : (rest.map fun v => v.category).sum ≤ 8) (d : decode cc pc = .ok (.invokestatic index, 3)) (hf : cells + mc ≤ R.cells ∧ slots + ms ≤ R.slots) (hS : va_S A H0 H locs) (hA : ∀ q, A1 q → A q)
    (kk : ∀ (z : Nat) (H1 : Heap) (locs1 : List Loc), Post z H1 → H.size ≤ H1.size → pw_same A1 H H1 → va_S A H0 H1 locs1 → W p l e R s m args below meth c H1 locs1 (cells + mc) (slots + ms) Q (F0 m (pc + 3) ls (.ref z :: rest))) : W p l e R s m args below meth c H locs cells slots Q (F0 m pc ls st) :=
  pw_run (va_runS (g := F0 m pc ls st) S hM cw ⟨pw_blind, fun U hU hWm => ⟨rfl, KK.moved hWm.alike hK, hU ▸ hpre⟩⟩ rfl hn hsize hst (lv_room (m := m) (pc := pc) (ls := ls) (rest := st) hW) d hf) hS hA (fun z H1 locs1 h1 h2 h3 h4 => kk z H1 locs1 h1 h2 h3 h4)
theorem pw_new (hx : p.tables.exec = Jvm.exec) (hb : c.code = cc) (hts : ∀ w ∈ Ts, w.before args s = true) (hin : ∀ w ∈ u_ws C T N, w ∈ Ts) (ty : Nat → FieldType) (hty : ∀ k, k < N → parseFieldDescriptor (T k).2.2.1 = some (ty k)) (hown : s.vm.findClass own = some m.cls) (hcl : (Cond.classLink own index C).before args s = true) (hinst : (Cond.instantiable C N).before args s = true) (hini : (Cond.initialized C).before args s = true)
    (hK : KK D E s) (hS : va_S A H0 H locs) (hc : vwCl[ci]? = some (C, T, N)) (fs : List Value) (hfs : ∀ j, j < N → defaultValue (ty j) = vp_V fs j) (hcells : cells + 1 ≤ R.cells) (hslots : slots + N ≤ R.slots) (d : decode cc pc = .ok (.new index, 3))
    (kk : ∀ (H1 : Heap), OA D H.size ci fs H1 → H1.size = H.size + 1 → (∀ q : Nat, q < H.size → H1[q]? = H[q]?) → va_S A H0 H1 locs → W p l e R s m args below meth c H1 locs (cells + 1) (slots + N) Q (F0 m (pc + 3) ls (.ref H.size :: rest))) : W p l e R s m args below meth c H locs cells slots Q (F0 m pc ls rest) := by
  have hK0 : va_K D vwCl (pw_tys E) s := hK
  have hKn := hK0.1 ci _ hc
  refine W.newcK hx hb hown hcl hinst hini rfl d hcells hslots hKn.2.1 rfl fun H1 kC hkC e1 z1 o1 => ?_
  exact kk H1 ⟨_, hc, (u_born ty hts hin hKn hkC e1 hty).to hfs⟩ z1 o1 ⟨Nat.le_trans hS.1 (by omega), fun x h1 h2 => (o1 x (Nat.lt_of_lt_of_le h1 hS.1)).trans (hS.2.1 x h1 h2), hS.2.2⟩
theorem pw_newl (hx : p.tables.exec = Jvm.exec) (hb : c.code = cc) (harr : (Cond.arrayClass .long).before args s = true) (hK : KK D E s) (hS : va_S A H0 H locs) {z : Int} (j : Nat) (hz : z = (j : Int)) (hj : j < 65536) (hcells : cells + 1 ≤ R.cells) (hslots : slots + j ≤ R.slots) (d : decode cc pc = .ok (.newarray .long, 2))
    (kk : ∀ (H1 : Heap), LA E H.size j (fun _ => 0) H1 → H1.size = H.size + 1 → (∀ q : Nat, q < H.size → H1[q]? = H[q]?) → va_S A H0 H1 locs → W p l e R s m args below meth c H1 locs (cells + 1) (slots + j) Q (F0 m (pc + 2) ls (.ref H.size :: rest))) : W p l e R s m args below meth c H locs cells slots Q (F0 m pc ls (.int (iI z) :: rest)) := by
  have hK0 : va_K D vwCl (pw_tys E) s := hK
  subst hz
  have hnn : ¬ iI (j : Int) < 0 := by rw [← iI_nI]; exact nI_pos (by omega)
  refine va_newaK hx hb (atype := .long) harr rfl d rfl hnn (N := j) (by rw [← iI_nI]; exact nI_clamp (by omega)) (by show j * 8 ≤ _; omega) hcells hslots rfl fun H1 cA e1 z1 o1 _ hNm => ?_
  have hcA : cA = E 1 := Option.some.inj (hNm.symm.trans (hK0.2 1 _ rfl).2)
  subst hcA
  exact kk H1 e1 z1 o1 ⟨Nat.le_trans hS.1 (by omega), fun x h1 h2 => (o1 x (Nat.lt_of_lt_of_le h1 hS.1)).trans (hS.2.1 x h1 h2), hS.2.2⟩
theorem pw_newi (hx : p.tables.exec = Jvm.exec) (hb : c.code = cc) (harr : (Cond.arrayClass .int).before args s = true) (hK : KK D E s) (hS : va_S A H0 H locs) {z : Int} (j : Nat) (hz : z = (j : Int)) (hj : j < 65536) (hcells : cells + 1 ≤ R.cells) (hslots : slots + j ≤ R.slots) (d : decode cc pc = .ok (.newarray .int, 2))
    (kk : ∀ (H1 : Heap), IA E H.size j (fun _ => 0) H1 → H1.size = H.size + 1 → (∀ q : Nat, q < H.size → H1[q]? = H[q]?) → va_S A H0 H1 locs → W p l e R s m args below meth c H1 locs (cells + 1) (slots + j) Q (F0 m (pc + 2) ls (.ref H.size :: rest))) : W p l e R s m args below meth c H locs cells slots Q (F0 m pc ls (.int (iI z) :: rest)) := by
  have hK0 : va_K D vwCl (pw_tys E) s := hK
  subst hz
  have hnn : ¬ iI (j : Int) < 0 := by rw [← iI_nI]; exact nI_pos (by omega)
  refine va_newaK hx hb (atype := .int) harr rfl d rfl hnn (N := j) (by rw [← iI_nI]; exact nI_clamp (by omega)) (by show j * 4 ≤ _; omega) hcells hslots rfl fun H1 cA e1 z1 o1 _ hNm => ?_
  have hcA : cA = E 0 := Option.some.inj (hNm.symm.trans (hK0.2 0 _ rfl).2)
  subst hcA
  exact kk H1 e1 z1 o1 ⟨Nat.le_trans hS.1 (by omega), fun x h1 h2 => (o1 x (Nat.lt_of_lt_of_le h1 hS.1)).trans (hS.2.1 x h1 h2), hS.2.2⟩
theorem pw_qald (hx : p.tables.exec = Jvm.exec) (hb : c.code = cc) (hK : KK D E s) {a k0 : Nat} {f : Nat → Option Nat} (hA : QA E k0 a n f H) (ht : (pw_tys E)[k0]? = some (E k0, .object C)) {i : Int} (j : Nat) (hi : i = (j : Int)) (hj : j < n) (hn : n < 2147483648) {b : Nat} (hv : f j = some b) (d : decode cc pc = .ok (.aaload, 1)) (k : W p l e R s m args below meth c H locs cells slots Q (F0 m (pc + 1) ls (.ref b :: rest))) : W p l e R s m args below meth c H locs cells slots Q (F0 m pc ls (.int (iI i) :: .ref a :: rest)) := by
  obtain ⟨h1, h2⟩ := iI_in hi hj hn
  refine va_aldq (D := D) (cl := vwCl) (ws := [(a, .inl (E k0, n, .inr (.inr (.inr (.inr f)))))]) hx hb hK (pw_one (D := D) hA) 0 k0 rfl ht h1 d ?_
  rw [h2, hv]
  exact k
end PWC
end
section
/-! the JDK's own methods that the class calls, and rows for them -/
section PX
variable {p : Program} {l : Launch} {e : Env} {R : Room} {s : State} {m : MethodId} {args : Array Value} {below : List Frame} {meth : Method} {c : Code} {H : Heap} {locs : List Loc} {cells slots : Nat} {Q : State → Prop}
variable {cc : ByteArray} {pc : Nat} {ls : Array Slot} {rest : List Value} {D : va_G} {E : Nat → ClassId} {A : Nat → Prop} {H0 : Heap}
theorem pw_topi {x : Int} (k : ∀ y : Int, y = x → W p l e R s m args below meth c H locs cells slots Q (F0 m pc ls (.int (iI y) :: rest))) : W p l e R s m args below meth c H locs cells slots Q (F0 m pc ls (.int (iI x) :: rest)) := k x rfl
theorem pw_topl {x : Int} (k : ∀ y : Int, y = x → W p l e R s m args below meth c H locs cells slots Q (F0 m pc ls (.long (lI y) :: rest))) : W p l e R s m args below meth c H locs cells slots Q (F0 m pc ls (.long (lI x) :: rest)) := k x rfl
theorem pw_asi {x : Int} (y : Int) (h : x = y) (k : W p l e R s m args below meth c H locs cells slots Q (F0 m pc ls (.int (iI y) :: rest))) : W p l e R s m args below meth c H locs cells slots Q (F0 m pc ls (.int (iI x) :: rest)) := by rw [h]; exact k
theorem pw_asl {x : Int} (y : Int) (h : x = y) (k : W p l e R s m args below meth c H locs cells slots Q (F0 m pc ls (.long (lI y) :: rest))) : W p l e R s m args below meth c H locs cells slots Q (F0 m pc ls (.long (lI x) :: rest)) := by rw [h]; exact k
theorem pw_ldcw (hx : p.tables.exec = Jvm.exec) (hb : c.code = cc) {own : String} {index : Nat} {v : Int32} {z : Int} (hown : s.vm.findClass own = some m.cls) (hc : (Jvm.Cond.constant own index v).before args s = true) (hv : v = iI z) (d : decode cc pc = .ok (.ldc_w index, 3)) (k : W p l e R s m args below meth c H locs cells slots Q (F0 m (pc + 3) ls (.int (iI z) :: rest))) : W p l e R s m args below meth c H locs cells slots Q (F0 m pc ls rest) := lv_ldcw hx hb hown hc d (hv ▸ k)
theorem ud_le {g : Nat → Int} {v : Int} {i : Nat} (hg : ∀ j, j < i → g j = v) : ∀ j, j < i + 1 → ud g i v j = v := fun j hj => by
  by_cases e : j = i
  · rw [e, ud_s]
  · rw [ud_n _ _ e]; exact hg j (by omega)
def xorZ (x y : Int) : Int := (lI x ^^^ lI y).toInt
theorem pw_lxor (hx : p.tables.exec = Jvm.exec) (hb : c.code = cc) {x y : Int} (d : decode cc pc = .ok (.lxor, 1)) (k : W p l e R s m args below meth c H locs cells slots Q (F0 m (pc + 1) ls (.long (lI (xorZ x y)) :: rest))) : W p l e R s m args below meth c H locs cells slots Q (F0 m pc ls (.long (lI y) :: .long (lI x) :: rest)) := lv_lxor hx hb d (by rw [lI_of (lI x ^^^ lI y)]; exact k)
theorem xorZ_lt {x y : Int} (x1 : -9223372036854775808 ≤ x) (x2 : x ≤ 9223372036854775807) (y1 : 0 ≤ y) (y2 : y ≤ 9223372036854775807) : xorZ x y < 0 ↔ x < 0 := by
  have hx := lI_t x1 x2
  have hy := lI_t (z := y) (by omega) y2
  have key : ∀ b : Int64, (b.toInt < 0) ↔ b.toBitVec.msb = true := fun b => by
    rw [BitVec.msb_eq_toInt]
    show _ ↔ decide (b.toInt < 0) = true
    simp
  unfold xorZ
  rw [key, Int64.toBitVec_xor, BitVec.msb_xor]
  have a1 := key (lI x)
  have a2 := key (lI y)
  rw [hx] at a1
  rw [hy] at a2
  have a3 : (lI y).toBitVec.msb = false := by
    cases h : (lI y).toBitVec.msb with
    | false => rfl
    | true => exact absurd (a2.mpr h) (by omega)
  rw [a3, Bool.xor_false]
  exact a1.symm
theorem pw_mmax (hx : p.tables.exec = Jvm.exec) (hb : c.code = cc) (hml : c.maxLocals = ls.size) {own : String} {index : Nat} (hown : s.vm.findClass own = some m.cls) {Ts : List Cond} (hts : ∀ w ∈ Ts, w.before args s = true) (hin : ∀ w ∈ ([.methodLink own index Lib.Math.max.name, .static Lib.Math.max.name, .initialized "java/lang/Math", .code Lib.Math.max.name Lib.Math.max.code 2 (some .int)] : List Cond), w ∈ Ts)
    (hframes : 1 ≤ R.frames) (hlocals : (rest.map fun v => v.category).sum + 13 ≤ R.locals) (hc : cells ≤ R.cells) (hs : slots ≤ R.slots) {x y : Int} (d : decode cc pc = .ok (.invokestatic index, 3))
    (kk : W p l e R s m args below meth c H locs cells slots Q (F0 m (pc + 3) ls (.int (iI (max x y)) :: rest))) (x1 : -2147483648 ≤ x := by omega) (x2 : x ≤ 2147483647 := by omega) (y1 : -2147483648 ≤ y := by omega) (y2 : y ≤ 2147483647 := by omega) : W p l e R s m args below meth c H locs cells slots Q (F0 m pc ls (.int (iI y) :: .int (iI x) :: rest)) := by
  refine va_mmax hx hb hml hown (hts _ (hin _ (by simp))) (hts _ (hin _ (by simp))) (hts _ (hin _ (by simp))) (hts _ (hin _ (by simp))) hframes hlocals hc hs d ?_
  have e1 : (if iI x < iI y then iI y else iI x) = iI (max x y) := by
    by_cases h : x < y
    · rw [if_pos ((iI_lt x1 x2 y1 y2).mpr h)]; congr 1; omega
    · rw [if_neg (fun q => h ((iI_lt x1 x2 y1 y2).mp q))]; congr 1; omega
  rw [e1]
  exact kk
theorem pw_mmin (hx : p.tables.exec = Jvm.exec) (hb : c.code = cc) (hml : c.maxLocals = ls.size) {own : String} {index : Nat} (hown : s.vm.findClass own = some m.cls) {Ts : List Cond} (hts : ∀ w ∈ Ts, w.before args s = true) (hin : ∀ w ∈ ([.methodLink own index Lib.Math.min.name, .static Lib.Math.min.name, .initialized "java/lang/Math", .code Lib.Math.min.name Lib.Math.min.code 2 (some .int)] : List Cond), w ∈ Ts)
    (hframes : 1 ≤ R.frames) (hlocals : (rest.map fun v => v.category).sum + 13 ≤ R.locals) (hc : cells ≤ R.cells) (hs : slots ≤ R.slots) {x y : Int} (d : decode cc pc = .ok (.invokestatic index, 3))
    (kk : W p l e R s m args below meth c H locs cells slots Q (F0 m (pc + 3) ls (.int (iI (min x y)) :: rest))) (x1 : -2147483648 ≤ x := by omega) (x2 : x ≤ 2147483647 := by omega) (y1 : -2147483648 ≤ y := by omega) (y2 : y ≤ 2147483647 := by omega) : W p l e R s m args below meth c H locs cells slots Q (F0 m pc ls (.int (iI y) :: .int (iI x) :: rest)) := by
  refine va_mmin hx hb hml hown (hts _ (hin _ (by simp))) (hts _ (hin _ (by simp))) (hts _ (hin _ (by simp))) (hts _ (hin _ (by simp))) hframes hlocals hc hs d ?_
  have e1 : (if iI x < iI y then iI x else iI y) = iI (min x y) := by
    by_cases h : x < y
    · rw [if_pos ((iI_lt x1 x2 y1 y2).mpr h)]; congr 1; omega
    · rw [if_neg (fun q => h ((iI_lt x1 x2 y1 y2).mp q))]; congr 1; omega
  first | (rw [e1]; exact kk) | (have e2 : (if iI y < iI x then iI y else iI x) = iI (min x y) := by
                                  by_cases h : y < x
                                  · rw [if_pos ((iI_lt y1 y2 x1 x2).mpr h)]; congr 1; omega
                                  · rw [if_neg (fun q => h ((iI_lt y1 y2 x1 x2).mp q))]; congr 1; omega
                                 rw [e2]; exact kk)
end PX
set_option maxHeartbeats 4000000 in
set_option maxRecDepth 100000 in
/-- floorDiv by a divisor above 0 -/
theorem c_floorDiv (l : Launch) (D : va_G) (E : Nat → ClassId) (x y : Int) (x1 : -9223372036854775808 < x) (x2 : x ≤ 9223372036854775807) (y1 : 0 < y) (y2 : y ≤ 9223372036854775807) : pw_M rvL l D E yJ9_floorDiv_f86c9 wsJ9_floorDiv_f86c9 ({ frames := 0, cells := 0, slots := 0, locals := 0 } : Room) [.long (lI (x)), .long (lI (y))] (fun H => True) (fun z H => z = x / y ∧ True) (fun _ => False) (0) (0) := by
  refine pw_of (cc := cJ9_floorDiv_f86c9) (maxL := 6) (ret := (some .long)) (by decide +kernel) rfl (Nat.le_of_ble_eq_true rfl) ?_
  intro p e s m args below meth c hx hb hr hml hts hown hlocks hini hK hPre ls hl
  have hown : s.vm.findClass RJ9 = some m.cls := hown
  have hl : lv_has ls 6 [(0, .long (lI (x))), (2, .long (lI (y)))] := hl
  have hS : va_S (fun _ => False) s.heap s.heap [] := va_S.rf
  have hq : (x.tdiv y) = x / y + (if 0 ≤ x ∨ y ∣ x then 0 else 1) := by rw [Int.tdiv_eq_ediv, Int.sign_eq_one_of_pos y1]
  have hb1 := Int.ediv_mul_le x (by omega : y ≠ 0)
  have hbq : -9223372036854775808 ≤ x.tdiv y ∧ x.tdiv y ≤ 9223372036854775807 := by
    have := Int.natAbs_tdiv_le_natAbs x y
    omega
  have hsg := xorZ_lt (x := x) (y := y) (by omega) x2 (by omega) y2
  have hxr := lI_b (lI x ^^^ lI y)
  have hxr : -9223372036854775808 ≤ xorZ x y ∧ xorZ x y ≤ 9223372036854775807 := hxr
  have hmul : -9223372036854775808 ≤ x.tdiv y * y ∧ x.tdiv y * y ≤ 9223372036854775807 := by
    have h1 := Int.tmod_add_mul_tdiv x y
    have h2 : (x.tmod y).natAbs ≤ x.natAbs := by rw [Int.natAbs_tmod]; exact Nat.mod_le _ _
    rw [Int.mul_comm] at h1
    by_cases hx0 : 0 ≤ x
    · have := Int.tmod_nonneg y hx0
      omega
    · have h3 : 0 ≤ (-x).tmod y := Int.tmod_nonneg y (by omega)
      rw [Int.neg_tmod] at h3
      omega
  refine lv_lload_n hx hb dJ9_floorDiv_f86c9_0 rfl (lv_at hl 0 rfl) ?_
  refine lv_lload_n hx hb dJ9_floorDiv_f86c9_1 rfl (lv_at hl 1 rfl) ?_
  refine pw_ldiv hx hb dJ9_floorDiv_f86c9_2 (by omega) ?_
  refine lv_lstore (lv' := [(4, .long (lI ((x).tdiv (y)))), (0, .long (lI (x))), (2, .long (lI (y)))]) hx hb dJ9_floorDiv_f86c9_3 hl (by decide) rfl (fun ls hl => ?_)
  refine lv_lload_n hx hb dJ9_floorDiv_f86c9_5 rfl (lv_at hl 1 rfl) ?_
  refine lv_lload_n hx hb dJ9_floorDiv_f86c9_6 rfl (lv_at hl 2 rfl) ?_
  refine pw_lxor hx hb dJ9_floorDiv_f86c9_7 ?_
  refine pw_lconst (z := 0) hx hb dJ9_floorDiv_f86c9_8 ?_
  refine pw_lcmp_ge (tgt := 27) hx hb dJ9_floorDiv_f86c9_9 dJ9_floorDiv_f86c9_10 (by decide) (fun c_9 => ?_) (fun c_9 => ?_)
  · refine lv_lload hx hb dJ9_floorDiv_f86c9_27 (lv_at hl 0 rfl) ?_
    exact pw_lret hx hb hr hlocks hS ⟨by rw [hq, if_pos (Or.inl (by omega))]; omega, trivial⟩ dJ9_floorDiv_f86c9_29
  · refine lv_lload hx hb dJ9_floorDiv_f86c9_13 (lv_at hl 0 rfl) ?_
    refine lv_lload_n hx hb dJ9_floorDiv_f86c9_15 rfl (lv_at hl 2 rfl) ?_
    refine pw_lmul hx hb dJ9_floorDiv_f86c9_16 ?_
    refine lv_lload_n hx hb dJ9_floorDiv_f86c9_17 rfl (lv_at hl 1 rfl) ?_
    refine pw_lcmp_eq (tgt := 27) hx hb dJ9_floorDiv_f86c9_18 dJ9_floorDiv_f86c9_19 (by decide) (fun c_18 => ?_) (fun c_18 => ?_)
    · refine lv_lload hx hb dJ9_floorDiv_f86c9_27 (lv_at hl 0 rfl) ?_
      exact pw_lret hx hb hr hlocks hS ⟨by rw [hq, if_pos (Or.inr ⟨x.tdiv y, by rw [Int.mul_comm]; exact c_18.symm⟩)]; omega, trivial⟩ dJ9_floorDiv_f86c9_29
    · refine lv_lload hx hb dJ9_floorDiv_f86c9_22 (lv_at hl 0 rfl) ?_
      refine pw_lconst (z := 1) hx hb dJ9_floorDiv_f86c9_24 ?_
      refine pw_lsub hx hb dJ9_floorDiv_f86c9_25 ?_
      exact pw_lret hx hb hr hlocks hS ⟨by rw [hq, if_neg (fun hh => hh.elim (fun h => by omega) (fun h => c_18 (Int.tdiv_mul_cancel h)))]; omega, trivial⟩ dJ9_floorDiv_f86c9_26
set_option maxHeartbeats 4000000 in
set_option maxRecDepth 100000 in
/-- fill: all places hold v -/
theorem c_fillL (l : Launch) (D : va_G) (E : Nat → ClassId) (a n : Nat) (f : Nat → Int) (v : Int) (hn : n < 1000000) : pw_M rvV l D E yJ7_fill_d0a16 wsJ7_fill_d0a16 ({ frames := 0, cells := 0, slots := 0, locals := 0 } : Room) [.ref (a), .long (lI (v))] (fun H => LA E a n f H) (fun _ H => LA E a n (fun _ => v) H) (fun q => q = a) (0) (0) := by
  refine pw_of (cc := cJ7_fill_d0a16) (maxL := 5) (ret := none) (by decide +kernel) rfl (Nat.le_of_ble_eq_true rfl) ?_
  intro p e s m args below meth c hx hb hr hml hts hown hlocks hini hK hPre ls hl
  have hown : s.vm.findClass RJ7 = some m.cls := hown
  have hl : lv_has ls 5 [(0, .ref (a)), (1, .long (lI (v)))] := hl
  have hS : va_S (fun q => q = a) s.heap s.heap [] := va_S.rf
  have loop : ∀ (k i : Nat) (g : Nat → Int) (H : Heap) (locs : List Loc) (ls : Array Slot), i + k = n → (∀ j, j < i → g j = v) → LA E a n g H → va_S (fun q => q = a) s.heap H locs → lv_has ls 5 [(0, .ref (a)), (1, .long (lI (v))), (3, .int (iI ((i : Int)))), (4, .int (iI ((n : Int))))] → W p l e ({ frames := 0, cells := 0, slots := 0, locals := 0 } : Room) s m args below meth c H locs (0) (0) (MQ below (pw_Q rvV (fun _ H => LA E a n (fun _ => v) H) (fun q => q = a)) args s (0) (0) (fun q => q = a)) (F0 m 6 ls []) := by
    intro k
    induction k with
    | zero =>
      intro i g H locs ls hi hg hA hS hl
      refine lv_iload_n hx hb dJ7_fill_d0a16_6 rfl (lv_at hl 2 rfl) ?_
      refine lv_iload hx hb dJ7_fill_d0a16_7 (lv_at hl 3 rfl) ?_
      refine pw_icmp_ge (tgt := 22) hx hb dJ7_fill_d0a16_9 (by decide) (fun c_9 => ?_) (fun c_9 => absurd c_9 (by omega))
      exact pw_vret hx hb hr hlocks hS (hA.up (fun j hj => hg j (by omega))) dJ7_fill_d0a16_22
    | succ k ih =>
      intro i g H locs ls hi hg hA hS hl
      refine lv_iload_n hx hb dJ7_fill_d0a16_6 rfl (lv_at hl 2 rfl) ?_
      refine lv_iload hx hb dJ7_fill_d0a16_7 (lv_at hl 3 rfl) ?_
      refine pw_icmp_ge (tgt := 22) hx hb dJ7_fill_d0a16_9 (by decide) (fun c_9 => absurd c_9 (by omega)) (fun c_9 => ?_)
      refine lv_aload_n hx hb dJ7_fill_d0a16_12 rfl (lv_at hl 0 rfl) ?_
      refine lv_iload_n hx hb dJ7_fill_d0a16_13 rfl (lv_at hl 2 rfl) ?_
      refine lv_lload_n hx hb dJ7_fill_d0a16_14 rfl (lv_at hl 1 rfl) ?_
      refine pw_last hx hb hK hA hS (by omega) (i) rfl (by omega) (by omega) dJ7_fill_d0a16_15 (fun H1 locs1 hnew hz1 oq hS => ?_)
      have hA := hnew
      clear hnew oq hz1
      refine lv_iinc (v := iI (((i + 1 : Nat) : Int))) (lv' := [(3, .int (iI (((i + 1 : Nat) : Int)))), (0, .ref (a)), (1, .long (lI (v))), (4, .int (iI ((n : Int))))]) hx hb dJ7_fill_d0a16_16 hl (k := 2) rfl (by show iI _ + iI _ = _; rw [iI_add]; first | rfl | (congr 1; omega)) (by decide) rfl (fun ls hl => ?_)
      refine lv_goto (tgt := 6) hx hb dJ7_fill_d0a16_19 (by decide) ?_
      exact ih (i + 1) _ _ _ _ (by omega) (ud_le hg) hA hS (lv_sub hl [1, 2, 0, 3] rfl)
  have hA := hPre
  refine pw_iconst hx hb dJ7_fill_d0a16_0 ?_
  refine lv_istore_n (lv' := [(3, .int (iI (0))), (0, .ref (a)), (1, .long (lI (v)))]) hx hb dJ7_fill_d0a16_1 rfl hl (by decide) rfl (fun ls hl => ?_)
  refine lv_aload_n hx hb dJ7_fill_d0a16_2 rfl (lv_at hl 1 rfl) ?_
  refine pw_alen (n := n) (k0 := 1) hx hb hK hA rfl rfl dJ7_fill_d0a16_3 ?_
  refine lv_istore (lv' := [(4, .int (iI ((n : Int)))), (3, .int (iI (0))), (0, .ref (a)), (1, .long (lI (v)))]) hx hb dJ7_fill_d0a16_4 hl (by decide) rfl (fun ls hl => ?_)
  exact loop n 0 f _ _ _ (by omega) (fun j hj => absurd hj (Nat.not_lt_zero j)) hA hS (lv_sub hl [2, 3, 1, 0] rfl)
set_option maxHeartbeats 4000000 in
set_option maxRecDepth 100000 in
/-- fill: all places hold v -/
theorem c_fillI (l : Launch) (D : va_G) (E : Nat → ClassId) (a n : Nat) (f : Nat → Int) (v : Int) (hn : n < 1000000) : pw_M rvV l D E yJ7_fill_53178 wsJ7_fill_53178 ({ frames := 0, cells := 0, slots := 0, locals := 0 } : Room) [.ref (a), .int (iI (v))] (fun H => IA E a n f H) (fun _ H => IA E a n (fun _ => v) H) (fun q => q = a) (0) (0) := by
  refine pw_of (cc := cJ7_fill_53178) (maxL := 4) (ret := none) (by decide +kernel) rfl (Nat.le_of_ble_eq_true rfl) ?_
  intro p e s m args below meth c hx hb hr hml hts hown hlocks hini hK hPre ls hl
  have hown : s.vm.findClass RJ7 = some m.cls := hown
  have hl : lv_has ls 4 [(0, .ref (a)), (1, .int (iI (v)))] := hl
  have hS : va_S (fun q => q = a) s.heap s.heap [] := va_S.rf
  have loop : ∀ (k i : Nat) (g : Nat → Int) (H : Heap) (locs : List Loc) (ls : Array Slot), i + k = n → (∀ j, j < i → g j = v) → IA E a n g H → va_S (fun q => q = a) s.heap H locs → lv_has ls 4 [(0, .ref (a)), (1, .int (iI (v))), (2, .int (iI ((i : Int)))), (3, .int (iI ((n : Int))))] → W p l e ({ frames := 0, cells := 0, slots := 0, locals := 0 } : Room) s m args below meth c H locs (0) (0) (MQ below (pw_Q rvV (fun _ H => IA E a n (fun _ => v) H) (fun q => q = a)) args s (0) (0) (fun q => q = a)) (F0 m 5 ls []) := by
    intro k
    induction k with
    | zero =>
      intro i g H locs ls hi hg hA hS hl
      refine lv_iload_n hx hb dJ7_fill_53178_5 rfl (lv_at hl 2 rfl) ?_
      refine lv_iload_n hx hb dJ7_fill_53178_6 rfl (lv_at hl 3 rfl) ?_
      refine pw_icmp_ge (tgt := 20) hx hb dJ7_fill_53178_7 (by decide) (fun c_7 => ?_) (fun c_7 => absurd c_7 (by omega))
      exact pw_vret hx hb hr hlocks hS (hA.up (fun j hj => hg j (by omega))) dJ7_fill_53178_20
    | succ k ih =>
      intro i g H locs ls hi hg hA hS hl
      refine lv_iload_n hx hb dJ7_fill_53178_5 rfl (lv_at hl 2 rfl) ?_
      refine lv_iload_n hx hb dJ7_fill_53178_6 rfl (lv_at hl 3 rfl) ?_
      refine pw_icmp_ge (tgt := 20) hx hb dJ7_fill_53178_7 (by decide) (fun c_7 => absurd c_7 (by omega)) (fun c_7 => ?_)
      refine lv_aload_n hx hb dJ7_fill_53178_10 rfl (lv_at hl 0 rfl) ?_
      refine lv_iload_n hx hb dJ7_fill_53178_11 rfl (lv_at hl 2 rfl) ?_
      refine lv_iload_n hx hb dJ7_fill_53178_12 rfl (lv_at hl 1 rfl) ?_
      refine pw_iast hx hb hK hA hS (by omega) (i) rfl (by omega) (by omega) dJ7_fill_53178_13 (fun H1 locs1 hnew hz1 oq hS => ?_)
      have hA := hnew
      clear hnew oq hz1
      refine lv_iinc (v := iI (((i + 1 : Nat) : Int))) (lv' := [(2, .int (iI (((i + 1 : Nat) : Int)))), (0, .ref (a)), (1, .int (iI (v))), (3, .int (iI ((n : Int))))]) hx hb dJ7_fill_53178_14 hl (k := 2) rfl (by show iI _ + iI _ = _; rw [iI_add]; first | rfl | (congr 1; omega)) (by decide) rfl (fun ls hl => ?_)
      refine lv_goto (tgt := 5) hx hb dJ7_fill_53178_17 (by decide) ?_
      exact ih (i + 1) _ _ _ _ (by omega) (ud_le hg) hA hS (lv_sub hl [1, 2, 0, 3] rfl)
  have hA := hPre
  refine pw_iconst hx hb dJ7_fill_53178_0 ?_
  refine lv_istore_n (lv' := [(2, .int (iI (0))), (0, .ref (a)), (1, .int (iI (v)))]) hx hb dJ7_fill_53178_1 rfl hl (by decide) rfl (fun ls hl => ?_)
  refine lv_aload_n hx hb dJ7_fill_53178_2 rfl (lv_at hl 1 rfl) ?_
  refine pw_alen (n := n) (k0 := 0) hx hb hK hA rfl rfl dJ7_fill_53178_3 ?_
  refine lv_istore_n (lv' := [(3, .int (iI ((n : Int)))), (2, .int (iI (0))), (0, .ref (a)), (1, .int (iI (v)))]) hx hb dJ7_fill_53178_4 rfl hl (by decide) rfl (fun ls hl => ?_)
  exact loop n 0 f _ _ _ (by omega) (fun j hj => absurd hj (Nat.not_lt_zero j)) hA hS (lv_sub hl [2, 3, 1, 0] rfl)
end
section
/-! the class's whole numbers: limbs of six digits -/
def nv (d : Nat → Nat) : Nat → Nat
  | 0 => 0
  | n + 1 => nv d n + d n * 1000000 ^ n
def wv (f : Nat → Int) : Nat → Int
  | 0 => 0
  | n + 1 => wv f n + f n * 1000000 ^ n
def nd (x : Nat) (j : Nat) : Nat := x / 1000000 ^ j % 1000000
def wdig (v : Int) (j : Nat) : Int := if v < 0 then - (nd v.natAbs j : Int) else (nd v.natAbs j : Int)
theorem bp_pos (n : Nat) : 0 < 1000000 ^ n := Nat.pow_pos (by omega)
theorem bp_posI (n : Nat) : (0 : Int) < 1000000 ^ n := Int.pow_pos (by omega)
theorem bp_s (n : Nat) : 1000000 ^ (n + 1) = 1000000 * 1000000 ^ n := by rw [Nat.pow_succ, Nat.mul_comm]
theorem bp_sI (n : Nat) : (1000000 : Int) ^ (n + 1) = 1000000 * 1000000 ^ n := by rw [Int.pow_succ, Int.mul_comm]
theorem bp_cast (n : Nat) : ((1000000 ^ n : Nat) : Int) = 1000000 ^ n := by rw [Int.natCast_pow]; rfl
theorem bp_mono {a b : Nat} (h : a ≤ b) : 1000000 ^ a ≤ 1000000 ^ b := Nat.pow_le_pow_right (by omega) h
theorem nd_lt (x j : Nat) : nd x j < 1000000 := Nat.mod_lt _ (by omega)
theorem wdig_b (v : Int) (j : Nat) : -1000000 < wdig v j ∧ wdig v j < 1000000 := by
  have := nd_lt v.natAbs j
  unfold wdig
  split <;> omega
theorem wv_congr {f g : Nat → Int} : ∀ {n : Nat}, (∀ j, j < n → f j = g j) → wv f n = wv g n
  | 0, _ => rfl
  | n + 1, h => by
    show wv f n + f n * _ = wv g n + g n * _
    rw [wv_congr (fun j hj => h j (by omega)), h n (by omega)]
theorem wv_lin (f g : Nat → Int) (t : Int) : ∀ n : Nat, wv (fun j => f j + t * g j) n = wv f n + t * wv g n
  | 0 => by simp [wv]
  | n + 1 => by
    show wv _ n + (f n + t * g n) * _ = wv f n + f n * _ + t * (wv g n + g n * _)
    rw [wv_lin f g t n, Int.add_mul, Int.mul_add, Int.mul_assoc]
    omega
theorem wv_mul (f : Nat → Int) (t : Int) : ∀ n : Nat, wv (fun j => f j * t) n = wv f n * t
  | 0 => by simp [wv]
  | n + 1 => by
    show wv _ n + (f n * t) * _ = (wv f n + f n * _) * t
    rw [wv_mul f t n, Int.add_mul, Int.mul_assoc, Int.mul_assoc, Int.mul_comm t]
theorem wv_neg (f : Nat → Int) (n : Nat) : wv (fun j => - f j) n = - wv f n := by
  have := wv_mul f (-1) n
  rw [wv_congr (g := fun j => - f j) (fun j _ => by omega)] at this
  omega
theorem wv_zero : ∀ n : Nat, wv (fun _ => 0) n = 0
  | 0 => rfl
  | n + 1 => by
    show wv _ n + 0 * _ = 0
    rw [wv_zero n, Int.zero_mul]
    rfl
theorem wv_nv (d : Nat → Nat) : ∀ n : Nat, wv (fun j => (d j : Int)) n = (nv d n : Int)
  | 0 => rfl
  | n + 1 => by
    show wv _ n + _ = ((nv d n + d n * 1000000 ^ n : Nat) : Int)
    rw [wv_nv d n, Int.natCast_add, Int.natCast_mul, bp_cast]
theorem nv_shift (d : Nat → Nat) : ∀ n : Nat, nv d (n + 1) = d 0 + 1000000 * nv (fun j => d (j + 1)) n
  | 0 => by simp [nv]
  | n + 1 => by
    have ih := nv_shift d n
    show nv d (n + 1) + d (n + 1) * 1000000 ^ (n + 1) = d 0 + 1000000 * (nv (fun j => d (j + 1)) n + d (n + 1) * 1000000 ^ n)
    rw [ih, bp_s, Nat.mul_add, Nat.add_assoc, Nat.mul_left_comm]
theorem nv_lt {d : Nat → Nat} : ∀ {n : Nat}, (∀ j, j < n → d j < 1000000) → nv d n < 1000000 ^ n
  | 0, _ => by simp [nv]
  | n + 1, h => by
    have ih := nv_lt (n := n) (fun j hj => h j (by omega))
    have h1 := h n (by omega)
    show nv d n + d n * 1000000 ^ n < _
    rw [bp_s]
    have : d n * 1000000 ^ n ≤ 999999 * 1000000 ^ n := Nat.mul_le_mul_right _ (by omega)
    omega
theorem nv_dig : ∀ (j n : Nat) {d : Nat → Nat}, (∀ i, i < n → d i < 1000000) → j < n → nd (nv d n) j = d j
  | j, 0, _, _, hj => absurd hj (Nat.not_lt_zero j)
  | 0, n + 1, d, h, _ => by
    unfold nd
    rw [nv_shift, Nat.pow_zero, Nat.div_one, Nat.add_mul_mod_self_left, Nat.mod_eq_of_lt (h 0 (by omega))]
  | j + 1, n + 1, d, h, hj => by
    have ih := nv_dig j n (d := fun i => d (i + 1)) (fun i hi => h (i + 1) (by omega)) (by omega)
    unfold nd at *
    rw [nv_shift, bp_s, ← Nat.div_div_eq_div_mul, Nat.add_mul_div_left _ _ (by omega), Nat.div_eq_of_lt (h 0 (by omega)), Nat.zero_add]
    exact ih
theorem nv_nd (x : Nat) : ∀ n : Nat, nv (nd x) n = x % 1000000 ^ n
  | 0 => by simp [nv, Nat.mod_one]
  | n + 1 => by
    show nv (nd x) n + nd x n * _ = _
    rw [nv_nd x n, Nat.pow_succ, Nat.mod_mul, Nat.mul_comm (nd x n)]
    rfl
theorem nd_zero {x j : Nat} (h : x < 1000000 ^ j) : nd x j = 0 := by
  unfold nd
  rw [Nat.div_eq_of_lt h]
theorem wdig_zero {v : Int} {j : Nat} (h : v.natAbs < 1000000 ^ j) : wdig v j = 0 := by
  unfold wdig
  rw [nd_zero h]
  split <;> rfl
theorem wdig_0 (j : Nat) : wdig 0 j = 0 := wdig_zero (by simpa using bp_pos j)
theorem wv_wdig {v : Int} {n : Nat} (h : v.natAbs < 1000000 ^ n) : wv (wdig v) n = v := by
  have h1 := nv_nd v.natAbs n
  rw [Nat.mod_eq_of_lt h] at h1
  have h2 := wv_nv (nd v.natAbs) n
  rw [h1] at h2
  by_cases hv : v < 0
  · rw [wv_congr (g := fun j => - (nd v.natAbs j : Int)) (fun j _ => by simp [wdig, hv]), wv_neg, h2]
    omega
  · rw [wv_congr (g := fun j => (nd v.natAbs j : Int)) (fun j _ => by simp [wdig, hv]), h2]
    omega
/-- limbs that all are digits are the digits of their number -/
theorem dig_pos {d : Nat → Int} {n : Nat} (h : ∀ j, j < n → 0 ≤ d j ∧ d j < 1000000) : 0 ≤ wv d n ∧ wv d n < 1000000 ^ n ∧ ∀ j, j < n → d j = wdig (wv d n) j := by
  have e : wv d n = (nv (fun j => (d j).toNat) n : Int) := by
    rw [← wv_nv]
    exact wv_congr (fun j hj => by have := h j hj; omega)
  have hlt := nv_lt (n := n) (d := fun j => (d j).toNat) (fun j hj => by have := h j hj; omega)
  have hlt' : ((nv (fun j => (d j).toNat) n : Nat) : Int) < ((1000000 ^ n : Nat) : Int) := by exact_mod_cast hlt
  rw [bp_cast] at hlt'
  refine ⟨by rw [e]; omega, by rw [e]; exact hlt', fun j hj => ?_⟩
  have h1 := nv_dig j n (d := fun j => (d j).toNat) (fun j hj => by have := h j hj; omega) hj
  have h2 := h j hj
  unfold wdig
  rw [e, if_neg (by omega), Int.natAbs_natCast, h1]
  omega
theorem dig_neg {d : Nat → Int} {n : Nat} (h : ∀ j, j < n → -1000000 < d j ∧ d j ≤ 0) : wv d n ≤ 0 ∧ -(1000000 ^ n) < wv d n ∧ ∀ j, j < n → d j = wdig (wv d n) j := by
  obtain ⟨h1, h2, h3⟩ := dig_pos (d := fun j => - d j) (n := n) (fun j hj => by have := h j hj; omega)
  rw [wv_neg] at h1 h2 h3
  refine ⟨by omega, by omega, fun j hj => ?_⟩
  have h4 := h3 j hj
  unfold wdig at *
  by_cases hv : wv d n < 0
  · rw [if_neg (by omega), Int.natAbs_neg] at h4
    rw [if_pos hv]
    omega
  · have h0 : wv d n = 0 := by omega
    have hz : nd 0 j = 0 := nd_zero (bp_pos j)
    rw [h0] at h4 ⊢
    simp [hz] at h4 ⊢
    omega
-- settling: the carry into a limb, and what stays there
def sc (f : Nat → Int) : Nat → Int
  | 0 => 0
  | i + 1 => (f i + sc f i) / 1000000
def sd (f : Nat → Int) (i : Nat) : Int := f i + sc f i - sc f (i + 1) * 1000000
theorem sd_b (f : Nat → Int) (i : Nat) : 0 ≤ sd f i ∧ sd f i < 1000000 := by
  unfold sd
  have e : sc f (i + 1) = (f i + sc f i) / 1000000 := rfl
  rw [e]
  omega
theorem sc_b {f : Nat → Int} {n : Nat} (h : ∀ j, j < n → -9000000000000000000 ≤ f j ∧ f j ≤ 9000000000000000000) : ∀ i, i ≤ n → -10000000000000 ≤ sc f i ∧ sc f i ≤ 10000000000000
  | 0, _ => by simp [sc]
  | i + 1, hi => by
    have h1 := sc_b h i (by omega)
    have h2 := h i (by omega)
    show -10000000000000 ≤ (f i + sc f i) / 1000000 ∧ (f i + sc f i) / 1000000 ≤ 10000000000000
    omega
theorem wv_sd (f : Nat → Int) : ∀ n : Nat, wv (sd f) n + sc f n * 1000000 ^ n = wv f n
  | 0 => by simp [wv, sc]
  | n + 1 => by
    have ih := wv_sd f n
    show wv (sd f) n + sd f n * 1000000 ^ n + sc f (n + 1) * 1000000 ^ (n + 1) = wv f n + f n * 1000000 ^ n
    have e : sd f n = f n + sc f n - sc f (n + 1) * 1000000 := rfl
    rw [e, bp_sI, Int.sub_mul, Int.add_mul, Int.mul_assoc (sc f (n + 1))]
    omega
-- turning negative
def tb (d : Nat → Int) : Nat → Int
  | 0 => 0
  | i + 1 => if tb d i = 1 then 1 else if d i ≠ 0 then 1 else 0
def tn (d : Nat → Int) (i : Nat) : Int := if tb d i = 1 then d i - 999999 else if d i ≠ 0 then d i - 1000000 else d i
theorem tb_b (d : Nat → Int) : ∀ i, tb d i = 0 ∨ tb d i = 1
  | 0 => Or.inl rfl
  | i + 1 => by
    show (if tb d i = 1 then (1 : Int) else if d i ≠ 0 then 1 else 0) = 0 ∨ _
    simp only [tb]
    split
    · exact Or.inr rfl
    · split
      · exact Or.inr rfl
      · exact Or.inl rfl
theorem wv_tn (d : Nat → Int) : ∀ n : Nat, wv (tn d) n = wv d n - tb d n * 1000000 ^ n
  | 0 => by simp [wv, tb]
  | n + 1 => by
    have ih := wv_tn d n
    show wv (tn d) n + tn d n * 1000000 ^ n = wv d n + d n * 1000000 ^ n - tb d (n + 1) * 1000000 ^ (n + 1)
    rw [ih, bp_sI]
    have e1 : tb d (n + 1) = if tb d n = 1 then 1 else if d n ≠ 0 then 1 else 0 := rfl
    have e2 : tn d n = if tb d n = 1 then d n - 999999 else if d n ≠ 0 then d n - 1000000 else d n := rfl
    rcases tb_b d n with h | h
    · rw [h] at e1 e2
      by_cases h0 : d n = 0
      · rw [e1, e2, h]
        simp [h0]
      · rw [e1, e2, h]
        simp [h0]
        rw [Int.sub_mul]
        omega
    · rw [h] at e1 e2
      rw [e1, e2, h]
      simp
      rw [Int.sub_mul]
      omega
theorem tn_b {d : Nat → Int} {n : Nat} (h : ∀ j, j < n → 0 ≤ d j ∧ d j < 1000000) : ∀ j, j < n → -1000000 < tn d j ∧ tn d j ≤ 0 := fun j hj => by
  have := h j hj
  unfold tn
  split
  · omega
  · split <;> omega
theorem tb_pos {d : Nat → Int} : ∀ {n : Nat}, tb d n = 0 → ∀ j, j < n → d j = 0
  | 0, _, j, hj => absurd hj (Nat.not_lt_zero j)
  | n + 1, h, j, hj => by
    have e1 : tb d (n + 1) = if tb d n = 1 then 1 else if d n ≠ 0 then 1 else 0 := rfl
    rw [h] at e1
    rcases tb_b d n with h1 | h1
    · by_cases h0 : d n = 0
      · by_cases ej : j = n
        · rw [ej]; exact h0
        · exact tb_pos h1 j (by omega)
      · rw [h1] at e1
        simp [h0] at e1
    · rw [h1] at e1
      simp at e1
/-- what settling gives, without a carry at the end -/
theorem settle_pos {f : Nat → Int} {n : Nat} (h1 : -(1000000 ^ n) < wv f n) (h2 : wv f n < 1000000 ^ n) (hc : 0 ≤ sc f n) : ∀ j, j < n → sd f j = wdig (wv f n) j := by
  obtain ⟨a1, a2, a3⟩ := dig_pos (d := sd f) (n := n) (fun j _ => sd_b f j)
  have e := wv_sd f n
  have hp := bp_posI n
  have h0 : sc f n = 0 := by
    by_cases h : sc f n = 0
    · exact h
    · have : 1 * 1000000 ^ n ≤ sc f n * 1000000 ^ n := Int.mul_le_mul_of_nonneg_right (by omega) (by omega)
      omega
  rw [h0] at e
  intro j hj
  rw [a3 j hj]
  congr 1
  omega
theorem settle_neg {f : Nat → Int} {n : Nat} (h1 : -(1000000 ^ n) < wv f n) (h2 : wv f n < 1000000 ^ n) (hc : sc f n < 0) : ∀ j, j < n → tn (sd f) j = wdig (wv f n) j := by
  obtain ⟨a1, a2, a3⟩ := dig_pos (d := sd f) (n := n) (fun j _ => sd_b f j)
  have e := wv_sd f n
  have hp := bp_posI n
  have h0 : sc f n = -1 := by
    by_cases h : sc f n = -1
    · exact h
    · have : sc f n * 1000000 ^ n ≤ (-2) * 1000000 ^ n := Int.mul_le_mul_of_nonneg_right (by omega) (by omega)
      omega
  rw [h0] at e
  obtain ⟨b1, b2, b3⟩ := dig_neg (d := tn (sd f)) (n := n) (tn_b (fun j _ => sd_b f j))
  have e2 := wv_tn (sd f) n
  have h3 : tb (sd f) n = 1 := by
    rcases tb_b (sd f) n with h | h
    · have hz := tb_pos h
      have : wv (sd f) n = 0 := by rw [wv_congr (g := fun _ => 0) hz]; exact wv_zero n
      omega
    · exact h
  rw [h3] at e2
  intro j hj
  rw [b3 j hj]
  congr 1
  omega
-- a number's size: how many limbs it has
def wk (v : Int) (n k : Nat) : Prop := k ≤ n ∧ v.natAbs < 1000000 ^ k ∧ (0 < k → 1000000 ^ (k - 1) ≤ v.natAbs)
theorem wk_of {v : Int} {n k : Nat} {f : Nat → Int} (hk : k ≤ n) (hv : v.natAbs < 1000000 ^ n) (hf : ∀ j, j < n → f j = wdig v j) (h0 : ∀ j, k ≤ j → j < n → f j = 0) (h1 : 0 < k → f (k - 1) ≠ 0) : wk v n k := by
  refine ⟨hk, ?_, fun hp => ?_⟩
  · have e1 := nv_nd v.natAbs n
    rw [Nat.mod_eq_of_lt hv] at e1
    have e2 : ∀ m, k ≤ m → m ≤ n → nv (nd v.natAbs) m = nv (nd v.natAbs) k := by
      intro m
      induction m with
      | zero => intro a _; rw [show k = 0 by omega]
      | succ m ih =>
        intro a b
        by_cases hkm : k = m + 1
        · rw [hkm]
        · have h2 := h0 m (by omega) (by omega)
          rw [hf m (by omega)] at h2
          have h3 : nd v.natAbs m = 0 := by
            unfold wdig at h2
            split at h2 <;> omega
          show nv _ m + nd v.natAbs m * _ = _
          rw [h3, ih (by omega) (by omega), Nat.zero_mul, Nat.add_zero]
    rw [← e1, e2 n hk (Nat.le_refl n)]
    exact nv_lt (fun j _ => nd_lt _ j)
  · have h2 := h1 hp
    rw [hf (k - 1) (by omega)] at h2
    rcases Nat.lt_or_ge v.natAbs (1000000 ^ (k - 1)) with h3 | h3
    · exact absurd (wdig_zero h3) h2
    · exact h3
theorem wk_z {v : Int} {n k : Nat} (h : wk v n k) : k = 0 ↔ v = 0 := by
  obtain ⟨_, h1, h2⟩ := h
  constructor
  · intro e
    rw [e] at h1
    simp at h1
    omega
  · intro e
    by_cases hk : k = 0
    · exact hk
    · have := h2 (by omega)
      have := bp_pos (k - 1)
      omega
/-- the top limb of a number that isn't 0 bears its sign -/
theorem wdig_top {v : Int} {n k : Nat} (h : wk v n k) (hk : 0 < k) : (v < 0 → wdig v (k - 1) < 0) ∧ (0 < v → 0 < wdig v (k - 1)) := by
  obtain ⟨_, h1, h2⟩ := h
  have h3 := h2 hk
  have h4 : 0 < nd v.natAbs (k - 1) := by
    unfold nd
    have e : 1000000 ^ k = 1000000 * 1000000 ^ (k - 1) := by rw [← bp_s]; congr 1; omega
    have a1 : v.natAbs / 1000000 ^ (k - 1) < 1000000 := Nat.div_lt_of_lt_mul (by rw [Nat.mul_comm]; omega)
    rw [Nat.mod_eq_of_lt a1]
    exact Nat.div_pos h3 (bp_pos _)
  unfold wdig
  constructor
  · intro hv
    rw [if_pos hv]
    omega
  · intro hv
    rw [if_neg (by omega)]
    omega
end
section
/-! the class's whole numbers: contracts of its methods -/
/-- a whole number's cells, its limbs as they are -/
def WR (D : va_G) (E : Nat → ClassId) (a n : Nat) (f : Nat → Int) (sz sg : Int) (H : Heap) : Prop := OA D a 8 [.ref (a + 1), .int (iI sz), .int (iI sg)] H ∧ LA E (a + 1) n f H
/-- a settled whole number -/
def WH (D : va_G) (E : Nat → ClassId) (a n : Nat) (v : Int) (H : Heap) : Prop := ∃ k : Nat, WR D E a n (wdig v) k v.sign H ∧ wk v n k
theorem WR.k {D : va_G} {E : Nat → ClassId} {a n : Nat} {f : Nat → Int} {sz sg : Int} {H H1 : Heap} (h : WR D E a n f sz sg H) (h0 : H1[a]? = H[a]?) (h1 : H1[a + 1]? = H[a + 1]?) : WR D E a n f sz sg H1 := ⟨h.1.k h0, h.2.k h1⟩
theorem WH.k {D : va_G} {E : Nat → ClassId} {a n : Nat} {v : Int} {H H1 : Heap} (h : WH D E a n v H) (h0 : H1[a]? = H[a]?) (h1 : H1[a + 1]? = H[a + 1]?) : WH D E a n v H1 := by
  obtain ⟨k, h2, h3⟩ := h
  exact ⟨k, h2.k h0 h1, h3⟩
theorem WH.lt {D : va_G} {E : Nat → ClassId} {a n : Nat} {v : Int} {H : Heap} (h : WH D E a n v H) : a + 1 < H.size := by
  obtain ⟨k, h2, h3⟩ := h
  exact h2.2.lt
theorem WR.up {D : va_G} {E : Nat → ClassId} {a n : Nat} {f g : Nat → Int} {sz sg : Int} {H : Heap} (h : WR D E a n f sz sg H) (hfg : ∀ j, j < n → f j = g j) : WR D E a n g sz sg H := ⟨h.1, h.2.up hfg⟩
theorem wh_bound {v : Int} {n k : Nat} (h : wk v n k) : v.natAbs < 1000000 ^ n := Nat.lt_of_lt_of_le h.2.1 (bp_mono h.1)
theorem sgn_i (v : Int) : v.sign = if v < 0 then -1 else if v = 0 then 0 else 1 := by
  rcases Int.lt_trichotomy v 0 with h | h | h
  · rw [if_pos h, Int.sign_eq_neg_one_of_neg h]
  · subst h; rfl
  · rw [if_neg (by omega), if_neg (by omega), Int.sign_eq_one_of_pos h]
/-- measured digits of a number: it is settled -/
theorem wh_of {D : va_G} {E : Nat → ClassId} {a n k : Nat} {v : Int} {f : Nat → Int} {H : Heap} (hv1 : -(1000000 ^ n) < v) (hv2 : v < 1000000 ^ n) (hf : ∀ j, j < n → f j = wdig v j) (hk : k ≤ n) (h0 : ∀ j, k ≤ j → j < n → f j = 0) (h1 : 0 < k → f (k - 1) ≠ 0) (hW : WR D E a n f k (if k = 0 then 0 else if f (k - 1) < 0 then -1 else 1) H) : WH D E a n v H := by
  have hva : v.natAbs < 1000000 ^ n := by
    have hp := bp_cast n
    have : ((v.natAbs : Nat) : Int) < ((1000000 ^ n : Nat) : Int) := by omega
    exact_mod_cast this
  have hwk := wk_of hk hva hf h0 h1
  refine ⟨k, ?_, hwk⟩
  have e : (if k = 0 then 0 else if f (k - 1) < 0 then -1 else 1 : Int) = v.sign := by
    rw [sgn_i]
    by_cases hk0 : k = 0
    · have := (wk_z hwk).mp hk0
      simp [hk0, this]
    · have hv0 : v ≠ 0 := fun e => hk0 ((wk_z hwk).mpr e)
      obtain ⟨t1, t2⟩ := wdig_top hwk (by omega)
      rw [if_neg hk0, hf (k - 1) (by omega)]
      by_cases hv : v < 0
      · rw [if_pos hv, if_pos (t1 hv)]
      · have := t2 (by omega)
        rw [if_neg hv, if_neg hv0, if_neg (by omega)]
  rw [e] at hW
  exact hW.up hf
set_option maxHeartbeats 4000000 in
set_option maxRecDepth 100000 in
/-- measure(): the size, and the sign of the top limb -/
theorem c_measure (l : Launch) (D : va_G) (E : Nat → ClassId) (a n : Nat) (f : Nat → Int) (sz sg : Int) (hn : n < 1000) (hf : ∀ j, j < n → -9223372036854775808 ≤ f j ∧ f j ≤ 9223372036854775807) : pw_M rvV l D E yX8_measure wsX8_measure ({ frames := 0, cells := 0, slots := 0, locals := 0 } : Room) [.ref (a)] (fun H => WR D E a n f sz sg H) (fun _ H => ∃ k : Nat, k ≤ n ∧ (∀ j, k ≤ j → j < n → f j = 0) ∧ (0 < k → f (k - 1) ≠ 0) ∧ WR D E a n f k (if k = 0 then 0 else if f (k - 1) < 0 then -1 else 1) H) (fun q => q = a ∨ q = a + 1) (0) (0) := by
  refine pw_of (cc := cX8_measure) (maxL := 1) (ret := none) (by decide +kernel) rfl (Nat.le_of_ble_eq_true rfl) ?_
  intro p e s m args below meth c hx hb hr hml hts hown hlocks hini hK ⟨hO, hL⟩ ls hl
  have hown : s.vm.findClass RX8 = some m.cls := hown
  have hl : lv_has ls 1 [(0, .ref (a))] := hl
  have hS : va_S (fun q => q = a ∨ q = a + 1) s.heap s.heap [] := va_S.rf
  have lk_7 := hts (.fieldLink RX8 7 "PolicyWorks$Whole" "limbs" "[J") (by decide +kernel)
  have lk_13 := hts (.fieldLink RX8 13 "PolicyWorks$Whole" "size" "I") (by decide +kernel)
  have lk_17 := hts (.fieldLink RX8 17 "PolicyWorks$Whole" "sign" "I") (by decide +kernel)
  have hin8 : ∀ w ∈ wsX80, w ∈ wsX8_measure := by decide +kernel
  have fin : ∀ (k : Nat) (H : Heap) (locs : List Loc) (ls : Array Slot), k ≤ n → (∀ j, k ≤ j → j < n → f j = 0) → (0 < k → f (k - 1) ≠ 0) → OA D a 8 [.ref (a + 1), .int (iI ((k : Int))), .int (iI (sg))] H → LA E (a + 1) n f H → va_S (fun q => q = a ∨ q = a + 1) s.heap H locs → lv_has ls 1 [(0, .ref (a))] → W p l e ({ frames := 0, cells := 0, slots := 0, locals := 0 } : Room) s m args below meth c H locs (0) (0) (MQ below (pw_Q rvV (fun _ H => ∃ k : Nat, k ≤ n ∧ (∀ j, k ≤ j → j < n → f j = 0) ∧ (0 < k → f (k - 1) ≠ 0) ∧ WR D E a n f k (if k = 0 then 0 else if f (k - 1) < 0 then -1 else 1) H) (fun q => q = a ∨ q = a + 1)) args s (0) (0) (fun q => q = a ∨ q = a + 1)) (F0 m 45 ls []) := by
    intro k H locs ls hk h0 h1 hO hL hS hl
    refine lv_aload_n hx hb dX8_measure_45 rfl (lv_at hl 0 rfl) ?_
    refine lv_aload_n hx hb dX8_measure_46 rfl (lv_at hl 0 rfl) ?_
    refine pw_get (C := RX8) (T := TX8) (N := 3) hx hb hts hin8 hown hK hO rfl 1 (by decide) lk_13 rfl rfl dX8_measure_47 ?_
    refine pw_if_ne (tgt := 57) hx hb dX8_measure_50 (by decide) (fun c_50 => ?_) (fun c_50 => ?_)
    · refine lv_aload_n hx hb dX8_measure_57 rfl (lv_at hl 0 rfl) ?_
      refine pw_get (C := RX8) (T := TX8) (N := 3) hx hb hts hin8 hown hK hO rfl 0 (by decide) lk_7 rfl rfl dX8_measure_58 ?_
      refine lv_aload_n hx hb dX8_measure_61 rfl (lv_at hl 0 rfl) ?_
      refine pw_get (C := RX8) (T := TX8) (N := 3) hx hb hts hin8 hown hK hO rfl 1 (by decide) lk_13 rfl rfl dX8_measure_62 ?_
      refine pw_iconst hx hb dX8_measure_65 ?_
      refine pw_isub hx hb dX8_measure_66 ?_
      have hfk := hf (k - 1) (by omega)
      refine pw_lald hx hb hK hL (k - 1) (by omega) (by omega) (by omega) dX8_measure_67 ?_
      refine pw_lconst (z := 0) hx hb dX8_measure_68 ?_
      refine pw_lcmp_ge (tgt := 77) hx hb dX8_measure_69 dX8_measure_70 (by decide) (fun c_69 => ?_) (fun c_69 => ?_)
      · refine pw_iconst hx hb dX8_measure_77 ?_
        refine pw_put (C := RX8) (T := TX8) (N := 3) hx hb hts hin8 tyX8 tyX8_ok nmX8 hown hK hO hS (Or.inl rfl) rfl 2 (by decide) lk_17 rfl rfl rfl rfl (by show _ < 3; decide) dX8_measure_78 (fun H1 locs1 hnew hz1 oq hS => ?_)
        have hL := hL.k (oq _ (by omega))
        have hO : OA D (a) 8 [.ref (a + 1), .int (iI ((k : Int))), .int (iI (1))] H1 := hnew
        clear hnew oq hz1
        exact pw_vret hx hb hr hlocks hS ⟨k, hk, h0, h1, by rw [if_neg (by omega), if_neg (by omega)]; exact hO, hL⟩ dX8_measure_81
      · refine pw_iconst hx hb dX8_measure_73 ?_
        refine lv_goto (tgt := 78) hx hb dX8_measure_74 (by decide) ?_
        refine pw_put (C := RX8) (T := TX8) (N := 3) hx hb hts hin8 tyX8 tyX8_ok nmX8 hown hK hO hS (Or.inl rfl) rfl 2 (by decide) lk_17 rfl rfl rfl rfl (by show _ < 3; decide) dX8_measure_78 (fun H1 locs1 hnew hz1 oq hS => ?_)
        have hL := hL.k (oq _ (by omega))
        have hO : OA D (a) 8 [.ref (a + 1), .int (iI ((k : Int))), .int (iI (-1))] H1 := hnew
        clear hnew oq hz1
        exact pw_vret hx hb hr hlocks hS ⟨k, hk, h0, h1, by rw [if_neg (by omega), if_pos c_69]; exact hO, hL⟩ dX8_measure_81
    · refine pw_iconst hx hb dX8_measure_53 ?_
      refine lv_goto (tgt := 78) hx hb dX8_measure_54 (by decide) ?_
      refine pw_put (C := RX8) (T := TX8) (N := 3) hx hb hts hin8 tyX8 tyX8_ok nmX8 hown hK hO hS (Or.inl rfl) rfl 2 (by decide) lk_17 rfl rfl rfl rfl (by show _ < 3; decide) dX8_measure_78 (fun H1 locs1 hnew hz1 oq hS => ?_)
      have hL := hL.k (oq _ (by omega))
      have hO : OA D (a) 8 [.ref (a + 1), .int (iI ((k : Int))), .int (iI (0))] H1 := hnew
      clear hnew oq hz1
      exact pw_vret hx hb hr hlocks hS ⟨k, hk, h0, h1, by rw [if_pos (by omega)]; exact hO, hL⟩ dX8_measure_81
  have loop : ∀ (k : Nat) (H : Heap) (locs : List Loc) (ls : Array Slot), k ≤ n → (∀ j, k ≤ j → j < n → f j = 0) → OA D a 8 [.ref (a + 1), .int (iI ((k : Int))), .int (iI (sg))] H → LA E (a + 1) n f H → va_S (fun q => q = a ∨ q = a + 1) s.heap H locs → lv_has ls 1 [(0, .ref (a))] → W p l e ({ frames := 0, cells := 0, slots := 0, locals := 0 } : Room) s m args below meth c H locs (0) (0) (MQ below (pw_Q rvV (fun _ H => ∃ k : Nat, k ≤ n ∧ (∀ j, k ≤ j → j < n → f j = 0) ∧ (0 < k → f (k - 1) ≠ 0) ∧ WR D E a n f k (if k = 0 then 0 else if f (k - 1) < 0 then -1 else 1) H) (fun q => q = a ∨ q = a + 1)) args s (0) (0) (fun q => q = a ∨ q = a + 1)) (F0 m 9 ls []) := by
    intro k
    induction k with
    | zero =>
      intro H locs ls hk h0 hO hL hS hl
      refine lv_aload_n hx hb dX8_measure_9 rfl (lv_at hl 0 rfl) ?_
      refine pw_get (C := RX8) (T := TX8) (N := 3) hx hb hts hin8 hown hK hO rfl 1 (by decide) lk_13 rfl rfl dX8_measure_10 ?_
      refine pw_if_le (tgt := 45) hx hb dX8_measure_13 (by decide) (fun c_13 => ?_) (fun c_13 => absurd c_13 (by omega))
      exact fin 0 _ _ _ hk h0 (by omega) hO hL hS hl
    | succ k ih =>
      intro H locs ls hk h0 hO hL hS hl
      have hfk := hf k (by omega)
      refine lv_aload_n hx hb dX8_measure_9 rfl (lv_at hl 0 rfl) ?_
      refine pw_get (C := RX8) (T := TX8) (N := 3) hx hb hts hin8 hown hK hO rfl 1 (by decide) lk_13 rfl rfl dX8_measure_10 ?_
      refine pw_if_le (tgt := 45) hx hb dX8_measure_13 (by decide) (fun c_13 => absurd c_13 (by omega)) (fun c_13 => ?_)
      refine lv_aload_n hx hb dX8_measure_16 rfl (lv_at hl 0 rfl) ?_
      refine pw_get (C := RX8) (T := TX8) (N := 3) hx hb hts hin8 hown hK hO rfl 0 (by decide) lk_7 rfl rfl dX8_measure_17 ?_
      refine lv_aload_n hx hb dX8_measure_20 rfl (lv_at hl 0 rfl) ?_
      refine pw_get (C := RX8) (T := TX8) (N := 3) hx hb hts hin8 hown hK hO rfl 1 (by decide) lk_13 rfl rfl dX8_measure_21 ?_
      refine pw_iconst hx hb dX8_measure_24 ?_
      refine pw_isub hx hb dX8_measure_25 ?_
      refine pw_lald hx hb hK hL (k) (by omega) (by omega) (by omega) dX8_measure_26 ?_
      refine pw_lconst (z := 0) hx hb dX8_measure_27 ?_
      refine pw_lcmp_ne (tgt := 45) hx hb dX8_measure_28 dX8_measure_29 (by decide) (fun c_28 => ?_) (fun c_28 => ?_)
      · exact fin (k + 1) _ _ _ hk h0 (fun _ => c_28) hO hL hS hl
      · refine lv_aload_n hx hb dX8_measure_32 rfl (lv_at hl 0 rfl) ?_
        refine lv_dup hx hb dX8_measure_33 rfl ?_
        refine pw_get (C := RX8) (T := TX8) (N := 3) hx hb hts hin8 hown hK hO rfl 1 (by decide) lk_13 rfl rfl dX8_measure_34 ?_
        refine pw_iconst hx hb dX8_measure_37 ?_
        refine pw_isub hx hb dX8_measure_38 ?_
        refine pw_asi ((k : Int)) (by omega) ?_
        refine pw_put (C := RX8) (T := TX8) (N := 3) hx hb hts hin8 tyX8 tyX8_ok nmX8 hown hK hO hS (Or.inl rfl) rfl 1 (by decide) lk_13 rfl rfl rfl rfl (by show _ < 3; decide) dX8_measure_39 (fun H1 locs1 hnew hz1 oq hS => ?_)
        have hL := hL.k (oq _ (by omega))
        have hO : OA D (a) 8 [.ref (a + 1), .int (iI ((k : Int))), .int (iI (sg))] H1 := hnew
        clear hnew oq hz1
        refine lv_goto (tgt := 9) hx hb dX8_measure_42 (by decide) ?_
        exact ih _ _ _ (by omega) (fun j h1 h2 => by
        by_cases e : j = k
        · rw [e]; exact c_28
        · exact h0 j (by omega) h2) hO hL hS hl
  refine lv_aload_n hx hb dX8_measure_0 rfl (lv_at hl 0 rfl) ?_
  refine lv_aload_n hx hb dX8_measure_1 rfl (lv_at hl 0 rfl) ?_
  refine pw_get (C := RX8) (T := TX8) (N := 3) hx hb hts hin8 hown hK hO rfl 0 (by decide) lk_7 rfl rfl dX8_measure_2 ?_
  refine pw_alen (n := n) (k0 := 1) hx hb hK hL rfl rfl dX8_measure_5 ?_
  refine pw_put (C := RX8) (T := TX8) (N := 3) hx hb hts hin8 tyX8 tyX8_ok nmX8 hown hK hO hS (Or.inl rfl) rfl 1 (by decide) lk_13 rfl rfl rfl rfl (by show _ < 3; decide) dX8_measure_6 (fun H1 locs1 hnew hz1 oq hS => ?_)
  have hL := hL.k (oq _ (by omega))
  have hO : OA D (a) 8 [.ref (a + 1), .int (iI ((n : Int))), .int (iI (sg))] H1 := hnew
  clear hnew oq hz1
  exact loop n _ _ _ (Nat.le_refl n) (fun j h1 h2 => by omega) hO hL hS hl
set_option maxHeartbeats 4000000 in
set_option maxRecDepth 100000 in
/-- limbAt(i): 0 beside the size -/
theorem c_limbAt (l : Launch) (D : va_G) (E : Nat → ClassId) (a n : Nat) (f : Nat → Int) (sz sg i : Int) (hn : n < 1000) (hsz : 0 ≤ sz ∧ sz ≤ n) (hi1 : -2147483648 ≤ i) (hi2 : i ≤ 2147483647) : pw_M rvL l D E yX8_limbAt wsX8_limbAt ({ frames := 0, cells := 0, slots := 0, locals := 0 } : Room) [.ref (a), .int (iI (i))] (fun H => WR D E a n f sz sg H) (fun z H => z = (if 0 ≤ i ∧ i < sz then f i.toNat else 0) ∧ True) (fun _ => False) (0) (0) := by
  refine pw_of (cc := cX8_limbAt) (maxL := 2) (ret := (some .long)) (by decide +kernel) rfl (Nat.le_of_ble_eq_true rfl) ?_
  intro p e s m args below meth c hx hb hr hml hts hown hlocks hini hK ⟨hO, hL⟩ ls hl
  have hown : s.vm.findClass RX8 = some m.cls := hown
  have hl : lv_has ls 2 [(0, .ref (a)), (1, .int (iI (i)))] := hl
  have hS : va_S (fun _ => False) s.heap s.heap [] := va_S.rf
  have lk_7 := hts (.fieldLink RX8 7 "PolicyWorks$Whole" "limbs" "[J") (by decide +kernel)
  have lk_13 := hts (.fieldLink RX8 13 "PolicyWorks$Whole" "size" "I") (by decide +kernel)
  have hin8 : ∀ w ∈ wsX80, w ∈ wsX8_limbAt := by decide +kernel
  refine lv_iload_n hx hb dX8_limbAt_0 rfl (lv_at hl 1 rfl) ?_
  refine pw_if_lt (tgt := 21) hx hb dX8_limbAt_1 (by decide) (fun c_1 => ?_) (fun c_1 => ?_)
  · refine pw_lconst (z := 0) hx hb dX8_limbAt_21 ?_
    exact pw_lret hx hb hr hlocks hS ⟨by rw [if_neg (by omega)], trivial⟩ dX8_limbAt_22
  · refine lv_iload_n hx hb dX8_limbAt_4 rfl (lv_at hl 1 rfl) ?_
    refine lv_aload_n hx hb dX8_limbAt_5 rfl (lv_at hl 0 rfl) ?_
    refine pw_get (C := RX8) (T := TX8) (N := 3) hx hb hts hin8 hown hK hO rfl 1 (by decide) lk_13 rfl rfl dX8_limbAt_6 ?_
    refine pw_icmp_ge (tgt := 21) hx hb dX8_limbAt_9 (by decide) (fun c_9 => ?_) (fun c_9 => ?_)
    · refine pw_lconst (z := 0) hx hb dX8_limbAt_21 ?_
      exact pw_lret hx hb hr hlocks hS ⟨by rw [if_neg (by omega)], trivial⟩ dX8_limbAt_22
    · refine lv_aload_n hx hb dX8_limbAt_12 rfl (lv_at hl 0 rfl) ?_
      refine pw_get (C := RX8) (T := TX8) (N := 3) hx hb hts hin8 hown hK hO rfl 0 (by decide) lk_7 rfl rfl dX8_limbAt_13 ?_
      refine lv_iload_n hx hb dX8_limbAt_16 rfl (lv_at hl 1 rfl) ?_
      refine pw_lald hx hb hK hL (i.toNat) (by omega) (by omega) (by omega) dX8_limbAt_17 ?_
      refine lv_goto (tgt := 22) hx hb dX8_limbAt_18 (by decide) ?_
      exact pw_lret hx hb hr hlocks hS ⟨by rw [if_pos (by omega)], trivial⟩ dX8_limbAt_22
theorem ud_ext {g t : Nat → Int} {i : Nat} {x : Int} (h : ∀ j, j < i → g j = t j) (hx : x = t i) : ∀ j, j < i + 1 → ud g i x j = t j := fun j hj => by
  by_cases e : j = i
  · rw [e, ud_s]; exact hx
  · rw [ud_n _ _ e]; exact h j (by omega)
theorem ext1 {g t : Nat → Int} {i : Nat} (h : ∀ j, j < i → g j = t j) (hx : g i = t i) : ∀ j, j < i + 1 → g j = t j := fun j hj => by
  by_cases e : j = i
  · rw [e]; exact hx
  · exact h j (by omega)
set_option maxHeartbeats 4000000 in
set_option maxRecDepth 100000 in
/-- turnNegative() -/
theorem c_turnNegative (l : Launch) (D : va_G) (E : Nat → ClassId) (a n : Nat) (f : Nat → Int) (sz sg : Int) (hn : n < 1000) (hf : ∀ j, j < n → -9223372036854775808 ≤ f j ∧ f j ≤ 9223372036854775807) : pw_M rvV l D E yX8_turnNegative wsX8_turnNegative ({ frames := 0, cells := 0, slots := 0, locals := 0 } : Room) [.ref (a)] (fun H => WR D E a n f sz sg H) (fun _ H => WR D E a n (tn f) sz sg H) (fun q => q = a ∨ q = a + 1) (0) (0) := by
  refine pw_of (cc := cX8_turnNegative) (maxL := 3) (ret := none) (by decide +kernel) rfl (Nat.le_of_ble_eq_true rfl) ?_
  intro p e s m args below meth c hx hb hr hml hts hown hlocks hini hK ⟨hO, hL⟩ ls hl
  have hown : s.vm.findClass RX8 = some m.cls := hown
  have hl : lv_has ls 3 [(0, .ref (a))] := hl
  have hS : va_S (fun q => q = a ∨ q = a + 1) s.heap s.heap [] := va_S.rf
  have lk_7 := hts (.fieldLink RX8 7 "PolicyWorks$Whole" "limbs" "[J") (by decide +kernel)
  have kc_44 := hts (.constantLong RX8 44 (1000000)) (by decide +kernel)
  have kc_56 := hts (.constantLong RX8 56 (999999)) (by decide +kernel)
  have hin8 : ∀ w ∈ wsX80, w ∈ wsX8_turnNegative := by decide +kernel
  have loop : ∀ (k i : Nat) (g : Nat → Int) (H : Heap) (locs : List Loc) (ls : Array Slot), i + k = n → (∀ j, j < i → g j = tn f j) → (∀ j, i ≤ j → j < n → g j = f j) → OA D a 8 [.ref (a + 1), .int (iI (sz)), .int (iI (sg))] H → LA E (a + 1) n g H → va_S (fun q => q = a ∨ q = a + 1) s.heap H locs → lv_has ls 3 [(0, .ref (a)), (1, .int (iI (tb f i))), (2, .int (iI ((i : Int))))] → W p l e ({ frames := 0, cells := 0, slots := 0, locals := 0 } : Room) s m args below meth c H locs (0) (0) (MQ below (pw_Q rvV (fun _ H => WR D E a n (tn f) sz sg H) (fun q => q = a ∨ q = a + 1)) args s (0) (0) (fun q => q = a ∨ q = a + 1)) (F0 m 4 ls []) := by
    intro k
    induction k with
    | zero =>
      intro i g H locs ls hi h0 h1 hO hL hS hl
      refine lv_iload_n hx hb dX8_turnNegative_4 rfl (lv_at hl 2 rfl) ?_
      refine lv_aload_n hx hb dX8_turnNegative_5 rfl (lv_at hl 0 rfl) ?_
      refine pw_get (C := RX8) (T := TX8) (N := 3) hx hb hts hin8 hown hK hO rfl 0 (by decide) lk_7 rfl rfl dX8_turnNegative_6 ?_
      refine pw_alen (n := n) (k0 := 1) hx hb hK hL rfl rfl dX8_turnNegative_9 ?_
      refine pw_icmp_ge (tgt := 63) hx hb dX8_turnNegative_10 (by decide) (fun c_10 => ?_) (fun c_10 => absurd c_10 (by omega))
      exact pw_vret hx hb hr hlocks hS ⟨hO, hL.up (fun j hj => h0 j (by omega))⟩ dX8_turnNegative_63
    | succ k ih =>
      intro i g H locs ls hi h0 h1 hO hL hS hl
      have hgi := h1 i (Nat.le_refl i) (by omega)
      have hfi := hf i (by omega)
      have htb := tb_b f i
      have etb : tb f (i + 1) = if tb f i = 1 then 1 else if f i ≠ 0 then 1 else 0 := rfl
      have etn : tn f i = if tb f i = 1 then f i - 999999 else if f i ≠ 0 then f i - 1000000 else f i := rfl
      refine lv_iload_n hx hb dX8_turnNegative_4 rfl (lv_at hl 2 rfl) ?_
      refine lv_aload_n hx hb dX8_turnNegative_5 rfl (lv_at hl 0 rfl) ?_
      refine pw_get (C := RX8) (T := TX8) (N := 3) hx hb hts hin8 hown hK hO rfl 0 (by decide) lk_7 rfl rfl dX8_turnNegative_6 ?_
      refine pw_alen (n := n) (k0 := 1) hx hb hK hL rfl rfl dX8_turnNegative_9 ?_
      refine pw_icmp_ge (tgt := 63) hx hb dX8_turnNegative_10 (by decide) (fun c_10 => absurd c_10 (by omega)) (fun c_10 => ?_)
      refine lv_iload_n hx hb dX8_turnNegative_13 rfl (lv_at hl 1 rfl) ?_
      refine pw_if_eq (tgt := 32) hx hb dX8_turnNegative_14 (by decide) (fun c_14 => ?_) (fun c_14 => ?_)
      · refine lv_aload_n hx hb dX8_turnNegative_32 rfl (lv_at hl 0 rfl) ?_
        refine pw_get (C := RX8) (T := TX8) (N := 3) hx hb hts hin8 hown hK hO rfl 0 (by decide) lk_7 rfl rfl dX8_turnNegative_33 ?_
        refine lv_iload_n hx hb dX8_turnNegative_36 rfl (lv_at hl 2 rfl) ?_
        refine pw_lald hx hb hK hL (i) rfl (by omega) (by omega) dX8_turnNegative_37 ?_
        refine pw_lconst (z := 0) hx hb dX8_turnNegative_38 ?_
        refine pw_lcmp_eq (tgt := 57) hx hb dX8_turnNegative_39 dX8_turnNegative_40 (by decide) (fun c_39 => ?_) (fun c_39 => ?_)
        · refine lv_iinc (v := iI (((i + 1 : Nat) : Int))) (lv' := [(2, .int (iI (((i + 1 : Nat) : Int)))), (0, .ref (a)), (1, .int (iI (tb f i)))]) hx hb dX8_turnNegative_57 hl (k := 2) rfl (by show iI _ + iI _ = _; rw [iI_add]; first | rfl | (congr 1; omega)) (by decide) rfl (fun ls hl => ?_)
          refine lv_goto (tgt := 4) hx hb dX8_turnNegative_60 (by decide) ?_
          have etb2 : tb f (i + 1) = tb f i := by rw [etb, if_neg (by omega), if_neg (by omega)]; omega
          have hl := lv_sub (l' := [(0, .ref (a)), (1, .int (iI (tb f i))), (2, .int (iI (((i + 1 : Nat) : Int))))]) hl [1, 2, 0] rfl
          rw [← etb2] at hl
          exact ih (i + 1) _ _ _ _ (by omega) (fun j hj => ext1 h0 (by rw [etn, if_neg (by omega), if_neg (by omega)]; exact hgi) j hj) (fun j h2 h3 => h1 j (by omega) h3) hO hL hS hl
        · refine lv_aload_n hx hb dX8_turnNegative_43 rfl (lv_at hl 0 rfl) ?_
          refine pw_get (C := RX8) (T := TX8) (N := 3) hx hb hts hin8 hown hK hO rfl 0 (by decide) lk_7 rfl rfl dX8_turnNegative_44 ?_
          refine lv_iload_n hx hb dX8_turnNegative_47 rfl (lv_at hl 2 rfl) ?_
          refine lv_dup2_11 hx hb dX8_turnNegative_48 rfl rfl ?_
          refine pw_lald hx hb hK hL (i) rfl (by omega) (by omega) dX8_turnNegative_49 ?_
          refine pw_ldc2 (z := 1000000) hx hb hown kc_44 (by decide +kernel) dX8_turnNegative_50 ?_
          refine pw_lsub hx hb dX8_turnNegative_53 ?_
          refine pw_last hx hb hK hL hS (Or.inr rfl) (i) rfl (by omega) (by omega) dX8_turnNegative_54 (fun H1 locs1 hnew hz1 oq hS => ?_)
          have hO := hO.k (oq _ (by omega))
          have hL := hnew
          clear hnew oq hz1
          refine pw_iconst hx hb dX8_turnNegative_55 ?_
          refine lv_istore_n (lv' := [(1, .int (iI (1))), (0, .ref (a)), (2, .int (iI ((i : Int))))]) hx hb dX8_turnNegative_56 rfl hl (by decide) rfl (fun ls hl => ?_)
          refine lv_iinc (v := iI (((i + 1 : Nat) : Int))) (lv' := [(2, .int (iI (((i + 1 : Nat) : Int)))), (1, .int (iI (1))), (0, .ref (a))]) hx hb dX8_turnNegative_57 hl (k := 2) rfl (by show iI _ + iI _ = _; rw [iI_add]; first | rfl | (congr 1; omega)) (by decide) rfl (fun ls hl => ?_)
          refine lv_goto (tgt := 4) hx hb dX8_turnNegative_60 (by decide) ?_
          have etb2 : tb f (i + 1) = 1 := by rw [etb, if_neg (by omega), if_pos (by omega)]
          have hl := lv_sub (l' := [(0, .ref (a)), (1, .int (iI (1))), (2, .int (iI (((i + 1 : Nat) : Int))))]) hl [2, 1, 0] rfl
          rw [← etb2] at hl
          exact ih (i + 1) _ _ _ _ (by omega) (fun j hj => ud_ext h0 (by rw [etn, if_neg (by omega), if_pos (by omega), hgi]) j hj) (fun j h2 h3 => by rw [ud_n _ _ (by omega)]; exact h1 j (by omega) h3) hO hL hS hl
      · refine lv_aload_n hx hb dX8_turnNegative_17 rfl (lv_at hl 0 rfl) ?_
        refine pw_get (C := RX8) (T := TX8) (N := 3) hx hb hts hin8 hown hK hO rfl 0 (by decide) lk_7 rfl rfl dX8_turnNegative_18 ?_
        refine lv_iload_n hx hb dX8_turnNegative_21 rfl (lv_at hl 2 rfl) ?_
        refine lv_dup2_11 hx hb dX8_turnNegative_22 rfl rfl ?_
        refine pw_lald hx hb hK hL (i) rfl (by omega) (by omega) dX8_turnNegative_23 ?_
        refine pw_ldc2 (z := 999999) hx hb hown kc_56 (by decide +kernel) dX8_turnNegative_24 ?_
        refine pw_lsub hx hb dX8_turnNegative_27 ?_
        refine pw_last hx hb hK hL hS (Or.inr rfl) (i) rfl (by omega) (by omega) dX8_turnNegative_28 (fun H1 locs1 hnew hz1 oq hS => ?_)
        have hO := hO.k (oq _ (by omega))
        have hL := hnew
        clear hnew oq hz1
        refine lv_goto (tgt := 57) hx hb dX8_turnNegative_29 (by decide) ?_
        refine lv_iinc (v := iI (((i + 1 : Nat) : Int))) (lv' := [(2, .int (iI (((i + 1 : Nat) : Int)))), (0, .ref (a)), (1, .int (iI (tb f i)))]) hx hb dX8_turnNegative_57 hl (k := 2) rfl (by show iI _ + iI _ = _; rw [iI_add]; first | rfl | (congr 1; omega)) (by decide) rfl (fun ls hl => ?_)
        refine lv_goto (tgt := 4) hx hb dX8_turnNegative_60 (by decide) ?_
        have etb2 : tb f (i + 1) = tb f i := by rw [etb, if_pos (by omega)]; omega
        have hl := lv_sub (l' := [(0, .ref (a)), (1, .int (iI (tb f i))), (2, .int (iI (((i + 1 : Nat) : Int))))]) hl [1, 2, 0] rfl
        rw [← etb2] at hl
        exact ih (i + 1) _ _ _ _ (by omega) (fun j hj => ud_ext h0 (by rw [etn, if_pos (by omega), hgi]) j hj) (fun j h2 h3 => by rw [ud_n _ _ (by omega)]; exact h1 j (by omega) h3) hO hL hS hl
  refine pw_iconst hx hb dX8_turnNegative_0 ?_
  refine lv_istore_n (lv' := [(1, .int (iI (0))), (0, .ref (a))]) hx hb dX8_turnNegative_1 rfl hl (by decide) rfl (fun ls hl => ?_)
  refine pw_iconst hx hb dX8_turnNegative_2 ?_
  refine lv_istore_n (lv' := [(2, .int (iI (0))), (1, .int (iI (0))), (0, .ref (a))]) hx hb dX8_turnNegative_3 rfl hl (by decide) rfl (fun ls hl => ?_)
  exact loop n 0 f _ _ _ (by omega) (fun j hj => by omega) (fun j _ _ => rfl) hO hL hS (lv_sub hl [2, 1, 0] rfl)
end
section
/-! the class's whole numbers: settle, clear, put, copy, add, multiply -/
theorem wh_zero {D : va_G} {E : Nat → ClassId} {a n : Nat} {H : Heap} (h : WR D E a n (fun _ => 0) 0 0 H) : WH D E a n 0 H :=
  ⟨0, h.up (fun j _ => (wdig_0 j).symm), Nat.zero_le _, by decide, fun h => absurd h (Nat.lt_irrefl 0)⟩
theorem wv_ud (f : Nat → Int) (i : Nat) (x : Int) : ∀ n : Nat, i < n → wv (ud f i x) n = wv f n + (x - f i) * 1000000 ^ i
  | 0, h => absurd h (Nat.not_lt_zero i)
  | n + 1, h => by
    show wv (ud f i x) n + ud f i x n * _ = wv f n + f n * _ + _
    by_cases e : i = n
    · subst e
      rw [ud_s, wv_congr (g := f) (fun j hj => ud_n f x (by omega)), Int.sub_mul]
      omega
    · rw [wv_ud f i x n (by omega), ud_n f x (by omega)]
      omega
theorem wk_le {v : Int} {m n k : Nat} (h : wk v m k) (hv : v.natAbs < 1000000 ^ n) : k ≤ n := by
  rcases Nat.lt_or_ge n k with hk | hk
  · have h1 := h.2.2 (by omega)
    have h2 := bp_mono (show n ≤ k - 1 by omega)
    omega
  · exact hk
theorem nat_lt {v : Int} {n : Nat} (hv1 : -(1000000 ^ n) < v) (hv2 : v < 1000000 ^ n) : v.natAbs < 1000000 ^ n := by
  have hp := bp_cast n
  have : ((v.natAbs : Nat) : Int) < ((1000000 ^ n : Nat) : Int) := by omega
  exact_mod_cast this
theorem int_lt {v : Int} {n : Nat} (h : v.natAbs < 1000000 ^ n) : -(1000000 ^ n) < v ∧ v < 1000000 ^ n := by
  have hp := bp_cast n
  have : ((v.natAbs : Nat) : Int) < ((1000000 ^ n : Nat) : Int) := by exact_mod_cast h
  omega
theorem wdig_hi {v : Int} {m k j : Nat} (h : wk v m k) (hj : k ≤ j) : wdig v j = 0 := wdig_zero (Nat.lt_of_lt_of_le h.2.1 (bp_mono hj))
section PY
variable {p : Program} {l : Launch} {e : Env} {R : Room} {s : State} {m : MethodId} {args : Array Value} {below : List Frame} {meth : Method} {c : Code} {H : Heap} {locs : List Loc} {cells slots : Nat} {Q : State → Prop}
variable {cc : ByteArray} {pc : Nat} {ls : Array Slot} {rest : List Value} {D : va_G} {E : Nat → ClassId} {A : Nat → Prop} {H0 : Heap}
theorem pw_copyl (hx : p.tables.exec = Jvm.exec) (hb : c.code = cc) (hml : c.maxLocals = ls.size) {own : String} {index : Nat} (hown : s.vm.findClass own = some m.cls) {Ts : List Cond} (hts : ∀ w ∈ Ts, w.before args s = true) (hin : ∀ w ∈ ([.methodLink own index arraycopyName, .native arraycopyName, .static arraycopyName, .initialized "java/lang/System"] : List Cond), w ∈ Ts)
    (hK : KK D E s) {a a0 n0 n1 k : Nat} {f g : Nat → Int} (hA0 : LA E a0 n0 f H) (hA1 : LA E a n1 g H) (hS : va_S A H0 H locs) (hAa : A a) (h4 : k ≤ n0) (h5 : k ≤ n1) (hk : k < 2147483648)
    (hframes : 1 ≤ R.frames) (hlocals : (rest.map fun v => v.category).sum + (nativeFrameWords "java/lang/System" "arraycopy" 5 + 11) ≤ R.locals) (d : decode cc pc = .ok (.invokestatic index, 3))
    (kk : ∀ (H1 : Heap) (locs1 : List Loc), LA E a n1 (fun j => if j < k then f j else g j) H1 → H1.size = H.size → (∀ q : Nat, q ≠ a → H1[q]? = H[q]?) → va_S A H0 H1 locs1 → W p l e R s m args below meth c H1 locs1 cells slots Q (F0 m (pc + 3) ls rest)) : W p l e R s m args below meth c H locs cells slots Q (F0 m pc ls (.int (iI k) :: .int (iI 0) :: .ref a :: .int (iI 0) :: .ref a0 :: rest)) := by
  have hK0 : va_K D vwCl (pw_tys E) s := hK
  have z0 : ¬ iI 0 < 0 := by decide +kernel
  have zc : (iI 0).toNatClampNeg = 0 := by decide +kernel
  have kc : (iI (k : Int)).toNatClampNeg = k := by rw [← iI_nI]; exact nI_clamp hk
  have zk : ¬ iI (k : Int) < 0 := by rw [← iI_nI]; exact nI_pos hk
  have kt : (iI (k : Int)).toInt = (k : Int) := iI_t (by omega) (by omega)
  have zt : (iI 0).toInt = 0 := by decide +kernel
  intro T hT X
  obtain ⟨-, k0, hk0, cm0, hkk0⟩ := (hK0.2 1 _ rfl).1 n0 (fun j => .long (lI (f j)))
  obtain ⟨-, k1, hk1, cm1, hkk1⟩ := (hK0.2 1 _ rfl).1 n1 (fun j => .long (lI (g j)))
  have w1 := hts (.methodLink own index arraycopyName) (hin _ (by simp))
  have w2 := hts (.native arraycopyName) (hin _ (by simp))
  have w3 := hts (.static arraycopyName) (hin _ (by simp))
  have w4 := hts (.initialized "java/lang/System") (hin _ (by simp))
  have h40 : (iI 0).toNatClampNeg + (iI (k : Int)).toNatClampNeg ≤ n0 := by rw [zc, kc]; omega
  obtain ⟨vm', X', step⟩ := X.arraycopy hx hown w1 w2 w3 w4 (src := a0) (dst := a) (cs := vp_cell (E 1) (n0, .inr (.inl (fun j => lI (f j))))) (cd := vp_cell (E 1) (n1, .inr (.inl (fun j => lI (g j))))) (srcPos := iI 0) (destPos := iI 0) (n := iI (k : Int)) (by rw [hT]; exact hA0) (by rw [hT]; exact hA1)
    (fun _ h => by cases h) (fun _ h => by cases h) (fun h => by cases h) (fun h => by cases h) hk0 hk1 hkk0 hkk1 (by rfl) z0 z0 zk
    (by rw [zt, kt]; show ¬ _ > ((arrV (E 1) n0 (fun j => .long (lI (f j)))).slots.size : Int); rw [arrV_size]; omega)
    (by rw [zt, kt]; show ¬ _ > ((arrV (E 1) n1 (fun j => .long (lI (g j)))).slots.size : Int); rw [arrV_size]; omega)
    (fun vm₁ _ i hi => by
      rw [kc] at hi
      rw [zc]
      have e : (vp_cell (E 1) (n0, .inr (.inl (fun j => lI (f j))))).slots.getD (0 + i) .null = .long (lI (f (0 + i))) := by
        show (arrV (E 1) n0 (fun j => .long (lI (f j)))).slots.getD _ _ = _
        rw [Array.getD_eq_getD_getElem?, arrV_read _ _ (by omega)]
        rfl
      refine ⟨?_, ?_⟩
      · rw [e]
        rfl
      · rw [e]
        exact trivial)
    (g := F0 m pc ls (.int (iI (k : Int)) :: .int (iI 0) :: .ref a :: .int (iI 0) :: .ref a0 :: rest)) rfl (by rw [hml]) (rest := rest) rfl (by rw [hb]; exact d) hframes (by show 2 * 0 + _ + _ ≤ _; omega)
  have e1 : copied (vp_cell (E 1) (n0, .inr (.inl (fun j => lI (f j))))) (vp_cell (E 1) (n1, .inr (.inl (fun j => lI (g j))))) (iI 0) (iI 0) (iI (k : Int)) = vp_cell (E 1) (n1, .inr (.inl (va_cpy (fun j => lI (f j)) (fun j => lI (g j)) (iI 0).toNatClampNeg (iI 0).toNatClampNeg (iI (k : Int)).toNatClampNeg))) := va_copied (fun z => .long z) (E 1) (E 1) (fun j => lI (f j)) (fun j => lI (g j)) h40
  have e2 : va_cpy (fun j => lI (f j)) (fun j => lI (g j)) (iI 0).toNatClampNeg (iI 0).toNatClampNeg (iI (k : Int)).toNatClampNeg = fun j => lI (if j < k then f j else g j) := by
    funext j
    rw [zc, kc]
    by_cases h : j < k
    · rw [pk_cpy_in (by omega) (by omega), if_pos h, Nat.zero_add, Nat.sub_zero]
    · rw [pk_cpy_out (by omega), if_neg h]
  rw [e1, e2] at X' step
  have hl : a < H.size := pw_lt hA1
  have hheap : ((T.setVm vm').setCell a (vp_cell (E 1) (n1, .inr (.inl (fun j => lI (if j < k then f j else g j)))))).heap = H.setIfInBounds a (vp_cell (E 1) (n1, .inr (.inl (fun j => lI (if j < k then f j else g j))))) := by rw [← hT]; rfl
  have oq : ∀ q : Nat, q ≠ a → (H.setIfInBounds a (vp_cell (E 1) (n1, .inr (.inl (fun j => lI (if j < k then f j else g j))))))[q]? = H[q]? := fun q hq => by simp [Array.getElem?_setIfInBounds, Ne.symm hq]
  obtain ⟨t, a1, b1⟩ := kk _ _ (show (H.setIfInBounds a _)[a]? = some _ by simp [Array.getElem?_setIfInBounds, hl]) (by simp) oq ⟨by simp; exact hS.1, fun q g1 g2 => by
      rw [oq q (fun e => g2 (by rw [e]; exact hAa))]
      exact hS.2.1 q g1 g2, fun q hq => by
      rcases List.mem_append.mp hq with h | h
      · exact hS.2.2 q h
      · obtain ⟨z, -, hz⟩ := List.mem_map.mp h
        rw [← hz]
        exact hAa⟩ _ hheap X'
  exact ⟨t, step t a1, b1⟩
end PY
set_option maxHeartbeats 4000000 in
set_option maxRecDepth 100000 in
/-- settle(): what is piled up becomes a settled number -/
theorem c_settle (l : Launch) (D : va_G) (E : Nat → ClassId) (a n : Nat) (f : Nat → Int) (sz sg : Int) (hn : n < 1000) (hf : ∀ j, j < n → -9000000000000000000 ≤ f j ∧ f j ≤ 9000000000000000000) (hv1 : -(1000000 ^ n) < wv f n) (hv2 : wv f n < 1000000 ^ n) : pw_M rvV l D E yX8_settle wsX8_settle ({ frames := 1, cells := 0, slots := 0, locals := 25 } : Room) [.ref (a)] (fun H => WR D E a n f sz sg H) (fun _ H => WH D E a n (wv f n) H) (fun q => q = a ∨ q = a + 1) (0) (0) := by
  refine pw_of (cc := cX8_settle) (maxL := 6) (ret := none) (by decide +kernel) rfl (Nat.le_of_ble_eq_true rfl) ?_
  intro p e s m args below meth c hx hb hr hml hts hown hlocks hini hK ⟨hO, hL⟩ ls hl
  have hown : s.vm.findClass RX8 = some m.cls := hown
  have hl : lv_has ls 6 [(0, .ref (a))] := hl
  have hS : va_S (fun q => q = a ∨ q = a + 1) s.heap s.heap [] := va_S.rf
  have lk_7 := hts (.fieldLink RX8 7 "PolicyWorks$Whole" "limbs" "[J") (by decide +kernel)
  have kc_44 := hts (.constantLong RX8 44 (1000000)) (by decide +kernel)
  have hin8 : ∀ w ∈ wsX80, w ∈ wsX8_settle := by decide +kernel
  have loop : ∀ (k i : Nat) (g : Nat → Int) (H : Heap) (locs : List Loc) (ls : Array Slot), i + k = n → (∀ j, j < i → g j = sd f j) → (∀ j, i ≤ j → j < n → g j = f j) → OA D (a) 8 [.ref (a + 1), .int (iI (sz)), .int (iI (sg))] H → LA E (a + 1) n g H → va_S (fun q => q = a ∨ q = a + 1) s.heap H locs → lv_has ls 6 [(0, .ref (a)), (1, .long (lI (sc f i))), (3, .int (iI ((i : Int))))] → W p l e ({ frames := 1, cells := 0, slots := 0, locals := 25 } : Room) s m args below meth c H locs (0) (0) (MQ below (pw_Q rvV (fun _ H => WH D E a n (wv f n) H) (fun q => q = a ∨ q = a + 1)) args s (0) (0) (fun q => q = a ∨ q = a + 1)) (F0 m 4 ls []) := by
    intro k
    induction k with
    | zero =>
      intro i g H locs ls hi h0 h1 hO hL hS hl
      have hL := hL.up (g := sd f) (fun j hj => h0 j (by omega))
      have ein : i = n := by omega
      subst ein
      have hcb := sc_b hf i (Nat.le_refl i)
      refine lv_iload_n hx hb dX8_settle_4 rfl (lv_at hl 2 rfl) ?_
      refine lv_aload_n hx hb dX8_settle_5 rfl (lv_at hl 0 rfl) ?_
      refine pw_get (C := RX8) (T := TX8) (N := 3) hx hb hts hin8 hown hK hO rfl 0 (by decide) lk_7 rfl rfl dX8_settle_6 ?_
      refine pw_alen (n := i) (k0 := 1) hx hb hK hL rfl rfl dX8_settle_9 ?_
      refine pw_icmp_ge (tgt := 52) hx hb dX8_settle_10 (by decide) (fun c_10 => ?_) (fun c_10 => absurd c_10 (by omega))
      refine lv_lload_n hx hb dX8_settle_52 rfl (lv_at hl 1 rfl) ?_
      refine pw_lconst (z := 0) hx hb dX8_settle_53 ?_
      refine pw_lcmp_ge (tgt := 62) hx hb dX8_settle_54 dX8_settle_55 (by decide) (fun c_54 => ?_) (fun c_54 => ?_)
      · refine lv_aload_n hx hb dX8_settle_62 rfl (lv_at hl 0 rfl) ?_
        refine pw_callVv (As := []) (rest := []) ⟨hx, hb, hml, hown, hts⟩ (c_measure l D E a i (sd f) sz sg hn (fun j hj => by have := sd_b f j; omega)) (cwV 0 hts gX8_settle_X8_measure rfl rfl rfl (by decide +kernel) ⟨Nat.le_of_ble_eq_true rfl, Nat.le_of_ble_eq_true rfl⟩) hK hO rfl ⟨hO, hL⟩ rfl hl.1 rfl (by decide) dX8_settle_63 ⟨Nat.zero_le _, Nat.zero_le _⟩ hS (fun q h => h) (fun H1 locs1 ⟨k, hk, h0, h1, hW⟩ hz1 hk1 hS => ?_)
        exact pw_vret hx hb hr hlocks hS (wh_of hv1 hv2 (settle_pos hv1 hv2 c_54) hk h0 h1 hW) dX8_settle_66
      · refine lv_aload_n hx hb dX8_settle_58 rfl (lv_at hl 0 rfl) ?_
        refine pw_callVv (As := []) (rest := []) ⟨hx, hb, hml, hown, hts⟩ (c_turnNegative l D E a i (sd f) sz sg hn (fun j _ => by have := sd_b f j; omega)) (cwV 0 hts gX8_settle_X8_turnNegative rfl rfl rfl (by decide +kernel) ⟨Nat.le_of_ble_eq_true rfl, Nat.le_of_ble_eq_true rfl⟩) hK hO rfl ⟨hO, hL⟩ rfl hl.1 rfl (by decide) dX8_settle_59 ⟨Nat.zero_le _, Nat.zero_le _⟩ hS (fun q h => h) (fun H1 locs1 ⟨hO, hL⟩ hz1 hk1 hS => ?_)
        refine lv_aload_n hx hb dX8_settle_62 rfl (lv_at hl 0 rfl) ?_
        refine pw_callVv (As := []) (rest := []) ⟨hx, hb, hml, hown, hts⟩ (c_measure l D E a i (tn (sd f)) sz sg hn (fun j hj => by have := tn_b (fun j _ => sd_b f j) j hj; omega)) (cwV 0 hts gX8_settle_X8_measure rfl rfl rfl (by decide +kernel) ⟨Nat.le_of_ble_eq_true rfl, Nat.le_of_ble_eq_true rfl⟩) hK hO rfl ⟨hO, hL⟩ rfl hl.1 rfl (by decide) dX8_settle_63 ⟨Nat.zero_le _, Nat.zero_le _⟩ hS (fun q h => h) (fun H1 locs1 ⟨k, hk, h0, h1, hW⟩ hz1 hk1 hS => ?_)
        exact pw_vret hx hb hr hlocks hS (wh_of hv1 hv2 (settle_neg hv1 hv2 c_54) hk h0 h1 hW) dX8_settle_66
    | succ k ih =>
      intro i g H locs ls hi h0 h1 hO hL hS hl
      have hgi := h1 i (Nat.le_refl i) (by omega)
      have hfi := hf i (by omega)
      have hcb := sc_b hf i (by omega)
      refine lv_iload_n hx hb dX8_settle_4 rfl (lv_at hl 2 rfl) ?_
      refine lv_aload_n hx hb dX8_settle_5 rfl (lv_at hl 0 rfl) ?_
      refine pw_get (C := RX8) (T := TX8) (N := 3) hx hb hts hin8 hown hK hO rfl 0 (by decide) lk_7 rfl rfl dX8_settle_6 ?_
      refine pw_alen (n := n) (k0 := 1) hx hb hK hL rfl rfl dX8_settle_9 ?_
      refine pw_icmp_ge (tgt := 52) hx hb dX8_settle_10 (by decide) (fun c_10 => absurd c_10 (by omega)) (fun c_10 => ?_)
      refine lv_aload_n hx hb dX8_settle_13 rfl (lv_at hl 0 rfl) ?_
      refine pw_get (C := RX8) (T := TX8) (N := 3) hx hb hts hin8 hown hK hO rfl 0 (by decide) lk_7 rfl rfl dX8_settle_14 ?_
      refine lv_iload_n hx hb dX8_settle_17 rfl (lv_at hl 2 rfl) ?_
      refine pw_lald hx hb hK hL (i) rfl (by omega) (by omega) dX8_settle_18 ?_
      refine lv_lload_n hx hb dX8_settle_19 rfl (lv_at hl 1 rfl) ?_
      refine pw_ladd hx hb dX8_settle_20 ?_
      refine pw_asl (f i + sc f i) (by rw [hgi]) ?_
      refine lv_lstore (lv' := [(4, .long (lI (f i + sc f i))), (0, .ref (a)), (1, .long (lI (sc f i))), (3, .int (iI ((i : Int))))]) hx hb dX8_settle_21 hl (by decide) rfl (fun ls hl => ?_)
      refine lv_lload hx hb dX8_settle_23 (lv_at hl 0 rfl) ?_
      refine pw_ldc2 (z := 1000000) hx hb hown kc_44 (by decide +kernel) dX8_settle_25 ?_
      refine pw_callSl (As := [.long (lI (f i + sc f i)), .long (lI (1000000))]) (rest := []) ⟨hx, hb, hml, hown, hts⟩ (c_floorDiv l D E (f i + sc f i) 1000000 (by omega) (by omega) (by omega) (by omega)) (va_cwS 2 hts gX8_settle_J9_floorDiv_f86c9 rfl rfl rfl (by decide +kernel) ⟨Nat.le_of_ble_eq_true rfl, Nat.le_of_ble_eq_true rfl⟩) hK trivial rfl hl.1 rfl (by decide) dX8_settle_28 ⟨Nat.zero_le _, Nat.zero_le _⟩ hS (fun q h => h.elim) (fun z H1 locs1 hz hz1 hk1 hS => ?_)
      have hO := hO.k (hk1 _ hO.lt (fun h => h))
      have hL := hL.k (hk1 _ hL.lt (fun h => h))
      have hz : z = sc f (i + 1) := hz.1
      subst hz
      refine lv_lstore_n (lv' := [(1, .long (lI (sc f (i + 1)))), (4, .long (lI (f i + sc f i))), (0, .ref (a)), (3, .int (iI ((i : Int))))]) hx hb dX8_settle_31 rfl hl (by decide) rfl (fun ls hl => ?_)
      refine lv_aload_n hx hb dX8_settle_32 rfl (lv_at hl 2 rfl) ?_
      refine pw_get (C := RX8) (T := TX8) (N := 3) hx hb hts hin8 hown hK hO rfl 0 (by decide) lk_7 rfl rfl dX8_settle_33 ?_
      refine lv_iload_n hx hb dX8_settle_36 rfl (lv_at hl 3 rfl) ?_
      refine lv_lload hx hb dX8_settle_37 (lv_at hl 1 rfl) ?_
      refine lv_lload_n hx hb dX8_settle_39 rfl (lv_at hl 0 rfl) ?_
      refine pw_ldc2 (z := 1000000) hx hb hown kc_44 (by decide +kernel) dX8_settle_40 ?_
      refine pw_lmul hx hb dX8_settle_43 ?_
      refine pw_lsub hx hb dX8_settle_44 ?_
      refine pw_last hx hb hK hL hS (Or.inr rfl) (i) rfl (by omega) (by omega) dX8_settle_45 (fun H1 locs1 hnew hz1 oq hS => ?_)
      have hO := hO.k (oq _ (by omega))
      have hL := hnew
      clear hnew oq hz1
      refine lv_iinc (v := iI (((i + 1 : Nat) : Int))) (lv' := [(3, .int (iI (((i + 1 : Nat) : Int)))), (1, .long (lI (sc f (i + 1)))), (4, .long (lI (f i + sc f i))), (0, .ref (a))]) hx hb dX8_settle_46 hl (k := 3) rfl (by show iI _ + iI _ = _; rw [iI_add]; first | rfl | (congr 1; omega)) (by decide) rfl (fun ls hl => ?_)
      refine lv_goto (tgt := 4) hx hb dX8_settle_49 (by decide) ?_
      exact ih (i + 1) _ _ _ _ (by omega) (fun j hj => ud_ext h0 rfl j hj) (fun j h2 h3 => by rw [ud_n _ _ (by omega)]; exact h1 j (by omega) h3) hO hL hS (lv_sub hl [3, 1, 0] rfl)
  refine pw_lconst (z := 0) hx hb dX8_settle_0 ?_
  refine lv_lstore_n (lv' := [(1, .long (lI (0))), (0, .ref (a))]) hx hb dX8_settle_1 rfl hl (by decide) rfl (fun ls hl => ?_)
  refine pw_iconst hx hb dX8_settle_2 ?_
  refine lv_istore_n (lv' := [(3, .int (iI (0))), (1, .long (lI (0))), (0, .ref (a))]) hx hb dX8_settle_3 rfl hl (by decide) rfl (fun ls hl => ?_)
  exact loop n 0 f _ _ _ (by omega) (fun j hj => by omega) (fun j _ _ => rfl) hO hL hS (lv_sub hl [2, 1, 0] rfl)
set_option maxHeartbeats 4000000 in
set_option maxRecDepth 100000 in
/-- clear() -/
theorem c_clear (l : Launch) (D : va_G) (E : Nat → ClassId) (a n : Nat) (f : Nat → Int) (sz sg : Int) (hn : n < 1000) : pw_M rvV l D E yX8_clear wsX8_clear ({ frames := 1, cells := 0, slots := 0, locals := 24 } : Room) [.ref (a)] (fun H => WR D E a n f sz sg H) (fun _ H => WR D E a n (fun _ => 0) 0 0 H) (fun q => q = a ∨ q = a + 1) (0) (0) := by
  refine pw_of (cc := cX8_clear) (maxL := 1) (ret := none) (by decide +kernel) rfl (Nat.le_of_ble_eq_true rfl) ?_
  intro p e s m args below meth c hx hb hr hml hts hown hlocks hini hK ⟨hO, hL⟩ ls hl
  have hown : s.vm.findClass RX8 = some m.cls := hown
  have hl : lv_has ls 1 [(0, .ref (a))] := hl
  have hS : va_S (fun q => q = a ∨ q = a + 1) s.heap s.heap [] := va_S.rf
  have lk_7 := hts (.fieldLink RX8 7 "PolicyWorks$Whole" "limbs" "[J") (by decide +kernel)
  have lk_13 := hts (.fieldLink RX8 13 "PolicyWorks$Whole" "size" "I") (by decide +kernel)
  have lk_17 := hts (.fieldLink RX8 17 "PolicyWorks$Whole" "sign" "I") (by decide +kernel)
  have hin8 : ∀ w ∈ wsX80, w ∈ wsX8_clear := by decide +kernel
  refine lv_aload_n hx hb dX8_clear_0 rfl (lv_at hl 0 rfl) ?_
  refine pw_get (C := RX8) (T := TX8) (N := 3) hx hb hts hin8 hown hK hO rfl 0 (by decide) lk_7 rfl rfl dX8_clear_1 ?_
  refine pw_lconst (z := 0) hx hb dX8_clear_4 ?_
  refine pw_callSv (As := [.ref (a + 1), .long (lI (0))]) (rest := []) ⟨hx, hb, hml, hown, hts⟩ (c_fillL l D E (a + 1) n f 0 (by omega)) (va_cwS 2 hts gX8_clear_J7_fill_d0a16 rfl rfl rfl (by decide +kernel) ⟨Nat.le_of_ble_eq_true rfl, Nat.le_of_ble_eq_true rfl⟩) hK hL rfl hl.1 rfl (by decide) dX8_clear_5 ⟨Nat.zero_le _, Nat.zero_le _⟩ hS (fun q h => Or.inr h) (fun H1 locs1 hL hz1 hk1 hS => ?_)
  have hO := hO.k (hk1 _ hO.lt (by (try dsimp only); omega))
  refine lv_aload_n hx hb dX8_clear_8 rfl (lv_at hl 0 rfl) ?_
  refine pw_iconst hx hb dX8_clear_9 ?_
  refine pw_put (C := RX8) (T := TX8) (N := 3) hx hb hts hin8 tyX8 tyX8_ok nmX8 hown hK hO hS (Or.inl rfl) rfl 1 (by decide) lk_13 rfl rfl rfl rfl (by show _ < 3; decide) dX8_clear_10 (fun H1 locs1 hnew hz1 oq hS => ?_)
  have hL := hL.k (oq _ (by omega))
  have hO : OA D (a) 8 [.ref (a + 1), .int (iI (0)), .int (iI (sg))] H1 := hnew
  clear hnew oq hz1
  refine lv_aload_n hx hb dX8_clear_13 rfl (lv_at hl 0 rfl) ?_
  refine pw_iconst hx hb dX8_clear_14 ?_
  refine pw_put (C := RX8) (T := TX8) (N := 3) hx hb hts hin8 tyX8 tyX8_ok nmX8 hown hK hO hS (Or.inl rfl) rfl 2 (by decide) lk_17 rfl rfl rfl rfl (by show _ < 3; decide) dX8_clear_15 (fun H1 locs1 hnew hz1 oq hS => ?_)
  have hL := hL.k (oq _ (by omega))
  have hO : OA D (a) 8 [.ref (a + 1), .int (iI (0)), .int (iI (0))] H1 := hnew
  clear hnew oq hz1
  exact pw_vret hx hb hr hlocks hS ⟨hO, hL⟩ dX8_clear_18
set_option maxHeartbeats 4000000 in
set_option maxRecDepth 100000 in
/-- put(x) -/
theorem c_put (l : Launch) (D : va_G) (E : Nat → ClassId) (a n : Nat) (f : Nat → Int) (sz sg x : Int) (hn : n < 1000) (hn0 : 0 < n) (hx1 : -9000000000000000000 ≤ x) (hx2 : x ≤ 9000000000000000000) (hv1 : -(1000000 ^ n) < x) (hv2 : x < 1000000 ^ n) : pw_M rvV l D E yX8_put wsX8_put ({ frames := 2, cells := 0, slots := 0, locals := 50 } : Room) [.ref (a), .long (lI (x))] (fun H => WR D E a n f sz sg H) (fun _ H => WH D E a n x H) (fun q => q = a ∨ q = a + 1) (0) (0) := by
  refine pw_of (cc := cX8_put) (maxL := 3) (ret := none) (by decide +kernel) rfl (Nat.le_of_ble_eq_true rfl) ?_
  intro p e s m args below meth c hx hb hr hml hts hown hlocks hini hK ⟨hO, hL⟩ ls hl
  have hown : s.vm.findClass RX8 = some m.cls := hown
  have hl : lv_has ls 3 [(0, .ref (a)), (1, .long (lI (x)))] := hl
  have hS : va_S (fun q => q = a ∨ q = a + 1) s.heap s.heap [] := va_S.rf
  have lk_7 := hts (.fieldLink RX8 7 "PolicyWorks$Whole" "limbs" "[J") (by decide +kernel)
  have hin8 : ∀ w ∈ wsX80, w ∈ wsX8_put := by decide +kernel
  have ev : wv (ud (fun _ => 0) 0 x) n = x := by rw [wv_ud _ 0 x n hn0, wv_zero]; simp
  refine lv_aload_n hx hb dX8_put_0 rfl (lv_at hl 0 rfl) ?_
  refine pw_callVv (As := []) (rest := []) ⟨hx, hb, hml, hown, hts⟩ (c_clear l D E a n f sz sg hn) (cwV 0 hts gX8_put_X8_clear rfl rfl rfl (by decide +kernel) ⟨Nat.le_of_ble_eq_true rfl, Nat.le_of_ble_eq_true rfl⟩) hK hO rfl ⟨hO, hL⟩ rfl hl.1 rfl (by decide) dX8_put_1 ⟨Nat.zero_le _, Nat.zero_le _⟩ hS (fun q h => h) (fun H1 locs1 ⟨hO, hL⟩ hz1 hk1 hS => ?_)
  refine lv_aload_n hx hb dX8_put_4 rfl (lv_at hl 0 rfl) ?_
  refine pw_get (C := RX8) (T := TX8) (N := 3) hx hb hts hin8 hown hK hO rfl 0 (by decide) lk_7 rfl rfl dX8_put_5 ?_
  refine pw_iconst hx hb dX8_put_8 ?_
  refine lv_lload_n hx hb dX8_put_9 rfl (lv_at hl 1 rfl) ?_
  refine pw_last hx hb hK hL hS (Or.inr rfl) (0) rfl (by omega) (by omega) dX8_put_10 (fun H1 locs1 hnew hz1 oq hS => ?_)
  have hO := hO.k (oq _ (by omega))
  have hL := hnew
  clear hnew oq hz1
  refine lv_aload_n hx hb dX8_put_11 rfl (lv_at hl 0 rfl) ?_
  refine pw_callVv (As := []) (rest := []) ⟨hx, hb, hml, hown, hts⟩ (c_settle l D E a n (ud (fun _ => 0) 0 x) 0 0 hn (fun j _ => by simp only [ud]; split <;> omega) (by rw [ev]; exact hv1) (by rw [ev]; exact hv2)) (cwV 0 hts gX8_put_X8_settle rfl rfl rfl (by decide +kernel) ⟨Nat.le_of_ble_eq_true rfl, Nat.le_of_ble_eq_true rfl⟩) hK hO rfl ⟨hO, hL⟩ rfl hl.1 rfl (by decide) dX8_put_12 ⟨Nat.zero_le _, Nat.zero_le _⟩ hS (fun q h => h) (fun H1 locs1 hW hz1 hk1 hS => ?_)
  rw [ev] at hW
  exact pw_vret hx hb hr hlocks hS hW dX8_put_15
set_option maxHeartbeats 4000000 in
set_option maxRecDepth 100000 in
/-- add(more, times): piles up -/
theorem c_add (l : Launch) (D : va_G) (E : Nat → ClassId) (a n b nb : Nat) (f : Nat → Int) (sz sg v t : Int) (hn : n < 1000) (hnb : nb < 1000) (hab : a + 1 < b ∨ b + 1 < a) : pw_M rvV l D E yX8_add wsX8_add ({ frames := 1, cells := 0, slots := 0, locals := 40 } : Room) [.ref (a), .ref (b), .long (lI (t))] (fun H => WR D E a n f sz sg H ∧ WH D E b nb v H) (fun _ H => WR D E a n (fun j => f j + t * wdig v j) sz sg H) (fun q => q = a ∨ q = a + 1) (0) (0) := by
  refine pw_of (cc := cX8_add) (maxL := 6) (ret := none) (by decide +kernel) rfl (Nat.le_of_ble_eq_true rfl) ?_
  intro p e s m args below meth c hx hb hr hml hts hown hlocks hini hK ⟨⟨hO, hL⟩, kb, ⟨hOb, hLb⟩, hkb⟩ ls hl
  have hown : s.vm.findClass RX8 = some m.cls := hown
  have hl : lv_has ls 6 [(0, .ref (a)), (1, .ref (b)), (2, .long (lI (t)))] := hl
  have hS : va_S (fun q => q = a ∨ q = a + 1) s.heap s.heap [] := va_S.rf
  have lk_7 := hts (.fieldLink RX8 7 "PolicyWorks$Whole" "limbs" "[J") (by decide +kernel)
  have lk_13 := hts (.fieldLink RX8 13 "PolicyWorks$Whole" "size" "I") (by decide +kernel)
  have hin8 : ∀ w ∈ wsX80, w ∈ wsX8_add := by decide +kernel
  have hkb1 := hkb.1
  have loop : ∀ (k i : Nat) (g : Nat → Int) (H : Heap) (locs : List Loc) (ls : Array Slot), i + k = min kb n → (∀ j, j < i → g j = f j + t * wdig v j) → (∀ j, i ≤ j → j < n → g j = f j) → OA D (a) 8 [.ref (a + 1), .int (iI (sz)), .int (iI (sg))] H → LA E (a + 1) n g H → OA D (b) 8 [.ref (b + 1), .int (iI ((kb : Int))), .int (iI (v.sign))] H → LA E (b + 1) nb (wdig v) H → va_S (fun q => q = a ∨ q = a + 1) s.heap H locs → lv_has ls 6 [(0, .ref (a)), (1, .ref (b)), (2, .long (lI (t))), (4, .int (iI (min (kb : Int) (n : Int)))), (5, .int (iI ((i : Int))))] → W p l e ({ frames := 1, cells := 0, slots := 0, locals := 40 } : Room) s m args below meth c H locs (0) (0) (MQ below (pw_Q rvV (fun _ H => WR D E a n (fun j => f j + t * wdig v j) sz sg H) (fun q => q = a ∨ q = a + 1)) args s (0) (0) (fun q => q = a ∨ q = a + 1)) (F0 m 17 ls []) := by
    intro k
    induction k with
    | zero =>
      intro i g H locs ls hi h0 h1 hO hL hOb hLb hS hl
      refine lv_iload hx hb dX8_add_17 (lv_at hl 4 rfl) ?_
      refine lv_iload hx hb dX8_add_19 (lv_at hl 3 rfl) ?_
      refine pw_icmp_ge (tgt := 49) hx hb dX8_add_21 (by decide) (fun c_21 => ?_) (fun c_21 => absurd c_21 (by omega))
      exact pw_vret hx hb hr hlocks hS ⟨hO, hL.up (fun j hj => by
        by_cases e : j < i
        · exact h0 j e
        · rw [h1 j (by omega) hj, wdig_hi hkb (by omega)]; omega)⟩ dX8_add_49
    | succ k ih =>
      intro i g H locs ls hi h0 h1 hO hL hOb hLb hS hl
      have hgi := h1 i (Nat.le_refl i) (by omega)
      refine lv_iload hx hb dX8_add_17 (lv_at hl 4 rfl) ?_
      refine lv_iload hx hb dX8_add_19 (lv_at hl 3 rfl) ?_
      refine pw_icmp_ge (tgt := 49) hx hb dX8_add_21 (by decide) (fun c_21 => absurd c_21 (by omega)) (fun c_21 => ?_)
      refine lv_aload_n hx hb dX8_add_24 rfl (lv_at hl 0 rfl) ?_
      refine pw_get (C := RX8) (T := TX8) (N := 3) hx hb hts hin8 hown hK hO rfl 0 (by decide) lk_7 rfl rfl dX8_add_25 ?_
      refine lv_iload hx hb dX8_add_28 (lv_at hl 4 rfl) ?_
      refine lv_dup2_11 hx hb dX8_add_30 rfl rfl ?_
      refine pw_lald hx hb hK hL (i) rfl (by omega) (by omega) dX8_add_31 ?_
      refine pw_asl (f i) hgi ?_
      refine lv_lload_n hx hb dX8_add_32 rfl (lv_at hl 2 rfl) ?_
      refine lv_aload_n hx hb dX8_add_33 rfl (lv_at hl 1 rfl) ?_
      refine pw_get (C := RX8) (T := TX8) (N := 3) hx hb hts hin8 hown hK hOb rfl 0 (by decide) lk_7 rfl rfl dX8_add_34 ?_
      refine lv_iload hx hb dX8_add_37 (lv_at hl 4 rfl) ?_
      refine pw_lald hx hb hK hLb (i) rfl (by omega) (by omega) dX8_add_39 ?_
      refine pw_lmul hx hb dX8_add_40 ?_
      refine pw_ladd hx hb dX8_add_41 ?_
      refine pw_last hx hb hK hL hS (Or.inr rfl) (i) rfl (by omega) (by omega) dX8_add_42 (fun H1 locs1 hnew hz1 oq hS => ?_)
      have hO := hO.k (oq _ (by omega))
      have hOb := hOb.k (oq _ (by omega))
      have hLb := hLb.k (oq _ (by omega))
      have hL := hnew
      clear hnew oq hz1
      refine lv_iinc (v := iI (((i + 1 : Nat) : Int))) (lv' := [(5, .int (iI (((i + 1 : Nat) : Int)))), (0, .ref (a)), (1, .ref (b)), (2, .long (lI (t))), (4, .int (iI (min (kb : Int) (n : Int))))]) hx hb dX8_add_43 hl (k := 4) rfl (by show iI _ + iI _ = _; rw [iI_add]; first | rfl | (congr 1; omega)) (by decide) rfl (fun ls hl => ?_)
      refine lv_goto (tgt := 17) hx hb dX8_add_46 (by decide) ?_
      exact ih (i + 1) _ _ _ _ (by omega) (fun j hj => ud_ext h0 rfl j hj) (fun j h2 h3 => by rw [ud_n _ _ (by omega)]; exact h1 j (by omega) h3) hO hL hOb hLb hS (lv_sub hl [1, 2, 3, 4, 0] rfl)
  refine lv_aload_n hx hb dX8_add_0 rfl (lv_at hl 1 rfl) ?_
  refine pw_get (C := RX8) (T := TX8) (N := 3) hx hb hts hin8 hown hK hOb rfl 1 (by decide) lk_13 rfl rfl dX8_add_1 ?_
  refine lv_aload_n hx hb dX8_add_4 rfl (lv_at hl 0 rfl) ?_
  refine pw_get (C := RX8) (T := TX8) (N := 3) hx hb hts hin8 hown hK hO rfl 0 (by decide) lk_7 rfl rfl dX8_add_5 ?_
  refine pw_alen (n := n) (k0 := 1) hx hb hK hL rfl rfl dX8_add_8 ?_
  refine pw_mmin hx hb (hml.trans hl.1.symm) hown hts (by decide +kernel) (Nat.le_of_ble_eq_true rfl) (Nat.le_of_ble_eq_true rfl) (Nat.le_of_ble_eq_true rfl) (Nat.le_of_ble_eq_true rfl) dX8_add_9 ?_
  refine lv_istore (lv' := [(4, .int (iI (min ((kb : Int)) ((n : Int))))), (0, .ref (a)), (1, .ref (b)), (2, .long (lI (t)))]) hx hb dX8_add_12 hl (by decide) rfl (fun ls hl => ?_)
  refine pw_iconst hx hb dX8_add_14 ?_
  refine lv_istore (lv' := [(5, .int (iI (0))), (4, .int (iI (min ((kb : Int)) ((n : Int))))), (0, .ref (a)), (1, .ref (b)), (2, .long (lI (t)))]) hx hb dX8_add_15 hl (by decide) rfl (fun ls hl => ?_)
  exact loop (min kb n) 0 f _ _ _ (by omega) (fun j hj => by omega) (fun j _ _ => rfl) hO hL hOb hLb hS (lv_sub hl [2, 3, 4, 1, 0] rfl)
set_option maxHeartbeats 4000000 in
set_option maxRecDepth 100000 in
/-- multiply(t) -/
theorem c_multiply (l : Launch) (D : va_G) (E : Nat → ClassId) (a n : Nat) (v t : Int) (hn : n < 1000) (ht1 : -9000000000000 ≤ t) (ht2 : t ≤ 9000000000000) (hv1 : -(1000000 ^ n) < v * t) (hv2 : v * t < 1000000 ^ n) : pw_M rvV l D E yX8_multiply wsX8_multiply ({ frames := 2, cells := 0, slots := 0, locals := 50 } : Room) [.ref (a), .long (lI (t))] (fun H => WH D E a n v H) (fun _ H => WH D E a n (v * t) H) (fun q => q = a ∨ q = a + 1) (0) (0) := by
  refine pw_of (cc := cX8_multiply) (maxL := 4) (ret := none) (by decide +kernel) rfl (Nat.le_of_ble_eq_true rfl) ?_
  intro p e s m args below meth c hx hb hr hml hts hown hlocks hini hK ⟨ka, ⟨hO, hL⟩, hka⟩ ls hl
  have hown : s.vm.findClass RX8 = some m.cls := hown
  have hl : lv_has ls 4 [(0, .ref (a)), (1, .long (lI (t)))] := hl
  have hS : va_S (fun q => q = a ∨ q = a + 1) s.heap s.heap [] := va_S.rf
  have lk_7 := hts (.fieldLink RX8 7 "PolicyWorks$Whole" "limbs" "[J") (by decide +kernel)
  have lk_13 := hts (.fieldLink RX8 13 "PolicyWorks$Whole" "size" "I") (by decide +kernel)
  have hin8 : ∀ w ∈ wsX80, w ∈ wsX8_multiply := by decide +kernel
  have hka1 := hka.1
  have ev : wv (fun j => wdig v j * t) n = v * t := by rw [wv_mul, wv_wdig (wh_bound hka)]
  have hbd : ∀ j, -9000000000000000000 ≤ wdig v j * t ∧ wdig v j * t ≤ 9000000000000000000 := fun j => by
    have h1 := wdig_b v j
    have h2 : (wdig v j * t).natAbs ≤ 1000000 * 9000000000000 := by rw [Int.natAbs_mul]; exact Nat.mul_le_mul (by omega) (by omega)
    omega
  have loop : ∀ (k i : Nat) (g : Nat → Int) (H : Heap) (locs : List Loc) (ls : Array Slot), i + k = ka → (∀ j, j < i → g j = wdig v j * t) → (∀ j, i ≤ j → j < n → g j = wdig v j) → OA D (a) 8 [.ref (a + 1), .int (iI ((ka : Int))), .int (iI (v.sign))] H → LA E (a + 1) n g H → va_S (fun q => q = a ∨ q = a + 1) s.heap H locs → lv_has ls 4 [(0, .ref (a)), (1, .long (lI (t))), (3, .int (iI ((i : Int))))] → W p l e ({ frames := 2, cells := 0, slots := 0, locals := 50 } : Room) s m args below meth c H locs (0) (0) (MQ below (pw_Q rvV (fun _ H => WH D E a n (v * t) H) (fun q => q = a ∨ q = a + 1)) args s (0) (0) (fun q => q = a ∨ q = a + 1)) (F0 m 2 ls []) := by
    intro k
    induction k with
    | zero =>
      intro i g H locs ls hi h0 h1 hO hL hS hl
      have hL := hL.up (g := fun j => wdig v j * t) (fun j hj => by
        by_cases e : j < i
        · exact h0 j e
        · rw [h1 j (by omega) hj, wdig_hi hka (by omega)]; omega)
      refine lv_iload_n hx hb dX8_multiply_2 rfl (lv_at hl 2 rfl) ?_
      refine lv_aload_n hx hb dX8_multiply_3 rfl (lv_at hl 0 rfl) ?_
      refine pw_get (C := RX8) (T := TX8) (N := 3) hx hb hts hin8 hown hK hO rfl 1 (by decide) lk_13 rfl rfl dX8_multiply_4 ?_
      refine pw_icmp_ge (tgt := 26) hx hb dX8_multiply_7 (by decide) (fun c_7 => ?_) (fun c_7 => absurd c_7 (by omega))
      refine lv_aload_n hx hb dX8_multiply_26 rfl (lv_at hl 0 rfl) ?_
      refine pw_callVv (As := []) (rest := []) ⟨hx, hb, hml, hown, hts⟩ (c_settle l D E a n (fun j => wdig v j * t) ka v.sign hn (fun j _ => hbd j) (by rw [ev]; exact hv1) (by rw [ev]; exact hv2)) (cwV 0 hts gX8_multiply_X8_settle rfl rfl rfl (by decide +kernel) ⟨Nat.le_of_ble_eq_true rfl, Nat.le_of_ble_eq_true rfl⟩) hK hO rfl ⟨hO, hL⟩ rfl hl.1 rfl (by decide) dX8_multiply_27 ⟨Nat.zero_le _, Nat.zero_le _⟩ hS (fun q h => h) (fun H1 locs1 hW hz1 hk1 hS => ?_)
      rw [ev] at hW
      exact pw_vret hx hb hr hlocks hS hW dX8_multiply_30
    | succ k ih =>
      intro i g H locs ls hi h0 h1 hO hL hS hl
      have hgi := h1 i (Nat.le_refl i) (by omega)
      refine lv_iload_n hx hb dX8_multiply_2 rfl (lv_at hl 2 rfl) ?_
      refine lv_aload_n hx hb dX8_multiply_3 rfl (lv_at hl 0 rfl) ?_
      refine pw_get (C := RX8) (T := TX8) (N := 3) hx hb hts hin8 hown hK hO rfl 1 (by decide) lk_13 rfl rfl dX8_multiply_4 ?_
      refine pw_icmp_ge (tgt := 26) hx hb dX8_multiply_7 (by decide) (fun c_7 => absurd c_7 (by omega)) (fun c_7 => ?_)
      refine lv_aload_n hx hb dX8_multiply_10 rfl (lv_at hl 0 rfl) ?_
      refine pw_get (C := RX8) (T := TX8) (N := 3) hx hb hts hin8 hown hK hO rfl 0 (by decide) lk_7 rfl rfl dX8_multiply_11 ?_
      refine lv_iload_n hx hb dX8_multiply_14 rfl (lv_at hl 2 rfl) ?_
      refine lv_dup2_11 hx hb dX8_multiply_15 rfl rfl ?_
      refine pw_lald hx hb hK hL (i) rfl (by omega) (by omega) dX8_multiply_16 ?_
      refine pw_asl (wdig v i) hgi ?_
      refine lv_lload_n hx hb dX8_multiply_17 rfl (lv_at hl 1 rfl) ?_
      refine pw_lmul hx hb dX8_multiply_18 ?_
      refine pw_last hx hb hK hL hS (Or.inr rfl) (i) rfl (by omega) (by omega) dX8_multiply_19 (fun H1 locs1 hnew hz1 oq hS => ?_)
      have hO := hO.k (oq _ (by omega))
      have hL := hnew
      clear hnew oq hz1
      refine lv_iinc (v := iI (((i + 1 : Nat) : Int))) (lv' := [(3, .int (iI (((i + 1 : Nat) : Int)))), (0, .ref (a)), (1, .long (lI (t)))]) hx hb dX8_multiply_20 hl (k := 2) rfl (by show iI _ + iI _ = _; rw [iI_add]; first | rfl | (congr 1; omega)) (by decide) rfl (fun ls hl => ?_)
      refine lv_goto (tgt := 2) hx hb dX8_multiply_23 (by decide) ?_
      exact ih (i + 1) _ _ _ _ (by omega) (fun j hj => ud_ext h0 rfl j hj) (fun j h2 h3 => by rw [ud_n _ _ (by omega)]; exact h1 j (by omega) h3) hO hL hS (lv_sub hl [1, 2, 0] rfl)
  refine pw_iconst hx hb dX8_multiply_0 ?_
  refine lv_istore_n (lv' := [(3, .int (iI (0))), (0, .ref (a)), (1, .long (lI (t)))]) hx hb dX8_multiply_1 rfl hl (by decide) rfl (fun ls hl => ?_)
  exact loop ka 0 _ _ _ _ (by omega) (fun j hj => by omega) (fun j _ _ => rfl) hO hL hS (lv_sub hl [1, 2, 0] rfl)
set_option maxHeartbeats 4000000 in
set_option maxRecDepth 100000 in
/-- copy(from) -/
theorem c_copy (l : Launch) (D : va_G) (E : Nat → ClassId) (a n b nb : Nat) (f : Nat → Int) (sz sg v : Int) (hn : n < 1000) (hnb : nb < 1000) (hab : a + 1 < b ∨ b + 1 < a) (hv1 : -(1000000 ^ n) < v) (hv2 : v < 1000000 ^ n) : pw_M rvV l D E yX8_copy wsX8_copy ({ frames := 2, cells := 0, slots := 0, locals := 44 } : Room) [.ref (a), .ref (b)] (fun H => WR D E a n f sz sg H ∧ WH D E b nb v H) (fun _ H => WH D E a n v H) (fun q => q = a ∨ q = a + 1) (0) (0) := by
  refine pw_of (cc := cX8_copy) (maxL := 2) (ret := none) (by decide +kernel) rfl (Nat.le_of_ble_eq_true rfl) ?_
  intro p e s m args below meth c hx hb hr hml hts hown hlocks hini hK ⟨⟨hO, hL⟩, kb, ⟨hOb, hLb⟩, hkb⟩ ls hl
  have hown : s.vm.findClass RX8 = some m.cls := hown
  have hl : lv_has ls 2 [(0, .ref (a)), (1, .ref (b))] := hl
  have hS : va_S (fun q => q = a ∨ q = a + 1) s.heap s.heap [] := va_S.rf
  have lk_7 := hts (.fieldLink RX8 7 "PolicyWorks$Whole" "limbs" "[J") (by decide +kernel)
  have lk_13 := hts (.fieldLink RX8 13 "PolicyWorks$Whole" "size" "I") (by decide +kernel)
  have lk_17 := hts (.fieldLink RX8 17 "PolicyWorks$Whole" "sign" "I") (by decide +kernel)
  have hin8 : ∀ w ∈ wsX80, w ∈ wsX8_copy := by decide +kernel
  have hkb1 := hkb.1
  have hkn := wk_le hkb (nat_lt hv1 hv2)
  have emin : min (kb : Int) (n : Int) = kb := by omega
  refine lv_aload_n hx hb dX8_copy_0 rfl (lv_at hl 0 rfl) ?_
  refine pw_callVv (As := []) (rest := []) ⟨hx, hb, hml, hown, hts⟩ (c_clear l D E a n f sz sg hn) (cwV 0 hts gX8_copy_X8_clear rfl rfl rfl (by decide +kernel) ⟨Nat.le_of_ble_eq_true rfl, Nat.le_of_ble_eq_true rfl⟩) hK hO rfl ⟨hO, hL⟩ rfl hl.1 rfl (by decide) dX8_copy_1 ⟨Nat.zero_le _, Nat.zero_le _⟩ hS (fun q h => h) (fun H1 locs1 ⟨hO, hL⟩ hz1 hk1 hS => ?_)
  have hOb := hOb.k (hk1 _ hOb.lt (by (try dsimp only); omega))
  have hLb := hLb.k (hk1 _ hLb.lt (by (try dsimp only); omega))
  refine lv_aload_n hx hb dX8_copy_4 rfl (lv_at hl 0 rfl) ?_
  refine lv_aload_n hx hb dX8_copy_5 rfl (lv_at hl 1 rfl) ?_
  refine pw_get (C := RX8) (T := TX8) (N := 3) hx hb hts hin8 hown hK hOb rfl 1 (by decide) lk_13 rfl rfl dX8_copy_6 ?_
  refine lv_aload_n hx hb dX8_copy_9 rfl (lv_at hl 0 rfl) ?_
  refine pw_get (C := RX8) (T := TX8) (N := 3) hx hb hts hin8 hown hK hO rfl 0 (by decide) lk_7 rfl rfl dX8_copy_10 ?_
  refine pw_alen (n := n) (k0 := 1) hx hb hK hL rfl rfl dX8_copy_13 ?_
  refine pw_mmin hx hb (hml.trans hl.1.symm) hown hts (by decide +kernel) (Nat.le_of_ble_eq_true rfl) (Nat.le_of_ble_eq_true rfl) (Nat.le_of_ble_eq_true rfl) (Nat.le_of_ble_eq_true rfl) dX8_copy_14 ?_
  refine pw_asi ((kb : Int)) emin ?_
  refine pw_put (C := RX8) (T := TX8) (N := 3) hx hb hts hin8 tyX8 tyX8_ok nmX8 hown hK hO hS (Or.inl rfl) rfl 1 (by decide) lk_13 rfl rfl rfl rfl (by show _ < 3; decide) dX8_copy_17 (fun H1 locs1 hnew hz1 oq hS => ?_)
  have hL := hL.k (oq _ (by omega))
  have hOb := hOb.k (oq _ (by omega))
  have hLb := hLb.k (oq _ (by omega))
  have hO : OA D (a) 8 [.ref (a + 1), .int (iI ((kb : Int))), .int (iI (0))] H1 := hnew
  clear hnew oq hz1
  refine lv_aload_n hx hb dX8_copy_20 rfl (lv_at hl 1 rfl) ?_
  refine pw_get (C := RX8) (T := TX8) (N := 3) hx hb hts hin8 hown hK hOb rfl 0 (by decide) lk_7 rfl rfl dX8_copy_21 ?_
  refine pw_iconst hx hb dX8_copy_24 ?_
  refine lv_aload_n hx hb dX8_copy_25 rfl (lv_at hl 0 rfl) ?_
  refine pw_get (C := RX8) (T := TX8) (N := 3) hx hb hts hin8 hown hK hO rfl 0 (by decide) lk_7 rfl rfl dX8_copy_26 ?_
  refine pw_iconst hx hb dX8_copy_29 ?_
  refine lv_aload_n hx hb dX8_copy_30 rfl (lv_at hl 0 rfl) ?_
  refine pw_get (C := RX8) (T := TX8) (N := 3) hx hb hts hin8 hown hK hO rfl 1 (by decide) lk_13 rfl rfl dX8_copy_31 ?_
  refine pw_copyl hx hb (hml.trans hl.1.symm) hown hts (by decide +kernel) hK hLb hL hS (Or.inr rfl) (k := kb) (by omega) (by omega) (by omega) (Nat.le_of_ble_eq_true rfl) (Nat.le_of_ble_eq_true rfl) dX8_copy_34 (fun H1 locs1 hnew hz1 oq hS => ?_)
  have hO := hO.k (oq _ (by omega))
  have hOb := hOb.k (oq _ (by omega))
  have hLb := hLb.k (oq _ (by omega))
  have hL := hnew
  clear hnew oq hz1
  refine lv_aload_n hx hb dX8_copy_37 rfl (lv_at hl 0 rfl) ?_
  refine lv_aload_n hx hb dX8_copy_38 rfl (lv_at hl 1 rfl) ?_
  refine pw_get (C := RX8) (T := TX8) (N := 3) hx hb hts hin8 hown hK hOb rfl 2 (by decide) lk_17 rfl rfl dX8_copy_39 ?_
  refine pw_put (C := RX8) (T := TX8) (N := 3) hx hb hts hin8 tyX8 tyX8_ok nmX8 hown hK hO hS (Or.inl rfl) rfl 2 (by decide) lk_17 rfl rfl rfl rfl (by show _ < 3; decide) dX8_copy_42 (fun H1 locs1 hnew hz1 oq hS => ?_)
  have hL := hL.k (oq _ (by omega))
  have hOb := hOb.k (oq _ (by omega))
  have hLb := hLb.k (oq _ (by omega))
  have hO : OA D (a) 8 [.ref (a + 1), .int (iI ((kb : Int))), .int (iI (v.sign))] H1 := hnew
  clear hnew oq hz1
  exact pw_vret hx hb hr hlocks hS ⟨kb, ⟨hO, hL.up (fun j hj => by
    by_cases e : j < kb
    · rw [if_pos e]
    · rw [if_neg e, wdig_hi hkb (by omega)])⟩, hkn, hkb.2⟩ dX8_copy_45
end
section
/-! the class's whole numbers: product, dropSign, compare -/
theorem bp_add (a b : Nat) : (1000000 : Int) ^ (a + b) = 1000000 ^ a * 1000000 ^ b := Int.pow_add _ _ _
theorem wk_mul {v w : Int} {m1 m2 k1 k2 n : Nat} (h1 : wk v m1 k1) (h2 : wk w m2 k2) (hv : (v * w).natAbs < 1000000 ^ n) : k1 = 0 ∨ k2 = 0 ∨ k1 + k2 ≤ n + 1 := by
  by_cases e1 : k1 = 0
  · exact Or.inl e1
  · by_cases e2 : k2 = 0
    · exact Or.inr (Or.inl e2)
    · refine Or.inr (Or.inr ?_)
      have a1 := h1.2.2 (by omega)
      have a2 := h2.2.2 (by omega)
      rw [Int.natAbs_mul] at hv
      have a3 : 1000000 ^ (k1 - 1) * 1000000 ^ (k2 - 1) ≤ v.natAbs * w.natAbs := Nat.mul_le_mul a1 a2
      rw [← Nat.pow_add] at a3
      have a4 : 1000000 ^ (k1 - 1 + (k2 - 1)) < 1000000 ^ n := Nat.lt_of_le_of_lt a3 hv
      have a5 := (Nat.pow_lt_pow_iff_right (a := 1000000) (by omega)).mp a4
      omega
theorem mul_b {x y : Int} (hx : -1000000 < x ∧ x < 1000000) (hy : -1000000 < y ∧ y < 1000000) : -1000000000000 ≤ x * y ∧ x * y ≤ 1000000000000 := by
  have h : (x * y).natAbs ≤ 1000000 * 1000000 := by rw [Int.natAbs_mul]; exact Nat.mul_le_mul (by omega) (by omega)
  omega
theorem wdig_abs {v : Int} (h : v < 0) (j : Nat) : wdig (v.natAbs : Int) j = - wdig v j := by
  unfold wdig
  rw [if_pos h, if_neg (by omega), Int.natAbs_natCast]
  omega
theorem abs_pos {v : Int} (h : 0 ≤ v) : (v.natAbs : Int) = v := by omega
theorem wv_tail {f g : Nat → Int} {k : Nat} : ∀ {n : Nat}, k ≤ n → (∀ j, k ≤ j → j < n → f j = g j) → wv f n - wv f k = wv g n - wv g k
  | 0, h, _ => by rw [show k = 0 by omega]; simp [wv]
  | n + 1, h, hfg => by
    by_cases e : k = n + 1
    · rw [e]; omega
    · have ih := wv_tail (n := n) (by omega) (fun j h1 h2 => hfg j h1 (by omega))
      have e2 := hfg n (by omega) (by omega)
      show wv f n + f n * _ - _ = wv g n + g n * _ - _
      rw [e2]
      omega
theorem wdig_sg {v : Int} (j : Nat) : (0 ≤ v → 0 ≤ wdig v j) ∧ (v ≤ 0 → wdig v j ≤ 0) := by
  constructor
  · intro h
    unfold wdig
    rw [if_neg (by omega)]
    omega
  · intro h
    by_cases e : v < 0
    · unfold wdig
      rw [if_pos e]
      omega
    · rw [show v = 0 by omega, wdig_0]
      omega
theorem wv_wlt {v : Int} (k : Nat) : (0 ≤ v → 0 ≤ wv (wdig v) k ∧ wv (wdig v) k < 1000000 ^ k) ∧ (v ≤ 0 → wv (wdig v) k ≤ 0 ∧ -(1000000 ^ k) < wv (wdig v) k) := by
  constructor
  · intro h
    obtain ⟨a, b, _⟩ := dig_pos (d := wdig v) (n := k) (fun j _ => ⟨(wdig_sg j).1 h, (wdig_b v j).2⟩)
    exact ⟨a, b⟩
  · intro h
    obtain ⟨a, b, _⟩ := dig_neg (d := wdig v) (n := k) (fun j _ => ⟨(wdig_b v j).1, (wdig_sg j).2 h⟩)
    exact ⟨a, b⟩
/-- the highest limb that differs decides -/
theorem cmp_lt {v w : Int} {n k : Nat} (hv : v.natAbs < 1000000 ^ n) (hw : w.natAbs < 1000000 ^ n) (hk : k < n) (h : ∀ j, k + 1 ≤ j → j < n → wdig v j = wdig w j) (hlt : wdig v k < wdig w k) : v < w := by
  have e1 := wv_wdig hv
  have e2 := wv_wdig hw
  have e3 := wv_tail (f := wdig v) (g := wdig w) (k := k + 1) (n := n) (by omega) h
  have e4 : wv (wdig v) (k + 1) = wv (wdig v) k + wdig v k * 1000000 ^ k := rfl
  have e5 : wv (wdig w) (k + 1) = wv (wdig w) k + wdig w k * 1000000 ^ k := rfl
  have hp := bp_posI k
  have e6 : wdig v k * 1000000 ^ k ≤ (wdig w k - 1) * 1000000 ^ k := Int.mul_le_mul_of_nonneg_right (by omega) (by omega)
  rw [Int.sub_mul] at e6
  have a1 := wv_wlt (v := v) k
  have a2 := wv_wlt (v := w) k
  have s1 := wdig_sg (v := v) k
  have s2 := wdig_sg (v := w) k
  by_cases c1 : 0 ≤ v
  · by_cases c2 : 0 ≤ w
    · have := a1.1 c1
      have := a2.1 c2
      omega
    · have := s1.1 c1
      have := s2.2 (by omega)
      omega
  · by_cases c2 : 0 ≤ w
    · omega
    · have := a1.2 (by omega)
      have := a2.2 (by omega)
      omega
theorem cmp_eq {v w : Int} {n : Nat} (hv : v.natAbs < 1000000 ^ n) (hw : w.natAbs < 1000000 ^ n) (h : ∀ j, j < n → wdig v j = wdig w j) : v = w := by
  rw [← wv_wdig hv, ← wv_wdig hw, wv_congr h]
theorem wdig_at {v : Int} {n k j : Nat} (h : wk v n k) : (if 0 ≤ (j : Int) ∧ (j : Int) < (k : Int) then wdig v (j : Int).toNat else 0) = wdig v j := by
  by_cases e : j < k
  · rw [if_pos (by omega), Int.toNat_natCast]
  · rw [if_neg (by omega), wdig_hi h (by omega)]
set_option maxHeartbeats 4000000 in
set_option maxRecDepth 100000 in
/-- product(one, other) -/
theorem c_product (l : Launch) (D : va_G) (E : Nat → ClassId) (a n b nb c0 nc : Nat) (f : Nat → Int) (sz sg v w : Int) (hn : n < 1000) (hnb : nb < 1000) (hnc : nc < 1000) (hab : a + 1 < b ∨ b + 1 < a) (hac : a + 1 < c0 ∨ c0 + 1 < a) (hv1 : -(1000000 ^ n) < v * w) (hv2 : v * w < 1000000 ^ n) : pw_M rvV l D E yX8_product wsX8_product ({ frames := 2, cells := 0, slots := 0, locals := 50 } : Room) [.ref (a), .ref (b), .ref (c0)] (fun H => WR D E a n f sz sg H ∧ WH D E b nb v H ∧ WH D E c0 nc w H) (fun _ H => WH D E a n (v * w) H) (fun q => q = a ∨ q = a + 1) (0) (0) := by
  refine pw_of (cc := cX8_product) (maxL := 6) (ret := none) (by decide +kernel) rfl (Nat.le_of_ble_eq_true rfl) ?_
  intro p e s m args below meth c hx hb hr hml hts hown hlocks hini hK ⟨⟨hO, hL⟩, ⟨kb, ⟨hOb, hLb⟩, hkb⟩, kc, ⟨hOc, hLc⟩, hkc⟩ ls hl
  have hown : s.vm.findClass RX8 = some m.cls := hown
  have hl : lv_has ls 6 [(0, .ref (a)), (1, .ref (b)), (2, .ref (c0))] := hl
  have hS : va_S (fun q => q = a ∨ q = a + 1) s.heap s.heap [] := va_S.rf
  have lk_7 := hts (.fieldLink RX8 7 "PolicyWorks$Whole" "limbs" "[J") (by decide +kernel)
  have lk_13 := hts (.fieldLink RX8 13 "PolicyWorks$Whole" "size" "I") (by decide +kernel)
  have hin8 : ∀ w ∈ wsX80, w ∈ wsX8_product := by decide +kernel
  have hkb1 := hkb.1
  have hkc1 := hkc.1
  have hkk := wk_mul hkb hkc (nat_lt hv1 hv2)
  have evb : wv (wdig v) kb = v := wv_wdig hkb.2.1
  have evc : wv (wdig w) kc = w := wv_wdig hkc.2.1
  have inner : ∀ (i : Nat), i < kb → (∀ (g : Nat → Int) (H : Heap) (locs : List Loc) (ls : Array Slot), wv g n = wv (wdig v) (i + 1) * w → (∀ q, q < n → -(1000 * ((i : Int) + 1) * 1000000000000) ≤ g q ∧ g q ≤ 1000 * ((i : Int) + 1) * 1000000000000) → OA D (a) 8 [.ref (a + 1), .int (iI (0)), .int (iI (0))] H → LA E (a + 1) n g H → OA D (b) 8 [.ref (b + 1), .int (iI ((kb : Int))), .int (iI (v.sign))] H → LA E (b + 1) nb (wdig v) H → OA D (c0) 8 [.ref (c0 + 1), .int (iI ((kc : Int))), .int (iI (w.sign))] H → LA E (c0 + 1) nc (wdig w) H → va_S (fun q => q = a ∨ q = a + 1) s.heap H locs → lv_has ls 6 [(0, .ref (a)), (1, .ref (b)), (2, .ref (c0)), (3, .int (iI (((i + 1 : Nat) : Int))))] → W p l e ({ frames := 2, cells := 0, slots := 0, locals := 50 } : Room) s m args below meth c H locs (0) (0) (MQ below (pw_Q rvV (fun _ H => WH D E a n (v * w) H) (fun q => q = a ∨ q = a + 1)) args s (0) (0) (fun q => q = a ∨ q = a + 1)) (F0 m 6 ls [])) → ∀ (k j : Nat) (g : Nat → Int) (H : Heap) (locs : List Loc) (ls : Array Slot), j + k = kc → wv g n = wv (wdig v) i * w + wdig v i * wv (wdig w) j * 1000000 ^ i → (∀ q, q < n → -((1000 * (i : Int) + j) * 1000000000000) ≤ g q ∧ g q ≤ (1000 * (i : Int) + j) * 1000000000000) → OA D (a) 8 [.ref (a + 1), .int (iI (0)), .int (iI (0))] H → LA E (a + 1) n g H → OA D (b) 8 [.ref (b + 1), .int (iI ((kb : Int))), .int (iI (v.sign))] H → LA E (b + 1) nb (wdig v) H → OA D (c0) 8 [.ref (c0 + 1), .int (iI ((kc : Int))), .int (iI (w.sign))] H → LA E (c0 + 1) nc (wdig w) H → va_S (fun q => q = a ∨ q = a + 1) s.heap H locs → lv_has ls 6 [(0, .ref (a)), (1, .ref (b)), (2, .ref (c0)), (3, .int (iI ((i : Int)))), (4, .int (iI (min (kc : Int) ((n : Int) - (i : Int))))), (5, .int (iI ((j : Int))))] → W p l e ({ frames := 2, cells := 0, slots := 0, locals := 50 } : Room) s m args below meth c H locs (0) (0) (MQ below (pw_Q rvV (fun _ H => WH D E a n (v * w) H) (fun q => q = a ∨ q = a + 1)) args s (0) (0) (fun q => q = a ∨ q = a + 1)) (F0 m 33 ls []) := by
    intro i hi next k
    induction k with
    | zero =>
      intro j g H locs ls hj hw hbd hO hL hOb hLb hOc hLc hS hl
      refine lv_iload hx hb dX8_product_33 (lv_at hl 5 rfl) ?_
      refine lv_iload hx hb dX8_product_35 (lv_at hl 4 rfl) ?_
      refine pw_icmp_ge (tgt := 72) hx hb dX8_product_37 (by decide) (fun c_37 => ?_) (fun c_37 => absurd c_37 (by omega))
      refine lv_iinc (v := iI (((i + 1 : Nat) : Int))) (lv' := [(3, .int (iI (((i + 1 : Nat) : Int)))), (0, .ref (a)), (1, .ref (b)), (2, .ref (c0)), (4, .int (iI (min (kc : Int) ((n : Int) - (i : Int))))), (5, .int (iI ((j : Int))))]) hx hb dX8_product_72 hl (k := 3) rfl (by show iI _ + iI _ = _; rw [iI_add]; first | rfl | (congr 1; omega)) (by decide) rfl (fun ls hl => ?_)
      refine lv_goto (tgt := 6) hx hb dX8_product_75 (by decide) ?_
      have ej : j = kc := by omega
      subst ej
      refine next _ _ _ _ ?_ (fun q hq => by have := hbd q hq; omega) hO hL hOb hLb hOc hLc hS (lv_sub hl [1, 2, 3, 0] rfl)
      show wv g n = (wv (wdig v) i + wdig v i * 1000000 ^ i) * w
      rw [hw, evc, Int.add_mul, Int.mul_assoc, Int.mul_assoc, Int.mul_comm w]
    | succ k ih =>
      intro j g H locs ls hj hw hbd hO hL hOb hLb hOc hLc hS hl
      have hq := hbd (i + j) (by omega)
      have hm := mul_b (wdig_b v i) (wdig_b w j)
      refine lv_iload hx hb dX8_product_33 (lv_at hl 5 rfl) ?_
      refine lv_iload hx hb dX8_product_35 (lv_at hl 4 rfl) ?_
      refine pw_icmp_ge (tgt := 72) hx hb dX8_product_37 (by decide) (fun c_37 => absurd c_37 (by omega)) (fun c_37 => ?_)
      refine lv_aload_n hx hb dX8_product_40 rfl (lv_at hl 0 rfl) ?_
      refine pw_get (C := RX8) (T := TX8) (N := 3) hx hb hts hin8 hown hK hO rfl 0 (by decide) lk_7 rfl rfl dX8_product_41 ?_
      refine lv_iload_n hx hb dX8_product_44 rfl (lv_at hl 3 rfl) ?_
      refine lv_iload hx hb dX8_product_45 (lv_at hl 5 rfl) ?_
      refine pw_iadd hx hb dX8_product_47 ?_
      refine pw_asi (((i + j : Nat) : Int)) (by omega) ?_
      refine lv_dup2_11 hx hb dX8_product_48 rfl rfl ?_
      refine pw_lald hx hb hK hL (i + j) rfl (by omega) (by omega) dX8_product_49 ?_
      refine lv_aload_n hx hb dX8_product_50 rfl (lv_at hl 1 rfl) ?_
      refine pw_get (C := RX8) (T := TX8) (N := 3) hx hb hts hin8 hown hK hOb rfl 0 (by decide) lk_7 rfl rfl dX8_product_51 ?_
      refine lv_iload_n hx hb dX8_product_54 rfl (lv_at hl 3 rfl) ?_
      refine pw_lald hx hb hK hLb (i) rfl (by omega) (by omega) dX8_product_55 ?_
      refine lv_aload_n hx hb dX8_product_56 rfl (lv_at hl 2 rfl) ?_
      refine pw_get (C := RX8) (T := TX8) (N := 3) hx hb hts hin8 hown hK hOc rfl 0 (by decide) lk_7 rfl rfl dX8_product_57 ?_
      refine lv_iload hx hb dX8_product_60 (lv_at hl 5 rfl) ?_
      refine pw_lald hx hb hK hLc (j) rfl (by omega) (by omega) dX8_product_62 ?_
      refine pw_lmul hx hb dX8_product_63 ?_
      refine pw_ladd hx hb dX8_product_64 ?_
      refine pw_last hx hb hK hL hS (Or.inr rfl) (i + j) rfl (by omega) (by omega) dX8_product_65 (fun H1 locs1 hnew hz1 oq hS => ?_)
      have hO := hO.k (oq _ (by omega))
      have hOb := hOb.k (oq _ (by omega))
      have hLb := hLb.k (oq _ (by omega))
      have hOc := hOc.k (oq _ (by omega))
      have hLc := hLc.k (oq _ (by omega))
      have hL := hnew
      clear hnew oq hz1
      refine lv_iinc (v := iI (((j + 1 : Nat) : Int))) (lv' := [(5, .int (iI (((j + 1 : Nat) : Int)))), (0, .ref (a)), (1, .ref (b)), (2, .ref (c0)), (3, .int (iI ((i : Int)))), (4, .int (iI (min (kc : Int) ((n : Int) - (i : Int)))))]) hx hb dX8_product_66 hl (k := 5) rfl (by show iI _ + iI _ = _; rw [iI_add]; first | rfl | (congr 1; omega)) (by decide) rfl (fun ls hl => ?_)
      refine lv_goto (tgt := 33) hx hb dX8_product_69 (by decide) ?_
      refine ih (j + 1) _ _ _ _ (by omega) ?_ (fun q hq1 => by
        by_cases e : q = i + j
        · rw [e, ud_s]; omega
        · rw [ud_n _ _ e]; have := hbd q hq1; omega) hO hL hOb hLb hOc hLc hS (lv_sub hl [1, 2, 3, 4, 5, 0] rfl)
      rw [wv_ud _ _ _ _ (by omega), hw]
      show _ = wv (wdig v) i * w + wdig v i * (wv (wdig w) j + wdig w j * 1000000 ^ j) * 1000000 ^ i
      rw [bp_add, Int.mul_add, Int.add_mul]
      have e1 : (g (i + j) + wdig v i * wdig w j - g (i + j)) = wdig v i * wdig w j := by omega
      rw [e1, Int.mul_comm (1000000 ^ i) (1000000 ^ j), ← Int.mul_assoc, ← Int.mul_assoc]
      omega
  have outer : ∀ (k i : Nat) (g : Nat → Int) (H : Heap) (locs : List Loc) (ls : Array Slot), i + k = kb → wv g n = wv (wdig v) i * w → (∀ q, q < n → -(1000 * (i : Int) * 1000000000000) ≤ g q ∧ g q ≤ 1000 * (i : Int) * 1000000000000) → OA D (a) 8 [.ref (a + 1), .int (iI (0)), .int (iI (0))] H → LA E (a + 1) n g H → OA D (b) 8 [.ref (b + 1), .int (iI ((kb : Int))), .int (iI (v.sign))] H → LA E (b + 1) nb (wdig v) H → OA D (c0) 8 [.ref (c0 + 1), .int (iI ((kc : Int))), .int (iI (w.sign))] H → LA E (c0 + 1) nc (wdig w) H → va_S (fun q => q = a ∨ q = a + 1) s.heap H locs → lv_has ls 6 [(0, .ref (a)), (1, .ref (b)), (2, .ref (c0)), (3, .int (iI ((i : Int))))] → W p l e ({ frames := 2, cells := 0, slots := 0, locals := 50 } : Room) s m args below meth c H locs (0) (0) (MQ below (pw_Q rvV (fun _ H => WH D E a n (v * w) H) (fun q => q = a ∨ q = a + 1)) args s (0) (0) (fun q => q = a ∨ q = a + 1)) (F0 m 6 ls []) := by
    intro k
    induction k with
    | zero =>
      intro i g H locs ls hi hw hbd hO hL hOb hLb hOc hLc hS hl
      have ei : i = kb := by omega
      subst ei
      rw [evb] at hw
      refine lv_iload_n hx hb dX8_product_6 rfl (lv_at hl 3 rfl) ?_
      refine lv_aload_n hx hb dX8_product_7 rfl (lv_at hl 1 rfl) ?_
      refine pw_get (C := RX8) (T := TX8) (N := 3) hx hb hts hin8 hown hK hOb rfl 1 (by decide) lk_13 rfl rfl dX8_product_8 ?_
      refine pw_icmp_ge (tgt := 78) hx hb dX8_product_11 (by decide) (fun c_11 => ?_) (fun c_11 => absurd c_11 (by omega))
      refine lv_aload_n hx hb dX8_product_78 rfl (lv_at hl 0 rfl) ?_
      refine pw_callVv (As := []) (rest := []) ⟨hx, hb, hml, hown, hts⟩ (c_settle l D E a n g 0 0 hn (fun q hq => by have := hbd q hq; omega) (by rw [hw]; exact hv1) (by rw [hw]; exact hv2)) (cwV 0 hts gX8_product_X8_settle rfl rfl rfl (by decide +kernel) ⟨Nat.le_of_ble_eq_true rfl, Nat.le_of_ble_eq_true rfl⟩) hK hO rfl ⟨hO, hL⟩ rfl hl.1 rfl (by decide) dX8_product_79 ⟨Nat.zero_le _, Nat.zero_le _⟩ hS (fun q h => h) (fun H1 locs1 hW hz1 hk1 hS => ?_)
      have hOb := hOb.k (hk1 _ hOb.lt (by (try dsimp only); omega))
      have hLb := hLb.k (hk1 _ hLb.lt (by (try dsimp only); omega))
      have hOc := hOc.k (hk1 _ hOc.lt (by (try dsimp only); omega))
      have hLc := hLc.k (hk1 _ hLc.lt (by (try dsimp only); omega))
      rw [hw] at hW
      exact pw_vret hx hb hr hlocks hS hW dX8_product_82
    | succ k ih =>
      intro i g H locs ls hi hw hbd hO hL hOb hLb hOc hLc hS hl
      refine lv_iload_n hx hb dX8_product_6 rfl (lv_at hl 3 rfl) ?_
      refine lv_aload_n hx hb dX8_product_7 rfl (lv_at hl 1 rfl) ?_
      refine pw_get (C := RX8) (T := TX8) (N := 3) hx hb hts hin8 hown hK hOb rfl 1 (by decide) lk_13 rfl rfl dX8_product_8 ?_
      refine pw_icmp_ge (tgt := 78) hx hb dX8_product_11 (by decide) (fun c_11 => absurd c_11 (by omega)) (fun c_11 => ?_)
      refine lv_aload_n hx hb dX8_product_14 rfl (lv_at hl 2 rfl) ?_
      refine pw_get (C := RX8) (T := TX8) (N := 3) hx hb hts hin8 hown hK hOc rfl 1 (by decide) lk_13 rfl rfl dX8_product_15 ?_
      refine lv_aload_n hx hb dX8_product_18 rfl (lv_at hl 0 rfl) ?_
      refine pw_get (C := RX8) (T := TX8) (N := 3) hx hb hts hin8 hown hK hO rfl 0 (by decide) lk_7 rfl rfl dX8_product_19 ?_
      refine pw_alen (n := n) (k0 := 1) hx hb hK hL rfl rfl dX8_product_22 ?_
      refine lv_iload_n hx hb dX8_product_23 rfl (lv_at hl 3 rfl) ?_
      refine pw_isub hx hb dX8_product_24 ?_
      refine pw_mmin hx hb (hml.trans hl.1.symm) hown hts (by decide +kernel) (Nat.le_of_ble_eq_true rfl) (Nat.le_of_ble_eq_true rfl) (Nat.le_of_ble_eq_true rfl) (Nat.le_of_ble_eq_true rfl) dX8_product_25 ?_
      refine lv_istore (lv' := [(4, .int (iI (min ((kc : Int)) (((n : Int)) - ((i : Int)))))), (0, .ref (a)), (1, .ref (b)), (2, .ref (c0)), (3, .int (iI ((i : Int))))]) hx hb dX8_product_28 hl (by decide) rfl (fun ls hl => ?_)
      refine pw_iconst hx hb dX8_product_30 ?_
      refine lv_istore (lv' := [(5, .int (iI (0))), (4, .int (iI (min ((kc : Int)) (((n : Int)) - ((i : Int)))))), (0, .ref (a)), (1, .ref (b)), (2, .ref (c0)), (3, .int (iI ((i : Int))))]) hx hb dX8_product_31 hl (by decide) rfl (fun ls hl => ?_)
      exact inner i (by omega) (fun g H locs ls h1 h2 hO hL hOb hLb hOc hLc hS hl => ih (i + 1) g H locs ls (by omega) h1 (fun q hq => by have := h2 q hq; omega) hO hL hOb hLb hOc hLc hS hl) kc 0 g _ _ _ (by omega) (by rw [hw]; simp [wv]) (fun q hq => by have := hbd q hq; omega) hO hL hOb hLb hOc hLc hS (lv_sub hl [2, 3, 4, 5, 1, 0] rfl)
  refine lv_aload_n hx hb dX8_product_0 rfl (lv_at hl 0 rfl) ?_
  refine pw_callVv (As := []) (rest := []) ⟨hx, hb, hml, hown, hts⟩ (c_clear l D E a n f sz sg hn) (cwV 0 hts gX8_product_X8_clear rfl rfl rfl (by decide +kernel) ⟨Nat.le_of_ble_eq_true rfl, Nat.le_of_ble_eq_true rfl⟩) hK hO rfl ⟨hO, hL⟩ rfl hl.1 rfl (by decide) dX8_product_1 ⟨Nat.zero_le _, Nat.zero_le _⟩ hS (fun q h => h) (fun H1 locs1 ⟨hO, hL⟩ hz1 hk1 hS => ?_)
  have hOb := hOb.k (hk1 _ hOb.lt (by (try dsimp only); omega))
  have hLb := hLb.k (hk1 _ hLb.lt (by (try dsimp only); omega))
  have hOc := hOc.k (hk1 _ hOc.lt (by (try dsimp only); omega))
  have hLc := hLc.k (hk1 _ hLc.lt (by (try dsimp only); omega))
  refine pw_iconst hx hb dX8_product_4 ?_
  refine lv_istore_n (lv' := [(3, .int (iI (0))), (0, .ref (a)), (1, .ref (b)), (2, .ref (c0))]) hx hb dX8_product_5 rfl hl (by decide) rfl (fun ls hl => ?_)
  exact outer kb 0 _ _ _ _ (by omega) (by rw [wv_zero]; simp [wv]) (fun q hq => by simp) hO hL hOb hLb hOc hLc hS (lv_sub hl [1, 2, 3, 0] rfl)
set_option maxHeartbeats 4000000 in
set_option maxRecDepth 100000 in
/-- dropSign() -/
theorem c_dropSign (l : Launch) (D : va_G) (E : Nat → ClassId) (a n : Nat) (v : Int) (hn : n < 1000) : pw_M rvV l D E yX8_dropSign wsX8_dropSign ({ frames := 0, cells := 0, slots := 0, locals := 0 } : Room) [.ref (a)] (fun H => WH D E a n v H) (fun _ H => WH D E a n (v.natAbs : Int) H) (fun q => q = a ∨ q = a + 1) (0) (0) := by
  refine pw_of (cc := cX8_dropSign) (maxL := 2) (ret := none) (by decide +kernel) rfl (Nat.le_of_ble_eq_true rfl) ?_
  intro p e s m args below meth c hx hb hr hml hts hown hlocks hini hK ⟨ka, ⟨hO, hL⟩, hka⟩ ls hl
  have hown : s.vm.findClass RX8 = some m.cls := hown
  have hl : lv_has ls 2 [(0, .ref (a))] := hl
  have hS : va_S (fun q => q = a ∨ q = a + 1) s.heap s.heap [] := va_S.rf
  have lk_7 := hts (.fieldLink RX8 7 "PolicyWorks$Whole" "limbs" "[J") (by decide +kernel)
  have lk_13 := hts (.fieldLink RX8 13 "PolicyWorks$Whole" "size" "I") (by decide +kernel)
  have lk_17 := hts (.fieldLink RX8 17 "PolicyWorks$Whole" "sign" "I") (by decide +kernel)
  have hin8 : ∀ w ∈ wsX80, w ∈ wsX8_dropSign := by decide +kernel
  have hka1 := hka.1
  have hsg := sgn_i v
  have hsr : -1 ≤ v.sign ∧ v.sign ≤ 1 := by rw [hsg]; split <;> (try split) <;> omega
  have loop : v < 0 → ∀ (k i : Nat) (g : Nat → Int) (H : Heap) (locs : List Loc) (ls : Array Slot), i + k = ka → (∀ j, j < i → g j = - wdig v j) → (∀ j, i ≤ j → j < n → g j = wdig v j) → OA D (a) 8 [.ref (a + 1), .int (iI ((ka : Int))), .int (iI (v.sign))] H → LA E (a + 1) n g H → va_S (fun q => q = a ∨ q = a + 1) s.heap H locs → lv_has ls 2 [(0, .ref (a)), (1, .int (iI ((i : Int))))] → W p l e ({ frames := 0, cells := 0, slots := 0, locals := 0 } : Room) s m args below meth c H locs (0) (0) (MQ below (pw_Q rvV (fun _ H => WH D E a n (v.natAbs : Int) H) (fun q => q = a ∨ q = a + 1)) args s (0) (0) (fun q => q = a ∨ q = a + 1)) (F0 m 9 ls []) := by
    intro hneg k
    induction k with
    | zero =>
      intro i g H locs ls hi h0 h1 hO hL hS hl
      refine lv_iload_n hx hb dX8_dropSign_9 rfl (lv_at hl 1 rfl) ?_
      refine lv_aload_n hx hb dX8_dropSign_10 rfl (lv_at hl 0 rfl) ?_
      refine pw_get (C := RX8) (T := TX8) (N := 3) hx hb hts hin8 hown hK hO rfl 1 (by decide) lk_13 rfl rfl dX8_dropSign_11 ?_
      refine pw_icmp_ge (tgt := 36) hx hb dX8_dropSign_14 (by decide) (fun c_14 => ?_) (fun c_14 => absurd c_14 (by omega))
      refine lv_aload_n hx hb dX8_dropSign_36 rfl (lv_at hl 0 rfl) ?_
      refine pw_iconst hx hb dX8_dropSign_37 ?_
      refine pw_put (C := RX8) (T := TX8) (N := 3) hx hb hts hin8 tyX8 tyX8_ok nmX8 hown hK hO hS (Or.inl rfl) rfl 2 (by decide) lk_17 rfl rfl rfl rfl (by show _ < 3; decide) dX8_dropSign_38 (fun H1 locs1 hnew hz1 oq hS => ?_)
      have hL := hL.k (oq _ (by omega))
      have hO : OA D (a) 8 [.ref (a + 1), .int (iI ((ka : Int))), .int (iI (1))] H1 := hnew
      clear hnew oq hz1
      exact pw_vret hx hb hr hlocks hS ⟨ka, ⟨by rw [sgn_i, if_neg (by omega), if_neg (by omega)]; exact hO, hL.up (fun j hj => by
        rw [wdig_abs hneg]
        by_cases e : j < i
        · exact h0 j e
        · rw [h1 j (by omega) hj, wdig_hi hka (by omega)]; rfl)⟩, by unfold wk; rw [Int.natAbs_natCast]; exact hka⟩ dX8_dropSign_41
    | succ k ih =>
      intro i g H locs ls hi h0 h1 hO hL hS hl
      have hgi := h1 i (Nat.le_refl i) (by omega)
      refine lv_iload_n hx hb dX8_dropSign_9 rfl (lv_at hl 1 rfl) ?_
      refine lv_aload_n hx hb dX8_dropSign_10 rfl (lv_at hl 0 rfl) ?_
      refine pw_get (C := RX8) (T := TX8) (N := 3) hx hb hts hin8 hown hK hO rfl 1 (by decide) lk_13 rfl rfl dX8_dropSign_11 ?_
      refine pw_icmp_ge (tgt := 36) hx hb dX8_dropSign_14 (by decide) (fun c_14 => absurd c_14 (by omega)) (fun c_14 => ?_)
      refine lv_aload_n hx hb dX8_dropSign_17 rfl (lv_at hl 0 rfl) ?_
      refine pw_get (C := RX8) (T := TX8) (N := 3) hx hb hts hin8 hown hK hO rfl 0 (by decide) lk_7 rfl rfl dX8_dropSign_18 ?_
      refine lv_iload_n hx hb dX8_dropSign_21 rfl (lv_at hl 1 rfl) ?_
      refine lv_aload_n hx hb dX8_dropSign_22 rfl (lv_at hl 0 rfl) ?_
      refine pw_get (C := RX8) (T := TX8) (N := 3) hx hb hts hin8 hown hK hO rfl 0 (by decide) lk_7 rfl rfl dX8_dropSign_23 ?_
      refine lv_iload_n hx hb dX8_dropSign_26 rfl (lv_at hl 1 rfl) ?_
      refine pw_lald hx hb hK hL (i) rfl (by omega) (by omega) dX8_dropSign_27 ?_
      refine pw_asl (wdig v i) hgi ?_
      refine pw_lneg hx hb dX8_dropSign_28 ?_
      refine pw_last hx hb hK hL hS (Or.inr rfl) (i) rfl (by omega) (by omega) dX8_dropSign_29 (fun H1 locs1 hnew hz1 oq hS => ?_)
      have hO := hO.k (oq _ (by omega))
      have hL := hnew
      clear hnew oq hz1
      refine lv_iinc (v := iI (((i + 1 : Nat) : Int))) (lv' := [(1, .int (iI (((i + 1 : Nat) : Int)))), (0, .ref (a))]) hx hb dX8_dropSign_30 hl (k := 1) rfl (by show iI _ + iI _ = _; rw [iI_add]; first | rfl | (congr 1; omega)) (by decide) rfl (fun ls hl => ?_)
      refine lv_goto (tgt := 9) hx hb dX8_dropSign_33 (by decide) ?_
      exact ih (i + 1) _ _ _ _ (by omega) (fun j hj => ud_ext h0 rfl j hj) (fun j h2 h3 => by rw [ud_n _ _ (by omega)]; exact h1 j (by omega) h3) hO hL hS (lv_sub hl [1, 0] rfl)
  refine lv_aload_n hx hb dX8_dropSign_0 rfl (lv_at hl 0 rfl) ?_
  refine pw_get (C := RX8) (T := TX8) (N := 3) hx hb hts hin8 hown hK hO rfl 2 (by decide) lk_17 rfl rfl dX8_dropSign_1 ?_
  refine pw_if_ge (tgt := 41) hx hb dX8_dropSign_4 (by decide) (fun c_4 => ?_) (fun c_4 => ?_)
  · have hv0 : 0 ≤ v := by rw [hsg] at c_4; split at c_4 <;> omega
    exact pw_vret hx hb hr hlocks hS (by rw [abs_pos hv0]; exact ⟨ka, ⟨hO, hL⟩, hka⟩) dX8_dropSign_41
  · have hv0 : v < 0 := by rw [hsg] at c_4; split at c_4 <;> (try split at c_4) <;> omega
    refine pw_iconst hx hb dX8_dropSign_7 ?_
    refine lv_istore_n (lv' := [(1, .int (iI (0))), (0, .ref (a))]) hx hb dX8_dropSign_8 rfl hl (by decide) rfl (fun ls hl => ?_)
    exact loop hv0 ka 0 _ _ _ _ (by omega) (fun j hj => by omega) (fun j _ _ => rfl) hO hL hS (lv_sub hl [1, 0] rfl)
set_option maxHeartbeats 4000000 in
set_option maxRecDepth 100000 in
/-- compare(other) -/
theorem c_compare (l : Launch) (D : va_G) (E : Nat → ClassId) (a n b nb : Nat) (v w : Int) (hn : n < 1000) (hnb : nb < 1000) : pw_M rvI l D E yX8_compare wsX8_compare ({ frames := 1, cells := 0, slots := 0, locals := 40 } : Room) [.ref (a), .ref (b)] (fun H => WH D E a n v H ∧ WH D E b nb w H) (fun z H => z = (if v < w then -1 else if v = w then 0 else 1) ∧ True) (fun _ => False) (0) (0) := by
  refine pw_of (cc := cX8_compare) (maxL := 7) (ret := (some .int)) (by decide +kernel) rfl (Nat.le_of_ble_eq_true rfl) ?_
  intro p e s m args below meth c hx hb hr hml hts hown hlocks hini hK ⟨⟨ka, ⟨hO, hL⟩, hka⟩, kb, ⟨hOb, hLb⟩, hkb⟩ ls hl
  have hown : s.vm.findClass RX8 = some m.cls := hown
  have hl : lv_has ls 7 [(0, .ref (a)), (1, .ref (b))] := hl
  have hS : va_S (fun _ => False) s.heap s.heap [] := va_S.rf
  have lk_13 := hts (.fieldLink RX8 13 "PolicyWorks$Whole" "size" "I") (by decide +kernel)
  have hin8 : ∀ w ∈ wsX80, w ∈ wsX8_compare := by decide +kernel
  have hka1 := hka.1
  have hkb1 := hkb.1
  obtain ⟨mx, hmx⟩ : ∃ mx : Nat, mx = max ka kb := ⟨_, rfl⟩
  have hva : v.natAbs < 1000000 ^ mx := Nat.lt_of_lt_of_le hka.2.1 (bp_mono (by omega))
  have hwb : w.natAbs < 1000000 ^ mx := Nat.lt_of_lt_of_le hkb.2.1 (bp_mono (by omega))
  have loop : ∀ (k : Nat) (H : Heap) (locs : List Loc) (ls : Array Slot), k ≤ mx → (∀ j, k ≤ j → j < mx → wdig v j = wdig w j) → OA D (a) 8 [.ref (a + 1), .int (iI ((ka : Int))), .int (iI (v.sign))] H → LA E (a + 1) n (wdig v) H → OA D (b) 8 [.ref (b + 1), .int (iI ((kb : Int))), .int (iI (w.sign))] H → LA E (b + 1) nb (wdig w) H → va_S (fun _ => False) s.heap H locs → lv_has ls 7 [(0, .ref (a)), (1, .ref (b)), (2, .int (iI ((k : Int) - 1)))] → W p l e ({ frames := 1, cells := 0, slots := 0, locals := 40 } : Room) s m args below meth c H locs (0) (0) (MQ below (pw_Q rvI (fun z H => z = (if v < w then -1 else if v = w then 0 else 1) ∧ True) (fun _ => False)) args s (0) (0) (fun _ => False)) (F0 m 14 ls []) := by
    intro k
    induction k with
    | zero =>
      intro H locs ls hk h0 hO hL hOb hLb hS hl
      have evw : v = w := cmp_eq hva hwb (fun j hj => h0 j (by omega) hj)
      refine lv_iload_n hx hb dX8_compare_14 rfl (lv_at hl 2 rfl) ?_
      refine pw_if_lt (tgt := 57) hx hb dX8_compare_15 (by decide) (fun c_15 => ?_) (fun c_15 => absurd c_15 (by omega))
      refine pw_iconst hx hb dX8_compare_57 ?_
      exact pw_iret hx hb hr hlocks hS ⟨by rw [if_neg (by omega), if_pos evw], trivial⟩ dX8_compare_58
    | succ k ih =>
      intro H locs ls hk h0 hO hL hOb hLb hS hl
      have b1 := wdig_b v k
      have b2 := wdig_b w k
      have ek : ((k + 1 : Nat) : Int) - 1 = (k : Int) := by omega
      refine lv_iload_n hx hb dX8_compare_14 rfl (lv_at hl 2 rfl) ?_
      refine pw_if_lt (tgt := 57) hx hb dX8_compare_15 (by decide) (fun c_15 => absurd c_15 (by omega)) (fun c_15 => ?_)
      refine lv_aload_n hx hb dX8_compare_18 rfl (lv_at hl 0 rfl) ?_
      refine lv_iload_n hx hb dX8_compare_19 rfl (lv_at hl 2 rfl) ?_
      refine pw_callVl (As := [.int (iI (((k + 1 : Nat) : Int) - 1))]) (rest := []) ⟨hx, hb, hml, hown, hts⟩ (c_limbAt l D E a n (wdig v) ka v.sign (((k + 1 : Nat) : Int) - 1) hn (by omega) (by omega) (by omega)) (cwV 1 hts gX8_compare_X8_limbAt rfl rfl rfl (by decide +kernel) ⟨Nat.le_of_ble_eq_true rfl, Nat.le_of_ble_eq_true rfl⟩) hK hO rfl ⟨hO, hL⟩ rfl hl.1 rfl (by decide) dX8_compare_20 ⟨Nat.zero_le _, Nat.zero_le _⟩ hS (fun q h => h.elim) (fun z H1 locs1 hz hz1 hk1 hS => ?_)
      have hO := hO.k (hk1 _ hO.lt (fun h => h))
      have hL := hL.k (hk1 _ hL.lt (fun h => h))
      have hOb := hOb.k (hk1 _ hOb.lt (fun h => h))
      have hLb := hLb.k (hk1 _ hLb.lt (fun h => h))
      have hz : z = wdig v k := by rw [hz.1, ek]; exact wdig_at hka
      subst hz
      refine lv_lstore_n (lv' := [(3, .long (lI (wdig v k))), (0, .ref (a)), (1, .ref (b)), (2, .int (iI (((k + 1 : Nat) : Int) - 1)))]) hx hb dX8_compare_23 rfl hl (by decide) rfl (fun ls hl => ?_)
      refine lv_aload_n hx hb dX8_compare_24 rfl (lv_at hl 2 rfl) ?_
      refine lv_iload_n hx hb dX8_compare_25 rfl (lv_at hl 3 rfl) ?_
      refine pw_callVl (As := [.int (iI (((k + 1 : Nat) : Int) - 1))]) (rest := []) ⟨hx, hb, hml, hown, hts⟩ (c_limbAt l D E b nb (wdig w) kb w.sign (((k + 1 : Nat) : Int) - 1) hnb (by omega) (by omega) (by omega)) (cwV 1 hts gX8_compare_X8_limbAt rfl rfl rfl (by decide +kernel) ⟨Nat.le_of_ble_eq_true rfl, Nat.le_of_ble_eq_true rfl⟩) hK hOb rfl ⟨hOb, hLb⟩ rfl hl.1 rfl (by decide) dX8_compare_26 ⟨Nat.zero_le _, Nat.zero_le _⟩ hS (fun q h => h.elim) (fun z H1 locs1 hz hz1 hk1 hS => ?_)
      have hO := hO.k (hk1 _ hO.lt (fun h => h))
      have hL := hL.k (hk1 _ hL.lt (fun h => h))
      have hOb := hOb.k (hk1 _ hOb.lt (fun h => h))
      have hLb := hLb.k (hk1 _ hLb.lt (fun h => h))
      have hz : z = wdig w k := by rw [hz.1, ek]; exact wdig_at hkb
      subst hz
      refine lv_lstore (lv' := [(5, .long (lI (wdig w k))), (3, .long (lI (wdig v k))), (0, .ref (a)), (1, .ref (b)), (2, .int (iI (((k + 1 : Nat) : Int) - 1)))]) hx hb dX8_compare_29 hl (by decide) rfl (fun ls hl => ?_)
      refine lv_lload_n hx hb dX8_compare_31 rfl (lv_at hl 1 rfl) ?_
      refine lv_lload hx hb dX8_compare_32 (lv_at hl 0 rfl) ?_
      refine pw_lcmp_eq (tgt := 51) hx hb dX8_compare_34 dX8_compare_35 (by decide) (fun c_34 => ?_) (fun c_34 => ?_)
      · refine lv_iinc (v := iI ((k : Int) - 1)) (lv' := [(2, .int (iI ((k : Int) - 1))), (5, .long (lI (wdig w k))), (3, .long (lI (wdig v k))), (0, .ref (a)), (1, .ref (b))]) hx hb dX8_compare_51 hl (k := 4) rfl (by show iI _ + iI _ = _; rw [iI_add]; first | rfl | (congr 1; omega)) (by decide) rfl (fun ls hl => ?_)
        refine lv_goto (tgt := 14) hx hb dX8_compare_54 (by decide) ?_
        exact ih _ _ _ (by omega) (fun j h1 h2 => by
        by_cases e : j = k
        · rw [e]; exact c_34
        · exact h0 j (by omega) h2) hO hL hOb hLb hS (lv_sub hl [3, 4, 0] rfl)
      · refine lv_lload_n hx hb dX8_compare_38 rfl (lv_at hl 1 rfl) ?_
        refine lv_lload hx hb dX8_compare_39 (lv_at hl 0 rfl) ?_
        refine pw_lcmp_ge (tgt := 49) hx hb dX8_compare_41 dX8_compare_42 (by decide) (fun c_41 => ?_) (fun c_41 => ?_)
        · refine pw_iconst hx hb dX8_compare_49 ?_
          have hgt := cmp_lt hwb hva (by omega) (fun j h1 h2 => (h0 j h1 h2).symm) (show wdig w k < wdig v k by omega)
          exact pw_iret hx hb hr hlocks hS ⟨by rw [if_neg (by omega), if_neg (by omega)], trivial⟩ dX8_compare_50
        · refine pw_iconst hx hb dX8_compare_45 ?_
          refine lv_goto (tgt := 50) hx hb dX8_compare_46 (by decide) ?_
          exact pw_iret hx hb hr hlocks hS ⟨by rw [if_pos (cmp_lt hva hwb (by omega) h0 c_41)], trivial⟩ dX8_compare_50
  refine lv_aload_n hx hb dX8_compare_0 rfl (lv_at hl 0 rfl) ?_
  refine pw_get (C := RX8) (T := TX8) (N := 3) hx hb hts hin8 hown hK hO rfl 1 (by decide) lk_13 rfl rfl dX8_compare_1 ?_
  refine lv_aload_n hx hb dX8_compare_4 rfl (lv_at hl 1 rfl) ?_
  refine pw_get (C := RX8) (T := TX8) (N := 3) hx hb hts hin8 hown hK hOb rfl 1 (by decide) lk_13 rfl rfl dX8_compare_5 ?_
  refine pw_mmax hx hb (hml.trans hl.1.symm) hown hts (by decide +kernel) (Nat.le_of_ble_eq_true rfl) (Nat.le_of_ble_eq_true rfl) (Nat.le_of_ble_eq_true rfl) (Nat.le_of_ble_eq_true rfl) dX8_compare_8 ?_
  refine pw_asi ((mx : Int)) (by omega) ?_
  refine pw_iconst hx hb dX8_compare_11 ?_
  refine pw_isub hx hb dX8_compare_12 ?_
  refine lv_istore_n (lv' := [(2, .int (iI (((mx : Int)) - (1)))), (0, .ref (a)), (1, .ref (b))]) hx hb dX8_compare_13 rfl hl (by decide) rfl (fun ls hl => ?_)
  exact loop mx _ _ _ (Nat.le_refl mx) (fun j h1 h2 => by omega) hO hL hOb hLb hS (lv_sub hl [1, 2, 0] rfl)
end
section
/-! division of whole numbers in limbs of six digits -/
theorem nd_shift (x s i : Nat) : nd (x / 1000000 ^ s) i = nd x (i + s) := by
  unfold nd
  rw [Nat.div_div_eq_div_mul, ← Nat.pow_add, Nat.add_comm s i]
theorem wdig_nn {x : Int} (h : 0 ≤ x) (j : Nat) : wdig x j = (nd x.natAbs j : Int) := by
  unfold wdig
  rw [if_neg (by omega)]
theorem wdig_shift {x : Int} (h : 0 ≤ x) (s i : Nat) : wdig (((x.natAbs / 1000000 ^ s : Nat)) : Int) i = wdig x (i + s) := by
  rw [wdig_nn h, wdig_nn (Int.natCast_nonneg _), Int.natAbs_natCast, nd_shift]
/-- a limb by any index: 0 below the first -/
def lb (x : Int) (i : Int) : Int := if 0 ≤ i then wdig x i.toNat else 0
theorem lb_at {v : Int} {n k : Nat} (h : wk v n k) (i : Int) : (if 0 ≤ i ∧ i < (k : Int) then wdig v i.toNat else 0) = lb v i := by
  unfold lb
  by_cases e : 0 ≤ i
  · by_cases e2 : i < (k : Int)
    · rw [if_pos ⟨e, e2⟩, if_pos e]
    · rw [if_neg (by omega), if_pos e, wdig_hi h (by omega)]
  · rw [if_neg (by omega), if_neg e]
theorem lb_n (x : Int) (j : Nat) : lb x (j : Int) = wdig x j := by
  unfold lb
  rw [if_pos (by omega), Int.toNat_natCast]
theorem lb_b (x : Int) (i : Int) : -1000000 < lb x i ∧ lb x i < 1000000 := by
  unfold lb
  split
  · exact wdig_b _ _
  · omega
-- dividing by a small number
def rs (v : Int) (d : Nat) (k : Nat) : Int := if v < 0 then - ((v.natAbs / 1000000 ^ k % d : Nat) : Int) else ((v.natAbs / 1000000 ^ k % d : Nat) : Int)
theorem rs_b (v : Int) {d : Nat} (hd : 0 < d) (k : Nat) : -(d : Int) < rs v d k ∧ rs v d k < d := by
  have := Nat.mod_lt (v.natAbs / 1000000 ^ k) hd
  unfold rs
  split <;> omega
theorem small_nat (x : Nat) {d : Nat} (hd : 0 < d) (k : Nat) : (x / 1000000 ^ (k + 1) % d * 1000000 + nd x k) / d = nd (x / d) k ∧ (x / 1000000 ^ (k + 1) % d * 1000000 + nd x k) % d = x / 1000000 ^ k % d := by
  have e1 : x / 1000000 ^ (k + 1) = x / 1000000 ^ k / 1000000 := by rw [Nat.pow_succ, Nat.div_div_eq_div_mul]
  have e2 : x / d / 1000000 ^ k = x / 1000000 ^ k / d := by rw [Nat.div_div_eq_div_mul, Nat.div_div_eq_div_mul, Nat.mul_comm]
  unfold nd
  rw [e1, e2]
  generalize x / 1000000 ^ k = X
  have h1 : X = d * (1000000 * (X / 1000000 / d)) + (X / 1000000 % d * 1000000 + X % 1000000) := by
    have a1 := Nat.div_add_mod X 1000000
    have a2 := Nat.div_add_mod (X / 1000000) d
    have a3 : 1000000 * (X / 1000000) = 1000000 * (d * (X / 1000000 / d)) + 1000000 * (X / 1000000 % d) := by rw [← Nat.mul_add, a2]
    rw [Nat.mul_left_comm] at a3
    omega
  have h2 : X / 1000000 % d * 1000000 + X % 1000000 < d * 1000000 := by
    have a1 := Nat.mod_lt (X / 1000000) hd
    have a2 : (X / 1000000 % d + 1) * 1000000 ≤ d * 1000000 := Nat.mul_le_mul_right _ (by omega)
    omega
  generalize hdv : X / 1000000 % d * 1000000 + X % 1000000 = dv at h1 h2
  have h3 : dv / d < 1000000 := Nat.div_lt_of_lt_mul h2
  have h4 : X / d = 1000000 * (X / 1000000 / d) + dv / d := by
    conv => lhs; rw [h1]
    rw [Nat.mul_add_div hd]
  have h5 : X % d = dv % d := by
    conv => lhs; rw [h1]
    rw [Nat.mul_add_mod]
  exact ⟨by rw [h4, Nat.mul_add_mod, Nat.mod_eq_of_lt h3], h5.symm⟩
theorem wdig_tdiv (v : Int) (d j : Nat) : wdig (v.tdiv d) j = if v < 0 then - (nd (v.natAbs / d) j : Int) else (nd (v.natAbs / d) j : Int) := by
  have ea : (v.tdiv d).natAbs = v.natAbs / d := by rw [Int.natAbs_tdiv]; rfl
  by_cases hv : v < 0
  · rw [if_pos hv]
    by_cases h0 : v.natAbs / d = 0
    · have hz : v.tdiv d = 0 := by omega
      have hn : nd 0 j = 0 := nd_zero (bp_pos j)
      rw [hz, wdig_0, h0, hn]
      rfl
    · have hn : v.tdiv d < 0 := by
        have h1 : 0 ≤ (-v).tdiv d := Int.tdiv_nonneg (by omega) (Int.natCast_nonneg d)
        rw [Int.neg_tdiv] at h1
        omega
      unfold wdig
      rw [if_pos hn, ea]
  · have hn : 0 ≤ v.tdiv d := Int.tdiv_nonneg (by omega) (Int.natCast_nonneg d)
    rw [if_neg hv, wdig_nn hn, ea]
theorem nat_td (m n : Nat) : (m : Int).tdiv (n : Int) = ((m / n : Nat) : Int) := rfl
theorem nat_tm (m n : Nat) : (m : Int).tmod (n : Int) = ((m % n : Nat) : Int) := rfl
theorem small_step (v : Int) {d : Nat} (hd : 0 < d) (k : Nat) : (rs v d (k + 1) * 1000000 + wdig v k).tdiv d = wdig (v.tdiv d) k ∧ (rs v d (k + 1) * 1000000 + wdig v k).tmod d = rs v d k := by
  obtain ⟨h1, h2⟩ := small_nat v.natAbs hd k
  rw [wdig_tdiv]
  unfold rs wdig
  by_cases hv : v < 0
  · simp only [if_pos hv]
    have e : -((v.natAbs / 1000000 ^ (k + 1) % d : Nat) : Int) * 1000000 + -((nd v.natAbs k : Nat) : Int) = -((v.natAbs / 1000000 ^ (k + 1) % d * 1000000 + nd v.natAbs k : Nat) : Int) := by
      rw [Int.natCast_add, Int.natCast_mul]
      omega
    rw [e, Int.neg_tdiv, Int.neg_tmod, nat_td, nat_tm, h1, h2]
    exact ⟨rfl, rfl⟩
  · simp only [if_neg hv]
    have e : ((v.natAbs / 1000000 ^ (k + 1) % d : Nat) : Int) * 1000000 + ((nd v.natAbs k : Nat) : Int) = ((v.natAbs / 1000000 ^ (k + 1) % d * 1000000 + nd v.natAbs k : Nat) : Int) := by
      rw [Int.natCast_add, Int.natCast_mul]
      omega
    rw [e, nat_td, nat_tm, h1, h2]
    exact ⟨rfl, rfl⟩
theorem tdiv_lt {v : Int} {d n : Nat} (h : v.natAbs < 1000000 ^ n) : (v.tdiv d).natAbs < 1000000 ^ n := Nat.lt_of_le_of_lt (Int.natAbs_tdiv_le_natAbs v d) h
-- reaching
theorem reach_iff {x y : Int} (hx : 0 ≤ x) (hy : 0 ≤ y) (s : Nat) : y * 1000000 ^ s ≤ x ↔ y ≤ ((x.natAbs / 1000000 ^ s : Nat) : Int) := by
  have h := Nat.le_div_iff_mul_le (x := y.natAbs) (y := x.natAbs) (bp_pos s)
  have e : y * 1000000 ^ s = ((y.natAbs * 1000000 ^ s : Nat) : Int) := by rw [Int.natCast_mul, bp_cast, abs_pos hy]
  rw [e]
  constructor
  · intro h1
    have : y.natAbs ≤ x.natAbs / 1000000 ^ s := h.mpr (by omega)
    omega
  · intro h1
    have : y.natAbs * 1000000 ^ s ≤ x.natAbs := h.mp (by omega)
    omega
theorem reach_gt {x y : Int} {m1 m2 k1 k2 s : Nat} (hx : 0 ≤ x) (hy : 0 ≤ y) (h1 : wk x m1 k1) (h2 : wk y m2 k2) (h : k2 + s < k1) : y * 1000000 ^ s ≤ x := by
  rw [reach_iff hx hy]
  have a1 := h1.2.2 (by omega)
  have a2 := h2.2.1
  have a3 : 1000000 ^ k2 ≤ x.natAbs / 1000000 ^ s := (Nat.le_div_iff_mul_le (bp_pos s)).mpr (by rw [← Nat.pow_add]; exact Nat.le_trans (bp_mono (by omega)) a1)
  omega
theorem reach_lt {x y : Int} {m1 m2 k1 k2 s : Nat} (hx : 0 ≤ x) (hy : 0 < y) (h1 : wk x m1 k1) (h2 : wk y m2 k2) (h : k1 < k2 + s) : ¬ y * 1000000 ^ s ≤ x := by
  rw [reach_iff hx (by omega)]
  have hk : 0 < k2 := by
    by_cases e : k2 = 0
    · have := (wk_z h2).mp e; omega
    · omega
  have a1 := h2.2.2 hk
  have a2 : x.natAbs < 1000000 ^ (k2 - 1 + s) := Nat.lt_of_lt_of_le h1.2.1 (bp_mono (by omega))
  have a3 : x.natAbs / 1000000 ^ s < 1000000 ^ (k2 - 1) := (Nat.div_lt_iff_lt_mul (bp_pos s)).mpr (by rw [← Nat.pow_add]; exact a2)
  omega
theorem reach_sz {x : Int} {k2 s : Nat} (h : x.natAbs < 1000000 ^ (k2 + s)) : (((x.natAbs / 1000000 ^ s : Nat)) : Int).natAbs < 1000000 ^ k2 := by
  rw [Int.natAbs_natCast]
  exact (Nat.div_lt_iff_lt_mul (bp_pos s)).mpr (by rw [← Nat.pow_add]; exact h)
-- guessing
theorem top3 {x t : Nat} (h : x < 1000000 ^ (t + 3)) : (nd x (t + 2) * 1000000 + nd x (t + 1)) * 1000000 + nd x t = x / 1000000 ^ t := by
  have h1 : x / 1000000 ^ t < 1000000 ^ 3 := (Nat.div_lt_iff_lt_mul (bp_pos t)).mpr (by rw [← Nat.pow_add, Nat.add_comm]; exact h)
  have e1 : x / 1000000 ^ (t + 1) = x / 1000000 ^ t / 1000000 := by rw [Nat.pow_succ, Nat.div_div_eq_div_mul]
  have e2 : x / 1000000 ^ (t + 2) = x / 1000000 ^ t / 1000000 / 1000000 := by rw [Nat.pow_succ, Nat.pow_succ, Nat.div_div_eq_div_mul, Nat.div_div_eq_div_mul, Nat.mul_assoc]
  unfold nd
  rw [e1, e2]
  generalize x / 1000000 ^ t = X at h1
  simp at h1
  omega
theorem sand {x t : Nat} (c : Nat) : x / 1000000 ^ t * 1000000 ^ (t + c) ≤ x * 1000000 ^ c ∧ x * 1000000 ^ c < (x / 1000000 ^ t + 1) * 1000000 ^ (t + c) := by
  have h1 := Nat.div_mul_le_self x (1000000 ^ t)
  have h2 := Nat.lt_div_mul_add (a := x) (bp_pos t)
  rw [Nat.pow_add, ← Nat.mul_assoc, ← Nat.mul_assoc]
  exact ⟨Nat.mul_le_mul_right _ h1, Nat.mul_lt_mul_of_pos_right (by rw [Nat.add_mul, Nat.one_mul]; exact h2) (bp_pos c)⟩
theorem mine_ok {x : Int} {u : Nat} (hx : 0 ≤ x) (hu : 0 < u) (h : x.natAbs < 1000000 ^ (u + 1)) : ∃ M : Nat, (lb x (u : Int) * 1000000 + lb x ((u : Int) - 1)) * 1000000 + lb x ((u : Int) - 2) = (M : Int) ∧ M < 1000000000000000000 ∧ M * 1000000 ^ u ≤ x.natAbs * 1000000 ^ 2 ∧ x.natAbs * 1000000 ^ 2 < (M + 1) * 1000000 ^ u := by
  have b0 := nd_lt x.natAbs u
  rcases Nat.lt_or_ge u 2 with h1 | h1
  · have e : u = 1 := by omega
    subst e
    refine ⟨x.natAbs * 1000000, ?_, ?_, ?_, ?_⟩
    · have e1 : lb x ((1 : Nat) : Int) = (nd x.natAbs 1 : Int) := by rw [lb_n, wdig_nn hx]
      have e2 : lb x (((1 : Nat) : Int) - 1) = (nd x.natAbs 0 : Int) := by rw [show ((1 : Nat) : Int) - 1 = ((0 : Nat) : Int) by omega, lb_n, wdig_nn hx]
      have e3 : lb x (((1 : Nat) : Int) - 2) = 0 := by unfold lb; rw [if_neg (by omega)]
      rw [e1, e2, e3]
      have e4 : nd x.natAbs 0 = x.natAbs % 1000000 := by unfold nd; simp
      have e5 : nd x.natAbs 1 = x.natAbs / 1000000 % 1000000 := by unfold nd; simp
      rw [e4, e5]
      simp at h
      omega
    · simp at h
      omega
    · omega
    · omega
  · obtain ⟨t, rfl⟩ : ∃ t, u = t + 2 := ⟨u - 2, by omega⟩
    have e := top3 (x := x.natAbs) (t := t) h
    obtain ⟨s1, s2⟩ := sand (x := x.natAbs) (t := t) 2
    refine ⟨x.natAbs / 1000000 ^ t, ?_, ?_, s1, s2⟩
    · rw [← e, lb_n, wdig_nn hx, show ((t + 2 : Nat) : Int) - 1 = ((t + 1 : Nat) : Int) by omega, lb_n, wdig_nn hx, show ((t + 2 : Nat) : Int) - 2 = ((t : Nat) : Int) by omega, lb_n, wdig_nn hx]
      omega
    · have h1 : x.natAbs / 1000000 ^ t < 1000000 ^ 3 := (Nat.div_lt_iff_lt_mul (bp_pos t)).mpr (by rw [← Nat.pow_add, Nat.add_comm]; exact h)
      simp at h1
      omega
theorem others_ok {y : Int} {n k : Nat} (hy : 0 < y) (h : wk y n k) : ∃ O : Nat, lb y ((k : Int) - 1) * 1000000 + lb y ((k : Int) - 2) + 1 = (O : Int) ∧ 1000000 < O ∧ O ≤ 1000000000000 ∧ (O - 1) * 1000000 ^ k ≤ y.natAbs * 1000000 ^ 2 ∧ y.natAbs * 1000000 ^ 2 < O * 1000000 ^ k := by
  have hk : 0 < k := by
    by_cases e : k = 0
    · have := (wk_z h).mp e; omega
    · omega
  have ht := (wdig_top h hk).2 hy
  have hb := wdig_b y (k - 1)
  have e1 : lb y ((k : Int) - 1) = wdig y (k - 1) := by rw [show (k : Int) - 1 = ((k - 1 : Nat) : Int) by omega, lb_n]
  rcases Nat.lt_or_ge k 2 with h1 | h1
  · have e : k = 1 := by omega
    subst e
    have hl := h.2.1
    simp at hl
    have e2 : wdig y (1 - 1) = y := by
      rw [wdig_nn (by omega)]
      unfold nd
      simp
      omega
    rw [e2] at e1
    have e3 : lb y (((1 : Nat) : Int) - 2) = 0 := by unfold lb; rw [if_neg (by omega)]
    refine ⟨y.natAbs * 1000000 + 1, ?_, ?_, ?_, ?_, ?_⟩
    · rw [e1, e3]; omega
    · omega
    · omega
    · omega
    · omega
  · obtain ⟨t, rfl⟩ : ∃ t, k = t + 2 := ⟨k - 2, by omega⟩
    have hl := h.2.1
    have hX : y.natAbs / 1000000 ^ t < 1000000 ^ 2 := (Nat.div_lt_iff_lt_mul (bp_pos t)).mpr (by rw [← Nat.pow_add, Nat.add_comm]; exact hl)
    have e4 : y.natAbs / 1000000 ^ (t + 1) = y.natAbs / 1000000 ^ t / 1000000 := by rw [Nat.pow_succ, Nat.div_div_eq_div_mul]
    have e3 : lb y (((t + 2 : Nat) : Int) - 2) = wdig y t := by rw [show ((t + 2 : Nat) : Int) - 2 = ((t : Nat) : Int) by omega, lb_n]
    have e5 : wdig y (t + 2 - 1) = ((y.natAbs / 1000000 ^ t / 1000000 : Nat) : Int) := by
      rw [show t + 2 - 1 = t + 1 by omega, wdig_nn (by omega)]
      unfold nd
      rw [e4, Nat.mod_eq_of_lt (Nat.div_lt_of_lt_mul (by rw [← Nat.pow_two]; exact hX))]
    have e6 : wdig y t = ((y.natAbs / 1000000 ^ t % 1000000 : Nat) : Int) := by
      rw [wdig_nn (by omega)]
      rfl
    obtain ⟨s1, s2⟩ := sand (x := y.natAbs) (t := t) 2
    rw [e5] at ht e1
    generalize hXe : y.natAbs / 1000000 ^ t = X at *
    simp at hX
    refine ⟨X + 1, ?_, ?_, ?_, ?_, s2⟩
    · rw [e1, e3, e6]; omega
    · omega
    · omega
    · rw [Nat.add_sub_cancel]; exact s1
theorem guess_ok {x y k s M O : Nat} (hy : 0 < y) (hx : x < y * 1000000 ^ (s + 1)) (hM1 : M * 1000000 ^ (k + s) ≤ x * 1000000 ^ 2) (hM2 : x * 1000000 ^ 2 < (M + 1) * 1000000 ^ (k + s)) (hO1 : (O - 1) * 1000000 ^ k ≤ y * 1000000 ^ 2) (hO2 : y * 1000000 ^ 2 < O * 1000000 ^ k) (hO : 1000000 < O) : M / O * (y * 1000000 ^ s) ≤ x ∧ x < (M / O + 3) * (y * 1000000 ^ s) := by
  have hz1 : M / O * O ≤ M := Nat.div_mul_le_self M O
  have hz2 : M < M / O * O + O := Nat.lt_div_mul_add (by omega)
  generalize M / O = z at *
  have hP := bp_pos k
  have hS := bp_pos s
  rw [Nat.pow_add] at hM1 hM2
  rw [Nat.pow_succ] at hx
  generalize 1000000 ^ k = P at *
  generalize 1000000 ^ s = S at *
  have c1 : z * (y * S) ≤ x := by
    have a1 : z * S * (y * 1000000 ^ 2) ≤ z * S * (O * P) := Nat.mul_le_mul_left _ (by omega)
    have a2 : z * O * (P * S) ≤ M * (P * S) := Nat.mul_le_mul_right _ hz1
    have e1 : z * S * (y * 1000000 ^ 2) = z * (y * S) * 1000000 ^ 2 := by
      rw [Nat.mul_assoc, Nat.mul_assoc, ← Nat.mul_assoc S, Nat.mul_comm S y]
    have e2 : z * S * (O * P) = z * O * (P * S) := by
      rw [Nat.mul_assoc, Nat.mul_assoc, Nat.mul_left_comm S, Nat.mul_comm S P]
    have a3 : z * (y * S) * 1000000 ^ 2 ≤ x * 1000000 ^ 2 := by omega
    exact Nat.le_of_mul_le_mul_right a3 (by omega)
  refine ⟨c1, ?_⟩
  have hyS : 0 < y * S := Nat.mul_pos hy hS
  have hzB : z < 1000000 := by
    rcases Nat.lt_or_ge z 1000000 with h | h
    · exact h
    · have : 1000000 * (y * S) ≤ z * (y * S) := Nat.mul_le_mul_right _ h
      rw [← Nat.mul_assoc] at hx
      omega
  have a1 : (M + 1) * (P * S) ≤ (z + 1) * O * (P * S) := Nat.mul_le_mul_right _ (by rw [Nat.add_mul, Nat.one_mul]; omega)
  have a2 : (z + 1) * O ≤ (z + 3) * (O - 1) := by
    obtain ⟨o, rfl⟩ : ∃ o, O = o + 1 := ⟨O - 1, by omega⟩
    rw [Nat.add_sub_cancel, Nat.add_mul, Nat.add_mul, Nat.mul_add]
    omega
  have a3 : (z + 1) * O * (P * S) ≤ (z + 3) * (O - 1) * (P * S) := Nat.mul_le_mul_right _ a2
  have a4 : (z + 3) * S * ((O - 1) * P) ≤ (z + 3) * S * (y * 1000000 ^ 2) := Nat.mul_le_mul_left _ hO1
  have e1 : (z + 3) * S * ((O - 1) * P) = (z + 3) * (O - 1) * (P * S) := by
    rw [Nat.mul_assoc, Nat.mul_assoc, Nat.mul_left_comm S, Nat.mul_comm S P]
  have e2 : (z + 3) * S * (y * 1000000 ^ 2) = (z + 3) * (y * S) * 1000000 ^ 2 := by
    rw [Nat.mul_assoc, Nat.mul_assoc, ← Nat.mul_assoc S, Nat.mul_comm S y]
  have a5 : x * 1000000 ^ 2 < (z + 3) * (y * S) * 1000000 ^ 2 := Nat.lt_of_lt_of_le hM2 (Nat.le_trans a1 (Nat.le_trans a3 (by rw [← e1, ← e2]; exact a4)))
  exact Nat.lt_of_mul_lt_mul_right a5
-- taking away
def ta (x y t : Int) (s : Nat) (j : Nat) : Int := if j < s then wdig x j else wdig x j - t * lb y ((j : Int) - (s : Int))
theorem wv_sh (g : Nat → Int) (s : Nat) : ∀ m : Nat, wv (fun j => if j < s then 0 else g (j - s)) (s + m) = 1000000 ^ s * wv g m
  | 0 => by
    rw [wv_congr (g := fun _ => 0) (fun j hj => by simp; omega), wv_zero]
    simp [wv]
  | m + 1 => by
    show wv _ (s + m) + (if s + m < s then 0 else g (s + m - s)) * 1000000 ^ (s + m) = 1000000 ^ s * (wv g m + g m * 1000000 ^ m)
    rw [wv_sh g s m, if_neg (by omega), show s + m - s = m by omega, bp_add, Int.mul_add, Int.mul_left_comm]
theorem wv_ta {x y t : Int} {m k1 k2 s : Nat} (hy : wk y m k2) (h : k2 + s ≤ k1) (hx : x.natAbs < 1000000 ^ k1) : wv (ta x y t s) k1 = x - t * (y * 1000000 ^ s) := by
  have e1 : wv (ta x y t s) k1 = wv (fun j => wdig x j + (-t) * (fun j => if j < s then 0 else wdig y (j - s)) j) k1 := wv_congr (fun j _ => by
    unfold ta
    by_cases e : j < s
    · simp [e]
    · simp only [if_neg e]
      rw [show (j : Int) - (s : Int) = ((j - s : Nat) : Int) by omega, lb_n, Int.neg_mul]
      omega)
  obtain ⟨r, rfl⟩ : ∃ r, k1 = s + r := ⟨k1 - s, by omega⟩
  rw [e1, wv_lin, wv_wdig hx, wv_sh, wv_wdig (Nat.lt_of_lt_of_le hy.2.1 (bp_mono (by omega))), Int.neg_mul, Int.mul_comm (1000000 ^ s) y]
  omega
theorem ta_lo {x y t : Int} (hx : 0 ≤ x) {s : Nat} : ∀ j, j ≤ s → sc (ta x y t s) j = 0
  | 0, _ => rfl
  | j + 1, hj => by
    have ih := ta_lo (x := x) (y := y) (t := t) hx (s := s) j (by omega)
    have e : sc (ta x y t s) (j + 1) = (ta x y t s j + sc (ta x y t s) j) / 1000000 := rfl
    rw [e, ih]
    unfold ta
    rw [if_pos (by omega)]
    have h1 := wdig_b x j
    have h2 := (wdig_sg (v := x) j).1 hx
    omega
theorem ta_sd {x y t : Int} (hx : 0 ≤ x) {s j : Nat} (hj : j < s) : sd (ta x y t s) j = wdig x j := by
  have e : sd (ta x y t s) j = ta x y t s j + sc (ta x y t s) j - sc (ta x y t s) (j + 1) * 1000000 := rfl
  rw [e, ta_lo hx j (by omega), ta_lo hx (j + 1) (by omega)]
  unfold ta
  rw [if_pos hj]
  omega
end
section
/-! the class's whole numbers: divideSmall, reaches, guess, takeAway -/
theorem rs_top {v : Int} {n k d : Nat} (h : wk v n k) : rs v d k = 0 := by
  unfold rs
  rw [Nat.div_eq_of_lt h.2.1, Nat.zero_mod]
  split <;> rfl
theorem sc_nn {f : Nat → Int} {n : Nat} (h : 0 ≤ wv f n) : 0 ≤ sc f n := by
  have e := wv_sd f n
  obtain ⟨_, a2, _⟩ := dig_pos (d := sd f) (n := n) (fun j _ => sd_b f j)
  have hp := bp_posI n
  by_cases hc : 0 ≤ sc f n
  · exact hc
  · have : sc f n * 1000000 ^ n ≤ (-1) * 1000000 ^ n := Int.mul_le_mul_of_nonneg_right (by omega) (by omega)
    omega
theorem mul_b2 {x y : Int} (hx : -1000000 ≤ x ∧ x ≤ 1000000) (hy : -1000000 < y ∧ y < 1000000) : -1000000000000 ≤ x * y ∧ x * y ≤ 1000000000000 := by
  have h : (x * y).natAbs ≤ 1000000 * 1000000 := by rw [Int.natAbs_mul]; exact Nat.mul_le_mul (by omega) (by omega)
  omega
theorem guess_int {x y : Int} {k s M O : Nat} (hx0 : 0 ≤ x) (hy : 0 < y) (hx : x < y * 1000000 ^ (s + 1)) (hM1 : M * 1000000 ^ (k + s) ≤ x.natAbs * 1000000 ^ 2) (hM2 : x.natAbs * 1000000 ^ 2 < (M + 1) * 1000000 ^ (k + s)) (hO1 : (O - 1) * 1000000 ^ k ≤ y.natAbs * 1000000 ^ 2) (hO2 : y.natAbs * 1000000 ^ 2 < O * 1000000 ^ k) (hO : 1000000 < O) : (0 : Int) ≤ ((M / O : Nat) : Int) ∧ ((M / O : Nat) : Int) * (y * 1000000 ^ s) ≤ x ∧ x < (((M / O : Nat) : Int) + 3) * (y * 1000000 ^ s) := by
  obtain ⟨xn, rfl⟩ : ∃ xn : Nat, x = (xn : Int) := ⟨x.natAbs, by omega⟩
  obtain ⟨yn, rfl⟩ : ∃ yn : Nat, y = (yn : Int) := ⟨y.natAbs, by omega⟩
  rw [Int.natAbs_natCast] at *
  have h1 : xn < yn * 1000000 ^ (s + 1) := by
    have e : ((yn * 1000000 ^ (s + 1) : Nat) : Int) = (yn : Int) * 1000000 ^ (s + 1) := by rw [Int.natCast_mul, bp_cast]
    omega
  obtain ⟨a1, a2⟩ := guess_ok (by omega) h1 hM1 hM2 hO1 hO2 hO
  have e1 : ((M / O * (yn * 1000000 ^ s) : Nat) : Int) = ((M / O : Nat) : Int) * ((yn : Int) * 1000000 ^ s) := by rw [Int.natCast_mul, Int.natCast_mul, bp_cast]
  have e2 : (((M / O + 3) * (yn * 1000000 ^ s) : Nat) : Int) = (((M / O : Nat) : Int) + 3) * ((yn : Int) * 1000000 ^ s) := by rw [Int.natCast_mul, Int.natCast_mul, bp_cast, Int.natCast_add]; rfl
  refine ⟨Int.natCast_nonneg _, ?_, ?_⟩
  · rw [← e1]; omega
  · rw [← e2]; omega
set_option maxHeartbeats 4000000 in
set_option maxRecDepth 100000 in
/-- divideSmall(d): towards 0 -/
theorem c_divideSmall (l : Launch) (D : va_G) (E : Nat → ClassId) (a n d : Nat) (v : Int) (hn : n < 1000) (hd1 : 1 ≤ d) (hd2 : d ≤ 1000000) : pw_M rvV l D E yX8_divideSmall wsX8_divideSmall ({ frames := 1, cells := 0, slots := 0, locals := 20 } : Room) [.ref (a), .int (iI ((d : Int)))] (fun H => WH D E a n v H) (fun _ H => WH D E a n (v.tdiv d) H) (fun q => q = a ∨ q = a + 1) (0) (0) := by
  refine pw_of (cc := cX8_divideSmall) (maxL := 7) (ret := none) (by decide +kernel) rfl (Nat.le_of_ble_eq_true rfl) ?_
  intro p e s m args below meth c hx hb hr hml hts hown hlocks hini hK ⟨ka, ⟨hO, hL⟩, hka⟩ ls hl
  have hown : s.vm.findClass RX8 = some m.cls := hown
  have hl : lv_has ls 7 [(0, .ref (a)), (1, .int (iI ((d : Int))))] := hl
  have hS : va_S (fun q => q = a ∨ q = a + 1) s.heap s.heap [] := va_S.rf
  have lk_7 := hts (.fieldLink RX8 7 "PolicyWorks$Whole" "limbs" "[J") (by decide +kernel)
  have lk_13 := hts (.fieldLink RX8 13 "PolicyWorks$Whole" "size" "I") (by decide +kernel)
  have kc_44 := hts (.constantLong RX8 44 (1000000)) (by decide +kernel)
  have hin8 : ∀ w ∈ wsX80, w ∈ wsX8_divideSmall := by decide +kernel
  have hka1 := hka.1
  have hqb := int_lt (tdiv_lt (d := d) (wh_bound hka))
  have loop : ∀ (k : Nat) (g : Nat → Int) (H : Heap) (locs : List Loc) (ls : Array Slot), k ≤ ka → (∀ j, j < k → g j = wdig v j) → (∀ j, k ≤ j → j < n → g j = wdig (v.tdiv d) j) → OA D (a) 8 [.ref (a + 1), .int (iI ((ka : Int))), .int (iI (v.sign))] H → LA E (a + 1) n g H → va_S (fun q => q = a ∨ q = a + 1) s.heap H locs → lv_has ls 7 [(0, .ref (a)), (1, .int (iI ((d : Int)))), (2, .long (lI (rs v d k))), (4, .int (iI ((k : Int) - 1)))] → W p l e ({ frames := 1, cells := 0, slots := 0, locals := 20 } : Room) s m args below meth c H locs (0) (0) (MQ below (pw_Q rvV (fun _ H => WH D E a n (v.tdiv d) H) (fun q => q = a ∨ q = a + 1)) args s (0) (0) (fun q => q = a ∨ q = a + 1)) (F0 m 16 ls []) := by
    intro k
    induction k with
    | zero =>
      intro g H locs ls hk h0 h1 hO hL hS hl
      have hL := hL.up (g := wdig (v.tdiv d)) (fun j hj => h1 j (by omega) hj)
      refine lv_iload hx hb dX8_divideSmall_16 (lv_at hl 3 rfl) ?_
      refine pw_if_lt (tgt := 60) hx hb dX8_divideSmall_18 (by decide) (fun c_18 => ?_) (fun c_18 => absurd c_18 (by omega))
      refine lv_aload_n hx hb dX8_divideSmall_60 rfl (lv_at hl 0 rfl) ?_
      refine pw_callVv (As := []) (rest := []) ⟨hx, hb, hml, hown, hts⟩ (c_measure l D E a n (wdig (v.tdiv d)) ka v.sign hn (fun j hj => by have := wdig_b (v.tdiv d) j; omega)) (cwV 0 hts gX8_divideSmall_X8_measure rfl rfl rfl (by decide +kernel) ⟨Nat.le_of_ble_eq_true rfl, Nat.le_of_ble_eq_true rfl⟩) hK hO rfl ⟨hO, hL⟩ rfl hl.1 rfl (Nat.le_of_ble_eq_true rfl) dX8_divideSmall_61 ⟨Nat.zero_le _, Nat.zero_le _⟩ hS (fun q h => h) (fun H1 locs1 ⟨k, hk, h0, h1, hW⟩ hz1 hk1 hS => ?_)
      exact pw_vret hx hb hr hlocks hS (wh_of hqb.1 hqb.2 (fun j _ => rfl) hk h0 h1 hW) dX8_divideSmall_64
    | succ k ih =>
      intro g H locs ls hk h0 h1 hO hL hS hl
      have hgk := h0 k (by omega)
      have b1 := rs_b v (d := d) (by omega) (k + 1)
      have b2 := wdig_b v k
      have st := small_step v (d := d) (by omega) k
      refine lv_iload hx hb dX8_divideSmall_16 (lv_at hl 3 rfl) ?_
      refine pw_if_lt (tgt := 60) hx hb dX8_divideSmall_18 (by decide) (fun c_18 => absurd c_18 (by omega)) (fun c_18 => ?_)
      refine lv_lload_n hx hb dX8_divideSmall_21 rfl (lv_at hl 2 rfl) ?_
      refine pw_ldc2 (z := 1000000) hx hb hown kc_44 (by decide +kernel) dX8_divideSmall_22 ?_
      refine pw_lmul hx hb dX8_divideSmall_25 ?_
      refine lv_aload_n hx hb dX8_divideSmall_26 rfl (lv_at hl 0 rfl) ?_
      refine pw_get (C := RX8) (T := TX8) (N := 3) hx hb hts hin8 hown hK hO rfl 0 (by decide) lk_7 rfl rfl dX8_divideSmall_27 ?_
      refine lv_iload hx hb dX8_divideSmall_30 (lv_at hl 3 rfl) ?_
      refine pw_lald hx hb hK hL (k) (by omega) (by omega) (by omega) dX8_divideSmall_32 ?_
      refine pw_asl (wdig v k) hgk ?_
      refine pw_ladd hx hb dX8_divideSmall_33 ?_
      refine lv_lstore (lv' := [(5, .long (lI (((rs v d (k + 1)) * (1000000)) + (wdig v k)))), (0, .ref (a)), (1, .int (iI ((d : Int)))), (2, .long (lI (rs v d (k + 1)))), (4, .int (iI (((k + 1 : Nat) : Int) - 1)))]) hx hb dX8_divideSmall_34 hl (by decide) rfl (fun ls hl => ?_)
      refine lv_aload_n hx hb dX8_divideSmall_36 rfl (lv_at hl 1 rfl) ?_
      refine pw_get (C := RX8) (T := TX8) (N := 3) hx hb hts hin8 hown hK hO rfl 0 (by decide) lk_7 rfl rfl dX8_divideSmall_37 ?_
      refine lv_iload hx hb dX8_divideSmall_40 (lv_at hl 4 rfl) ?_
      refine lv_lload hx hb dX8_divideSmall_42 (lv_at hl 0 rfl) ?_
      refine lv_iload_n hx hb dX8_divideSmall_44 rfl (lv_at hl 2 rfl) ?_
      refine pw_i2l hx hb dX8_divideSmall_45 ?_
      refine pw_ldiv hx hb dX8_divideSmall_46 (by omega) ?_
      refine pw_asl (wdig (v.tdiv d) k) st.1 ?_
      refine pw_last hx hb hK hL hS (Or.inr rfl) (k) (by omega) (by omega) (by omega) dX8_divideSmall_47 (fun H1 locs1 hnew hz1 oq hS => ?_)
      have hO := hO.k (oq _ (by omega))
      have hL := hnew
      clear hnew oq hz1
      refine lv_lload hx hb dX8_divideSmall_48 (lv_at hl 0 rfl) ?_
      refine lv_iload_n hx hb dX8_divideSmall_50 rfl (lv_at hl 2 rfl) ?_
      refine pw_i2l hx hb dX8_divideSmall_51 ?_
      refine pw_lrem hx hb dX8_divideSmall_52 (by omega) ?_
      refine pw_asl (rs v d k) st.2 ?_
      refine lv_lstore_n (lv' := [(2, .long (lI (rs v d k))), (5, .long (lI (((rs v d (k + 1)) * (1000000)) + (wdig v k)))), (0, .ref (a)), (1, .int (iI ((d : Int)))), (4, .int (iI (((k + 1 : Nat) : Int) - 1)))]) hx hb dX8_divideSmall_53 rfl hl (by decide) rfl (fun ls hl => ?_)
      refine lv_iinc (v := iI ((k : Int) - 1)) (lv' := [(4, .int (iI ((k : Int) - 1))), (2, .long (lI (rs v d k))), (5, .long (lI (((rs v d (k + 1)) * (1000000)) + (wdig v k)))), (0, .ref (a)), (1, .int (iI ((d : Int))))]) hx hb dX8_divideSmall_54 hl (k := 4) rfl (by show iI _ + iI _ = _; rw [iI_add]; first | rfl | (congr 1; omega)) (by decide) rfl (fun ls hl => ?_)
      refine lv_goto (tgt := 16) hx hb dX8_divideSmall_57 (by decide) ?_
      exact ih _ _ _ _ (by omega) (fun j hj => by rw [ud_n _ _ (by omega)]; exact h0 j (by omega)) (fun j h2 h3 => by
        by_cases e : j = k
        · rw [e, ud_s]
        · rw [ud_n _ _ e]; exact h1 j (by omega) h3) hO hL hS (lv_sub hl [3, 4, 1, 0] rfl)
  refine lv_iload_n hx hb dX8_divideSmall_0 rfl (lv_at hl 1 rfl) ?_
  refine pw_iconst hx hb dX8_divideSmall_1 ?_
  refine pw_icmp_ge (tgt := 6) hx hb dX8_divideSmall_2 (by decide) (fun c_2 => ?_) (fun c_2 => absurd c_2 (by omega))
  refine pw_lconst (z := 0) hx hb dX8_divideSmall_6 ?_
  refine lv_lstore_n (lv' := [(2, .long (lI (0))), (0, .ref (a)), (1, .int (iI ((d : Int))))]) hx hb dX8_divideSmall_7 rfl hl (by decide) rfl (fun ls hl => ?_)
  refine lv_aload_n hx hb dX8_divideSmall_8 rfl (lv_at hl 1 rfl) ?_
  refine pw_get (C := RX8) (T := TX8) (N := 3) hx hb hts hin8 hown hK hO rfl 1 (by decide) lk_13 rfl rfl dX8_divideSmall_9 ?_
  refine pw_iconst hx hb dX8_divideSmall_12 ?_
  refine pw_isub hx hb dX8_divideSmall_13 ?_
  refine lv_istore (lv' := [(4, .int (iI (((ka : Int)) - (1)))), (2, .long (lI (0))), (0, .ref (a)), (1, .int (iI ((d : Int))))]) hx hb dX8_divideSmall_14 hl (by decide) rfl (fun ls hl => ?_)
  have hl : lv_has ls 7 [(0, .ref (a)), (1, .int (iI ((d : Int)))), (2, .long (lI (rs v d ka))), (4, .int (iI ((ka : Int) - 1)))] := by rw [rs_top hka]; exact lv_sub hl [2, 3, 1, 0] rfl
  exact loop ka _ _ _ _ (Nat.le_refl ka) (fun j _ => rfl) (fun j h1 h2 => by rw [wdig_hi hka h1, wdig_zero (Nat.lt_of_lt_of_le (tdiv_lt hka.2.1) (bp_mono h1))]) hO hL hS hl
set_option maxHeartbeats 4000000 in
set_option maxRecDepth 100000 in
/-- reaches(by, shift) -/
theorem c_reaches (l : Launch) (D : va_G) (E : Nat → ClassId) (a n b nb sh : Nat) (x y : Int) (hn : n < 1000) (hnb : nb < 1000) (hs : sh < 1000) (hx0 : 0 ≤ x) (hy0 : 0 < y) : pw_M rvI l D E yX8_reaches wsX8_reaches ({ frames := 0, cells := 0, slots := 0, locals := 0 } : Room) [.ref (a), .ref (b), .int (iI ((sh : Int)))] (fun H => WH D E a n x H ∧ WH D E b nb y H) (fun z H => z = (if y * 1000000 ^ sh ≤ x then 1 else 0) ∧ True) (fun _ => False) (0) (0) := by
  refine pw_of (cc := cX8_reaches) (maxL := 4) (ret := (some .boolean)) (by decide +kernel) rfl (Nat.le_of_ble_eq_true rfl) ?_
  intro p e s m args below meth c hx hb hr hml hts hown hlocks hini hK ⟨⟨ka, ⟨hO, hL⟩, hka⟩, kb, ⟨hOb, hLb⟩, hkb⟩ ls hl
  have hown : s.vm.findClass RX8 = some m.cls := hown
  have hl : lv_has ls 4 [(0, .ref (a)), (1, .ref (b)), (2, .int (iI ((sh : Int))))] := hl
  have hS : va_S (fun _ => False) s.heap s.heap [] := va_S.rf
  have lk_7 := hts (.fieldLink RX8 7 "PolicyWorks$Whole" "limbs" "[J") (by decide +kernel)
  have lk_13 := hts (.fieldLink RX8 13 "PolicyWorks$Whole" "size" "I") (by decide +kernel)
  have hin8 : ∀ w ∈ wsX80, w ∈ wsX8_reaches := by decide +kernel
  have hka1 := hka.1
  have hkb1 := hkb.1
  have hri := reach_iff hx0 (show 0 ≤ y by omega) sh
  have loop : ka = kb + sh → ∀ (k : Nat) (H : Heap) (locs : List Loc) (ls : Array Slot), k ≤ kb → (∀ j, k ≤ j → j < kb → wdig x (j + sh) = wdig y j) → OA D (a) 8 [.ref (a + 1), .int (iI ((ka : Int))), .int (iI (x.sign))] H → LA E (a + 1) n (wdig x) H → OA D (b) 8 [.ref (b + 1), .int (iI ((kb : Int))), .int (iI (y.sign))] H → LA E (b + 1) nb (wdig y) H → va_S (fun _ => False) s.heap H locs → lv_has ls 4 [(0, .ref (a)), (1, .ref (b)), (2, .int (iI ((sh : Int)))), (3, .int (iI ((k : Int) - 1)))] → W p l e ({ frames := 0, cells := 0, slots := 0, locals := 0 } : Room) s m args below meth c H locs (0) (0) (MQ below (pw_Q rvI (fun z H => z = (if y * 1000000 ^ sh ≤ x then 1 else 0) ∧ True) (fun _ => False)) args s (0) (0) (fun _ => False)) (F0 m 39 ls []) := by
    intro hkk k
    have hX := reach_sz (x := x) (k2 := kb) (s := sh) (by rw [← hkk]; exact hka.2.1)
    have hw := fun i => wdig_shift hx0 sh i
    induction k with
    | zero =>
      intro H locs ls hk h0 hO hL hOb hLb hS hl
      have e := cmp_eq hX hkb.2.1 (fun j hj => by rw [hw]; exact h0 j (by omega) hj)
      refine lv_iload_n hx hb dX8_reaches_39 rfl (lv_at hl 3 rfl) ?_
      refine pw_if_lt (tgt := 91) hx hb dX8_reaches_40 (by decide) (fun c_40 => ?_) (fun c_40 => absurd c_40 (by omega))
      refine pw_iconst hx hb dX8_reaches_91 ?_
      exact pw_zret hx hb hr hlocks hS (by omega) ⟨by rw [if_pos (hri.mpr (by omega))], trivial⟩ dX8_reaches_92
    | succ k ih =>
      intro H locs ls hk h0 hO hL hOb hLb hS hl
      have b1 := wdig_b x (k + sh)
      have b2 := wdig_b y k
      refine lv_iload_n hx hb dX8_reaches_39 rfl (lv_at hl 3 rfl) ?_
      refine pw_if_lt (tgt := 91) hx hb dX8_reaches_40 (by decide) (fun c_40 => absurd c_40 (by omega)) (fun c_40 => ?_)
      refine lv_aload_n hx hb dX8_reaches_43 rfl (lv_at hl 0 rfl) ?_
      refine pw_get (C := RX8) (T := TX8) (N := 3) hx hb hts hin8 hown hK hO rfl 0 (by decide) lk_7 rfl rfl dX8_reaches_44 ?_
      refine lv_iload_n hx hb dX8_reaches_47 rfl (lv_at hl 3 rfl) ?_
      refine lv_iload_n hx hb dX8_reaches_48 rfl (lv_at hl 2 rfl) ?_
      refine pw_iadd hx hb dX8_reaches_49 ?_
      refine pw_lald hx hb hK hL (k + sh) (by omega) (by omega) (by omega) dX8_reaches_50 ?_
      refine lv_aload_n hx hb dX8_reaches_51 rfl (lv_at hl 1 rfl) ?_
      refine pw_get (C := RX8) (T := TX8) (N := 3) hx hb hts hin8 hown hK hOb rfl 0 (by decide) lk_7 rfl rfl dX8_reaches_52 ?_
      refine lv_iload_n hx hb dX8_reaches_55 rfl (lv_at hl 3 rfl) ?_
      refine pw_lald hx hb hK hLb (k) (by omega) (by omega) (by omega) dX8_reaches_56 ?_
      refine pw_lcmp_eq (tgt := 85) hx hb dX8_reaches_57 dX8_reaches_58 (by decide) (fun c_57 => ?_) (fun c_57 => ?_)
      · refine lv_iinc (v := iI ((k : Int) - 1)) (lv' := [(3, .int (iI ((k : Int) - 1))), (0, .ref (a)), (1, .ref (b)), (2, .int (iI ((sh : Int))))]) hx hb dX8_reaches_85 hl (k := 3) rfl (by show iI _ + iI _ = _; rw [iI_add]; first | rfl | (congr 1; omega)) (by decide) rfl (fun ls hl => ?_)
        refine lv_goto (tgt := 39) hx hb dX8_reaches_88 (by decide) ?_
        exact ih _ _ _ (by omega) (fun j h1 h2 => by
        by_cases e : j = k
        · rw [e]; exact c_57
        · exact h0 j (by omega) h2) hO hL hOb hLb hS (lv_sub hl [1, 2, 3, 0] rfl)
      · refine lv_aload_n hx hb dX8_reaches_61 rfl (lv_at hl 0 rfl) ?_
        refine pw_get (C := RX8) (T := TX8) (N := 3) hx hb hts hin8 hown hK hO rfl 0 (by decide) lk_7 rfl rfl dX8_reaches_62 ?_
        refine lv_iload_n hx hb dX8_reaches_65 rfl (lv_at hl 3 rfl) ?_
        refine lv_iload_n hx hb dX8_reaches_66 rfl (lv_at hl 2 rfl) ?_
        refine pw_iadd hx hb dX8_reaches_67 ?_
        refine pw_lald hx hb hK hL (k + sh) (by omega) (by omega) (by omega) dX8_reaches_68 ?_
        refine lv_aload_n hx hb dX8_reaches_69 rfl (lv_at hl 1 rfl) ?_
        refine pw_get (C := RX8) (T := TX8) (N := 3) hx hb hts hin8 hown hK hOb rfl 0 (by decide) lk_7 rfl rfl dX8_reaches_70 ?_
        refine lv_iload_n hx hb dX8_reaches_73 rfl (lv_at hl 3 rfl) ?_
        refine pw_lald hx hb hK hLb (k) (by omega) (by omega) (by omega) dX8_reaches_74 ?_
        refine pw_lcmp_le (tgt := 83) hx hb dX8_reaches_75 dX8_reaches_76 (by decide) (fun c_75 => ?_) (fun c_75 => ?_)
        · refine pw_iconst hx hb dX8_reaches_83 ?_
          have hlt := cmp_lt hX hkb.2.1 (by omega) (fun j h1 h2 => by rw [hw]; exact h0 j h1 h2) (show _ < wdig y k by rw [hw]; omega)
          exact pw_zret hx hb hr hlocks hS (by omega) ⟨by rw [if_neg (fun h => by have := hri.mp h; omega)], trivial⟩ dX8_reaches_84
        · refine pw_iconst hx hb dX8_reaches_79 ?_
          refine lv_goto (tgt := 84) hx hb dX8_reaches_80 (by decide) ?_
          have hlt := cmp_lt hkb.2.1 hX (by omega) (fun j h1 h2 => by rw [hw]; exact (h0 j h1 h2).symm) (show wdig y k < _ by rw [hw]; exact c_75)
          exact pw_zret hx hb hr hlocks hS (by omega) ⟨by rw [if_pos (hri.mpr (by omega))], trivial⟩ dX8_reaches_84
  refine lv_aload_n hx hb dX8_reaches_0 rfl (lv_at hl 0 rfl) ?_
  refine pw_get (C := RX8) (T := TX8) (N := 3) hx hb hts hin8 hown hK hO rfl 1 (by decide) lk_13 rfl rfl dX8_reaches_1 ?_
  refine lv_aload_n hx hb dX8_reaches_4 rfl (lv_at hl 1 rfl) ?_
  refine pw_get (C := RX8) (T := TX8) (N := 3) hx hb hts hin8 hown hK hOb rfl 1 (by decide) lk_13 rfl rfl dX8_reaches_5 ?_
  refine lv_iload_n hx hb dX8_reaches_8 rfl (lv_at hl 2 rfl) ?_
  refine pw_iadd hx hb dX8_reaches_9 ?_
  refine pw_icmp_eq (tgt := 32) hx hb dX8_reaches_10 (by decide) (fun c_10 => ?_) (fun c_10 => ?_)
  · refine lv_aload_n hx hb dX8_reaches_32 rfl (lv_at hl 1 rfl) ?_
    refine pw_get (C := RX8) (T := TX8) (N := 3) hx hb hts hin8 hown hK hOb rfl 1 (by decide) lk_13 rfl rfl dX8_reaches_33 ?_
    refine pw_iconst hx hb dX8_reaches_36 ?_
    refine pw_isub hx hb dX8_reaches_37 ?_
    refine lv_istore_n (lv' := [(3, .int (iI (((kb : Int)) - (1)))), (0, .ref (a)), (1, .ref (b)), (2, .int (iI ((sh : Int))))]) hx hb dX8_reaches_38 rfl hl (by decide) rfl (fun ls hl => ?_)
    exact loop (by omega) kb _ _ _ (Nat.le_refl kb) (fun j h1 h2 => by omega) hO hL hOb hLb hS (lv_sub hl [1, 2, 3, 0] rfl)
  · refine lv_aload_n hx hb dX8_reaches_13 rfl (lv_at hl 0 rfl) ?_
    refine pw_get (C := RX8) (T := TX8) (N := 3) hx hb hts hin8 hown hK hO rfl 1 (by decide) lk_13 rfl rfl dX8_reaches_14 ?_
    refine lv_aload_n hx hb dX8_reaches_17 rfl (lv_at hl 1 rfl) ?_
    refine pw_get (C := RX8) (T := TX8) (N := 3) hx hb hts hin8 hown hK hOb rfl 1 (by decide) lk_13 rfl rfl dX8_reaches_18 ?_
    refine lv_iload_n hx hb dX8_reaches_21 rfl (lv_at hl 2 rfl) ?_
    refine pw_iadd hx hb dX8_reaches_22 ?_
    refine pw_icmp_le (tgt := 30) hx hb dX8_reaches_23 (by decide) (fun c_23 => ?_) (fun c_23 => ?_)
    · refine pw_iconst hx hb dX8_reaches_30 ?_
      exact pw_zret hx hb hr hlocks hS (by omega) ⟨by rw [if_neg (reach_lt hx0 hy0 hka hkb (by omega))], trivial⟩ dX8_reaches_31
    · refine pw_iconst hx hb dX8_reaches_26 ?_
      refine lv_goto (tgt := 31) hx hb dX8_reaches_27 (by decide) ?_
      exact pw_zret hx hb hr hlocks hS (by omega) ⟨by rw [if_pos (reach_gt hx0 (by omega) hka hkb (by omega))], trivial⟩ dX8_reaches_31
set_option maxHeartbeats 4000000 in
set_option maxRecDepth 100000 in
/-- guess(by, shift) -/
theorem c_guess (l : Launch) (D : va_G) (E : Nat → ClassId) (a n b nb sh : Nat) (x y : Int) (hn : n < 1000) (hnb : nb < 1000) (hs : sh < 1000) (hx0 : 0 ≤ x) (hy0 : 0 < y) (hxy : x < y * 1000000 ^ (sh + 1)) : pw_M rvL l D E yX8_guess wsX8_guess ({ frames := 1, cells := 0, slots := 0, locals := 21 } : Room) [.ref (a), .ref (b), .int (iI ((sh : Int)))] (fun H => WH D E a n x H ∧ WH D E b nb y H) (fun z H => 0 ≤ z ∧ z * (y * 1000000 ^ sh) ≤ x ∧ x < (z + 3) * (y * 1000000 ^ sh)) (fun _ => False) (0) (0) := by
  refine pw_of (cc := cX8_guess) (maxL := 8) (ret := (some .long)) (by decide +kernel) rfl (Nat.le_of_ble_eq_true rfl) ?_
  intro p e s m args below meth c hx hb hr hml hts hown hlocks hini hK ⟨⟨ka, ⟨hO, hL⟩, hka⟩, kb, ⟨hOb, hLb⟩, hkb⟩ ls hl
  have hown : s.vm.findClass RX8 = some m.cls := hown
  have hl : lv_has ls 8 [(0, .ref (a)), (1, .ref (b)), (2, .int (iI ((sh : Int))))] := hl
  have hS : va_S (fun _ => False) s.heap s.heap [] := va_S.rf
  have lk_13 := hts (.fieldLink RX8 13 "PolicyWorks$Whole" "size" "I") (by decide +kernel)
  have kc_44 := hts (.constantLong RX8 44 (1000000)) (by decide +kernel)
  have hin8 : ∀ w ∈ wsX80, w ∈ wsX8_guess := by decide +kernel
  have hka1 := hka.1
  have hkb1 := hkb.1
  have hkb0 : 0 < kb := Nat.pos_of_ne_zero (fun e => by have := (wk_z hkb).mp e; omega)
  have hxs : x.natAbs < 1000000 ^ (kb + sh + 1) := by
    have h1 := hkb.2.1
    have e : ((y.natAbs * 1000000 ^ (sh + 1) : Nat) : Int) = y * 1000000 ^ (sh + 1) := by rw [Int.natCast_mul, bp_cast, abs_pos (by omega)]
    have h2 : x.natAbs < y.natAbs * 1000000 ^ (sh + 1) := by omega
    have h3 : y.natAbs * 1000000 ^ (sh + 1) ≤ 1000000 ^ kb * 1000000 ^ (sh + 1) := Nat.mul_le_mul_right _ (by omega)
    rw [← Nat.pow_add] at h3
    exact Nat.lt_of_lt_of_le h2 h3
  obtain ⟨Mn, hM, hMb, hM1, hM2⟩ := mine_ok hx0 (show 0 < kb + sh by omega) hxs
  obtain ⟨On, hO1, hOb1, hOb2, hO3, hO4⟩ := others_ok hy0 hkb
  have r1 := lb_b x ((kb + sh : Nat) : Int)
  have r2 := lb_b x (((kb + sh : Nat) : Int) - 1)
  refine lv_aload_n hx hb dX8_guess_0 rfl (lv_at hl 1 rfl) ?_
  refine pw_get (C := RX8) (T := TX8) (N := 3) hx hb hts hin8 hown hK hOb rfl 1 (by decide) lk_13 rfl rfl dX8_guess_1 ?_
  refine lv_iload_n hx hb dX8_guess_4 rfl (lv_at hl 2 rfl) ?_
  refine pw_iadd hx hb dX8_guess_5 ?_
  refine pw_asi (((kb + sh : Nat) : Int)) (by omega) ?_
  refine lv_istore_n (lv' := [(3, .int (iI (((kb + sh : Nat) : Int)))), (0, .ref (a)), (1, .ref (b)), (2, .int (iI ((sh : Int))))]) hx hb dX8_guess_6 rfl hl (by decide) rfl (fun ls hl => ?_)
  refine lv_aload_n hx hb dX8_guess_7 rfl (lv_at hl 1 rfl) ?_
  refine lv_iload_n hx hb dX8_guess_8 rfl (lv_at hl 0 rfl) ?_
  refine pw_callVl (As := [.int (iI (((kb + sh : Nat) : Int)))]) (rest := []) ⟨hx, hb, hml, hown, hts⟩ (c_limbAt l D E a n (wdig x) ka x.sign (((kb + sh : Nat) : Int)) hn (by omega) (by omega) (by omega)) (cwV 1 hts gX8_guess_X8_limbAt rfl rfl rfl (by decide +kernel) ⟨Nat.le_of_ble_eq_true rfl, Nat.le_of_ble_eq_true rfl⟩) hK hO rfl ⟨hO, hL⟩ rfl hl.1 rfl (Nat.le_of_ble_eq_true rfl) dX8_guess_9 ⟨Nat.zero_le _, Nat.zero_le _⟩ hS (fun q h => h.elim) (fun z H1 locs1 hz hz1 hk1 hS => ?_)
  have hO := hO.k (hk1 _ hO.lt (fun h => h))
  have hL := hL.k (hk1 _ hL.lt (fun h => h))
  have hOb := hOb.k (hk1 _ hOb.lt (fun h => h))
  have hLb := hLb.k (hk1 _ hLb.lt (fun h => h))
  have hz : z = lb x (((kb + sh : Nat) : Int)) := by rw [hz.1]; exact lb_at hka _
  subst hz
  refine pw_ldc2 (z := 1000000) hx hb hown kc_44 (by decide +kernel) dX8_guess_12 ?_
  refine pw_lmul hx hb dX8_guess_15 ?_
  refine lv_aload_n hx hb dX8_guess_16 rfl (lv_at hl 1 rfl) ?_
  refine lv_iload_n hx hb dX8_guess_17 rfl (lv_at hl 0 rfl) ?_
  refine pw_iconst hx hb dX8_guess_18 ?_
  refine pw_isub hx hb dX8_guess_19 ?_
  refine pw_callVl (As := [.int (iI ((((kb + sh : Nat) : Int)) - (1)))]) (rest := [.long (lI ((lb x (((kb + sh : Nat) : Int))) * (1000000)))]) ⟨hx, hb, hml, hown, hts⟩ (c_limbAt l D E a n (wdig x) ka x.sign (((kb + sh : Nat) : Int) - 1) hn (by omega) (by omega) (by omega)) (cwV 1 hts gX8_guess_X8_limbAt rfl rfl rfl (by decide +kernel) ⟨Nat.le_of_ble_eq_true rfl, Nat.le_of_ble_eq_true rfl⟩) hK hO rfl ⟨hO, hL⟩ rfl hl.1 rfl (Nat.le_of_ble_eq_true rfl) dX8_guess_20 ⟨Nat.zero_le _, Nat.zero_le _⟩ hS (fun q h => h.elim) (fun z H1 locs1 hz hz1 hk1 hS => ?_)
  have hO := hO.k (hk1 _ hO.lt (fun h => h))
  have hL := hL.k (hk1 _ hL.lt (fun h => h))
  have hOb := hOb.k (hk1 _ hOb.lt (fun h => h))
  have hLb := hLb.k (hk1 _ hLb.lt (fun h => h))
  have hz : z = lb x (((kb + sh : Nat) : Int) - 1) := by rw [hz.1]; exact lb_at hka _
  subst hz
  refine pw_ladd hx hb dX8_guess_23 ?_
  refine pw_ldc2 (z := 1000000) hx hb hown kc_44 (by decide +kernel) dX8_guess_24 ?_
  refine pw_lmul hx hb dX8_guess_27 ?_
  refine lv_aload_n hx hb dX8_guess_28 rfl (lv_at hl 1 rfl) ?_
  refine lv_iload_n hx hb dX8_guess_29 rfl (lv_at hl 0 rfl) ?_
  refine pw_iconst hx hb dX8_guess_30 ?_
  refine pw_isub hx hb dX8_guess_31 ?_
  refine pw_callVl (As := [.int (iI ((((kb + sh : Nat) : Int)) - (2)))]) (rest := [.long (lI ((((lb x (((kb + sh : Nat) : Int))) * (1000000)) + (lb x (((kb + sh : Nat) : Int) - 1))) * (1000000)))]) ⟨hx, hb, hml, hown, hts⟩ (c_limbAt l D E a n (wdig x) ka x.sign (((kb + sh : Nat) : Int) - 2) hn (by omega) (by omega) (by omega)) (cwV 1 hts gX8_guess_X8_limbAt rfl rfl rfl (by decide +kernel) ⟨Nat.le_of_ble_eq_true rfl, Nat.le_of_ble_eq_true rfl⟩) hK hO rfl ⟨hO, hL⟩ rfl hl.1 rfl (Nat.le_of_ble_eq_true rfl) dX8_guess_32 ⟨Nat.zero_le _, Nat.zero_le _⟩ hS (fun q h => h.elim) (fun z H1 locs1 hz hz1 hk1 hS => ?_)
  have hO := hO.k (hk1 _ hO.lt (fun h => h))
  have hL := hL.k (hk1 _ hL.lt (fun h => h))
  have hOb := hOb.k (hk1 _ hOb.lt (fun h => h))
  have hLb := hLb.k (hk1 _ hLb.lt (fun h => h))
  have hz : z = lb x (((kb + sh : Nat) : Int) - 2) := by rw [hz.1]; exact lb_at hka _
  subst hz
  refine pw_ladd hx hb dX8_guess_35 ?_
  refine pw_asl ((Mn : Int)) hM ?_
  refine lv_lstore (lv' := [(4, .long (lI ((Mn : Int)))), (3, .int (iI (((kb + sh : Nat) : Int)))), (0, .ref (a)), (1, .ref (b)), (2, .int (iI ((sh : Int))))]) hx hb dX8_guess_36 hl (by decide) rfl (fun ls hl => ?_)
  refine lv_aload_n hx hb dX8_guess_38 rfl (lv_at hl 3 rfl) ?_
  refine lv_aload_n hx hb dX8_guess_39 rfl (lv_at hl 3 rfl) ?_
  refine pw_get (C := RX8) (T := TX8) (N := 3) hx hb hts hin8 hown hK hOb rfl 1 (by decide) lk_13 rfl rfl dX8_guess_40 ?_
  refine pw_iconst hx hb dX8_guess_43 ?_
  refine pw_isub hx hb dX8_guess_44 ?_
  refine pw_callVl (As := [.int (iI (((kb : Int)) - (1)))]) (rest := []) ⟨hx, hb, hml, hown, hts⟩ (c_limbAt l D E b nb (wdig y) kb y.sign ((kb : Int) - 1) hnb (by omega) (by omega) (by omega)) (cwV 1 hts gX8_guess_X8_limbAt rfl rfl rfl (by decide +kernel) ⟨Nat.le_of_ble_eq_true rfl, Nat.le_of_ble_eq_true rfl⟩) hK hOb rfl ⟨hOb, hLb⟩ rfl hl.1 rfl (Nat.le_of_ble_eq_true rfl) dX8_guess_45 ⟨Nat.zero_le _, Nat.zero_le _⟩ hS (fun q h => h.elim) (fun z H1 locs1 hz hz1 hk1 hS => ?_)
  have hO := hO.k (hk1 _ hO.lt (fun h => h))
  have hL := hL.k (hk1 _ hL.lt (fun h => h))
  have hOb := hOb.k (hk1 _ hOb.lt (fun h => h))
  have hLb := hLb.k (hk1 _ hLb.lt (fun h => h))
  have hz : z = lb y ((kb : Int) - 1) := by rw [hz.1]; exact lb_at hkb _
  subst hz
  refine pw_ldc2 (z := 1000000) hx hb hown kc_44 (by decide +kernel) dX8_guess_48 ?_
  refine pw_lmul hx hb dX8_guess_51 ?_
  refine lv_aload_n hx hb dX8_guess_52 rfl (lv_at hl 3 rfl) ?_
  refine lv_aload_n hx hb dX8_guess_53 rfl (lv_at hl 3 rfl) ?_
  refine pw_get (C := RX8) (T := TX8) (N := 3) hx hb hts hin8 hown hK hOb rfl 1 (by decide) lk_13 rfl rfl dX8_guess_54 ?_
  refine pw_iconst hx hb dX8_guess_57 ?_
  refine pw_isub hx hb dX8_guess_58 ?_
  refine pw_callVl (As := [.int (iI (((kb : Int)) - (2)))]) (rest := [.long (lI ((lb y ((kb : Int) - 1)) * (1000000)))]) ⟨hx, hb, hml, hown, hts⟩ (c_limbAt l D E b nb (wdig y) kb y.sign ((kb : Int) - 2) hnb (by omega) (by omega) (by omega)) (cwV 1 hts gX8_guess_X8_limbAt rfl rfl rfl (by decide +kernel) ⟨Nat.le_of_ble_eq_true rfl, Nat.le_of_ble_eq_true rfl⟩) hK hOb rfl ⟨hOb, hLb⟩ rfl hl.1 rfl (Nat.le_of_ble_eq_true rfl) dX8_guess_59 ⟨Nat.zero_le _, Nat.zero_le _⟩ hS (fun q h => h.elim) (fun z H1 locs1 hz hz1 hk1 hS => ?_)
  have hO := hO.k (hk1 _ hO.lt (fun h => h))
  have hL := hL.k (hk1 _ hL.lt (fun h => h))
  have hOb := hOb.k (hk1 _ hOb.lt (fun h => h))
  have hLb := hLb.k (hk1 _ hLb.lt (fun h => h))
  have hz : z = lb y ((kb : Int) - 2) := by rw [hz.1]; exact lb_at hkb _
  subst hz
  refine pw_ladd hx hb dX8_guess_62 ?_
  refine pw_lconst (z := 1) hx hb dX8_guess_63 ?_
  refine pw_ladd hx hb dX8_guess_64 ?_
  refine pw_asl ((On : Int)) hO1 ?_
  refine lv_lstore (lv' := [(6, .long (lI ((On : Int)))), (4, .long (lI ((Mn : Int)))), (3, .int (iI (((kb + sh : Nat) : Int)))), (0, .ref (a)), (1, .ref (b)), (2, .int (iI ((sh : Int))))]) hx hb dX8_guess_65 hl (by decide) rfl (fun ls hl => ?_)
  refine lv_lload hx hb dX8_guess_67 (lv_at hl 0 rfl) ?_
  refine pw_lconst (z := 0) hx hb dX8_guess_69 ?_
  refine pw_lcmp_le (tgt := 82) hx hb dX8_guess_70 dX8_guess_71 (by decide) (fun c_70 => absurd c_70 (by omega)) (fun c_70 => ?_)
  refine lv_lload hx hb dX8_guess_74 (lv_at hl 1 rfl) ?_
  refine lv_lload hx hb dX8_guess_76 (lv_at hl 0 rfl) ?_
  refine pw_ldiv hx hb dX8_guess_78 (by omega) ?_
  refine pw_asl (((Mn / On : Nat) : Int)) (nat_td Mn On) ?_
  refine lv_goto (tgt := 83) hx hb dX8_guess_79 (by decide) ?_
  exact pw_lret hx hb hr hlocks hS (guess_int hx0 hy0 hxy hM1 hM2 hO3 hO4 hOb1) dX8_guess_83
set_option maxHeartbeats 4000000 in
set_option maxRecDepth 100000 in
/-- takeAway(by, shift, times) -/
theorem c_takeAway (l : Launch) (D : va_G) (E : Nat → ClassId) (a n b nb sh : Nat) (x y t : Int) (hn : n < 1000) (hnb : nb < 1000) (hs : sh < 1000) (hx0 : 0 ≤ x) (hy0 : 0 < y) (ht1 : 1 ≤ t) (ht2 : t ≤ 1000000) (hle : t * (y * 1000000 ^ sh) ≤ x) (hab : a + 1 < b ∨ b + 1 < a) : pw_M rvV l D E yX8_takeAway wsX8_takeAway ({ frames := 1, cells := 0, slots := 0, locals := 25 } : Room) [.ref (a), .ref (b), .int (iI ((sh : Int))), .long (lI (t))] (fun H => WH D E a n x H ∧ WH D E b nb y H) (fun _ H => WH D E a n (x - t * (y * 1000000 ^ sh)) H) (fun q => q = a ∨ q = a + 1) (0) (0) := by
  refine pw_of (cc := cX8_takeAway) (maxL := 10) (ret := none) (by decide +kernel) rfl (Nat.le_of_ble_eq_true rfl) ?_
  intro p e s m args below meth c hx hb hr hml hts hown hlocks hini hK ⟨⟨ka, ⟨hO, hL⟩, hka⟩, kb, ⟨hOb, hLb⟩, hkb⟩ ls hl
  have hown : s.vm.findClass RX8 = some m.cls := hown
  have hl : lv_has ls 10 [(0, .ref (a)), (1, .ref (b)), (2, .int (iI ((sh : Int)))), (3, .long (lI (t)))] := hl
  have hS : va_S (fun q => q = a ∨ q = a + 1) s.heap s.heap [] := va_S.rf
  have lk_7 := hts (.fieldLink RX8 7 "PolicyWorks$Whole" "limbs" "[J") (by decide +kernel)
  have lk_13 := hts (.fieldLink RX8 13 "PolicyWorks$Whole" "size" "I") (by decide +kernel)
  have kc_44 := hts (.constantLong RX8 44 (1000000)) (by decide +kernel)
  have hin8 : ∀ w ∈ wsX80, w ∈ wsX8_takeAway := by decide +kernel
  have hka1 := hka.1
  have hkb1 := hkb.1
  have hpos : 0 ≤ y * 1000000 ^ sh := Int.mul_nonneg (by omega) (Int.le_of_lt (bp_posI sh))
  have hyx : y * 1000000 ^ sh ≤ x := by
    have : 1 * (y * 1000000 ^ sh) ≤ t * (y * 1000000 ^ sh) := Int.mul_le_mul_of_nonneg_right ht1 hpos
    omega
  have hkk : kb + sh ≤ ka := by
    rcases Nat.lt_or_ge ka (kb + sh) with h | h
    · exact absurd hyx (reach_lt hx0 hy0 hka hkb h)
    · exact h
  have hwv := wv_ta (x := x) (y := y) (t := t) (s := sh) hkb hkk hka.2.1
  have hxl := int_lt hka.2.1
  have hnn : 0 ≤ x - t * (y * 1000000 ^ sh) := by omega
  have htp : 0 ≤ t * (y * 1000000 ^ sh) := Int.mul_nonneg (by omega) hpos
  have hc0 := sc_nn (f := ta x y t sh) (n := ka) (by rw [hwv]; exact hnn)
  have hdig := settle_pos (f := ta x y t sh) (n := ka) (by rw [hwv]; omega) (by rw [hwv]; omega) hc0
  rw [hwv] at hdig
  have hres : (x - t * (y * 1000000 ^ sh)).natAbs < 1000000 ^ ka := nat_lt (by omega) (by omega)
  have hfb : ∀ j, -9000000000000000000 ≤ ta x y t sh j ∧ ta x y t sh j ≤ 9000000000000000000 := fun j => by
    have h1 := wdig_b x j
    have h2 := mul_b2 (x := t) (by omega) (lb_b y ((j : Int) - (sh : Int)))
    unfold ta
    split <;> omega
  have hvb := int_lt (Nat.lt_of_lt_of_le hres (bp_mono hka1))
  have loop : ∀ (k i : Nat) (g : Nat → Int) (H : Heap) (locs : List Loc) (ls : Array Slot), i + k = ka → sh ≤ i → (∀ j, j < i → g j = sd (ta x y t sh) j) → (∀ j, i ≤ j → j < n → g j = wdig x j) → OA D (a) 8 [.ref (a + 1), .int (iI ((ka : Int))), .int (iI (x.sign))] H → LA E (a + 1) n g H → OA D (b) 8 [.ref (b + 1), .int (iI ((kb : Int))), .int (iI (y.sign))] H → LA E (b + 1) nb (wdig y) H → va_S (fun q => q = a ∨ q = a + 1) s.heap H locs → lv_has ls 10 [(0, .ref (a)), (1, .ref (b)), (2, .int (iI ((sh : Int)))), (3, .long (lI (t))), (5, .long (lI (sc (ta x y t sh) i))), (7, .int (iI ((i : Int))))] → W p l e ({ frames := 1, cells := 0, slots := 0, locals := 25 } : Room) s m args below meth c H locs (0) (0) (MQ below (pw_Q rvV (fun _ H => WH D E a n (x - t * (y * 1000000 ^ sh)) H) (fun q => q = a ∨ q = a + 1)) args s (0) (0) (fun q => q = a ∨ q = a + 1)) (F0 m 6 ls []) := by
    intro k
    induction k with
    | zero =>
      intro i g H locs ls hi hsi h0 h1 hO hL hOb hLb hS hl
      have hL := hL.up (g := wdig (x - t * (y * 1000000 ^ sh))) (fun j hj => by
        by_cases e : j < i
        · rw [h0 j e]; exact hdig j (by omega)
        · rw [h1 j (by omega) hj, wdig_hi hka (by omega), wdig_zero (Nat.lt_of_lt_of_le hres (bp_mono (by omega)))])
      refine lv_iload hx hb dX8_takeAway_6 (lv_at hl 5 rfl) ?_
      refine lv_aload_n hx hb dX8_takeAway_8 rfl (lv_at hl 0 rfl) ?_
      refine pw_get (C := RX8) (T := TX8) (N := 3) hx hb hts hin8 hown hK hO rfl 1 (by decide) lk_13 rfl rfl dX8_takeAway_9 ?_
      refine pw_icmp_ge (tgt := 70) hx hb dX8_takeAway_12 (by decide) (fun c_12 => ?_) (fun c_12 => absurd c_12 (by omega))
      refine lv_aload_n hx hb dX8_takeAway_70 rfl (lv_at hl 0 rfl) ?_
      refine pw_callVv (As := []) (rest := []) ⟨hx, hb, hml, hown, hts⟩ (c_measure l D E a n (wdig (x - t * (y * 1000000 ^ sh))) ka x.sign hn (fun j hj => by have := wdig_b (x - t * (y * 1000000 ^ sh)) j; omega)) (cwV 0 hts gX8_takeAway_X8_measure rfl rfl rfl (by decide +kernel) ⟨Nat.le_of_ble_eq_true rfl, Nat.le_of_ble_eq_true rfl⟩) hK hO rfl ⟨hO, hL⟩ rfl hl.1 rfl (Nat.le_of_ble_eq_true rfl) dX8_takeAway_71 ⟨Nat.zero_le _, Nat.zero_le _⟩ hS (fun q h => h) (fun H1 locs1 ⟨k, hk, h0, h1, hW⟩ hz1 hk1 hS => ?_)
      have hOb := hOb.k (hk1 _ hOb.lt (by (try dsimp only); omega))
      have hLb := hLb.k (hk1 _ hLb.lt (by (try dsimp only); omega))
      exact pw_vret hx hb hr hlocks hS (wh_of hvb.1 hvb.2 (fun j _ => rfl) hk h0 h1 hW) dX8_takeAway_74
    | succ k ih =>
      intro i g H locs ls hi hsi h0 h1 hO hL hOb hLb hS hl
      have hgi := h1 i (Nat.le_refl i) (by omega)
      have hf1 := hfb i
      have hcb := sc_b (f := ta x y t sh) (n := ka) (fun j _ => hfb j) i (by omega)
      have eta : ta x y t sh i = wdig x i - t * lb y ((i : Int) - (sh : Int)) := by unfold ta; rw [if_neg (by omega)]
      refine lv_iload hx hb dX8_takeAway_6 (lv_at hl 5 rfl) ?_
      refine lv_aload_n hx hb dX8_takeAway_8 rfl (lv_at hl 0 rfl) ?_
      refine pw_get (C := RX8) (T := TX8) (N := 3) hx hb hts hin8 hown hK hO rfl 1 (by decide) lk_13 rfl rfl dX8_takeAway_9 ?_
      refine pw_icmp_ge (tgt := 70) hx hb dX8_takeAway_12 (by decide) (fun c_12 => absurd c_12 (by omega)) (fun c_12 => ?_)
      refine lv_aload_n hx hb dX8_takeAway_15 rfl (lv_at hl 0 rfl) ?_
      refine pw_get (C := RX8) (T := TX8) (N := 3) hx hb hts hin8 hown hK hO rfl 0 (by decide) lk_7 rfl rfl dX8_takeAway_16 ?_
      refine lv_iload hx hb dX8_takeAway_19 (lv_at hl 5 rfl) ?_
      refine pw_lald hx hb hK hL (i) rfl (by omega) (by omega) dX8_takeAway_21 ?_
      refine pw_asl (wdig x i) hgi ?_
      refine lv_lload hx hb dX8_takeAway_22 (lv_at hl 4 rfl) ?_
      refine pw_ladd hx hb dX8_takeAway_24 ?_
      refine lv_lload_n hx hb dX8_takeAway_25 rfl (lv_at hl 3 rfl) ?_
      refine lv_aload_n hx hb dX8_takeAway_26 rfl (lv_at hl 1 rfl) ?_
      refine lv_iload hx hb dX8_takeAway_27 (lv_at hl 5 rfl) ?_
      refine lv_iload_n hx hb dX8_takeAway_29 rfl (lv_at hl 2 rfl) ?_
      refine pw_isub hx hb dX8_takeAway_30 ?_
      refine pw_callVl (As := [.int (iI (((i : Int)) - ((sh : Int))))]) (rest := [.long (lI (t)), .long (lI ((wdig x i) + (sc (ta x y t sh) i)))]) ⟨hx, hb, hml, hown, hts⟩ (c_limbAt l D E b nb (wdig y) kb y.sign ((i : Int) - (sh : Int)) hnb (by omega) (by omega) (by omega)) (cwV 1 hts gX8_takeAway_X8_limbAt rfl rfl rfl (by decide +kernel) ⟨Nat.le_of_ble_eq_true rfl, Nat.le_of_ble_eq_true rfl⟩) hK hOb rfl ⟨hOb, hLb⟩ rfl hl.1 rfl (Nat.le_of_ble_eq_true rfl) dX8_takeAway_31 ⟨Nat.zero_le _, Nat.zero_le _⟩ hS (fun q h => h.elim) (fun z H1 locs1 hz hz1 hk1 hS => ?_)
      have hO := hO.k (hk1 _ hO.lt (fun h => h))
      have hL := hL.k (hk1 _ hL.lt (fun h => h))
      have hOb := hOb.k (hk1 _ hOb.lt (fun h => h))
      have hLb := hLb.k (hk1 _ hLb.lt (fun h => h))
      have hz : z = lb y ((i : Int) - (sh : Int)) := by rw [hz.1]; exact lb_at hkb _
      subst hz
      refine pw_lmul hx hb dX8_takeAway_34 ?_
      refine pw_lsub hx hb dX8_takeAway_35 ?_
      refine pw_asl (ta x y t sh i + sc (ta x y t sh) i) (by rw [eta]; omega) ?_
      refine lv_lstore (lv' := [(8, .long (lI (ta x y t sh i + sc (ta x y t sh) i))), (0, .ref (a)), (1, .ref (b)), (2, .int (iI ((sh : Int)))), (3, .long (lI (t))), (5, .long (lI (sc (ta x y t sh) i))), (7, .int (iI ((i : Int))))]) hx hb dX8_takeAway_36 hl (by decide) rfl (fun ls hl => ?_)
      refine lv_lload hx hb dX8_takeAway_38 (lv_at hl 0 rfl) ?_
      refine pw_ldc2 (z := 1000000) hx hb hown kc_44 (by decide +kernel) dX8_takeAway_40 ?_
      refine pw_callSl (As := [.long (lI (ta x y t sh i + sc (ta x y t sh) i)), .long (lI (1000000))]) (rest := []) ⟨hx, hb, hml, hown, hts⟩ (c_floorDiv l D E (ta x y t sh i + sc (ta x y t sh) i) 1000000 (by omega) (by omega) (by omega) (by omega)) (va_cwS 2 hts gX8_takeAway_J9_floorDiv_f86c9 rfl rfl rfl (by decide +kernel) ⟨Nat.le_of_ble_eq_true rfl, Nat.le_of_ble_eq_true rfl⟩) hK trivial rfl hl.1 rfl (Nat.le_of_ble_eq_true rfl) dX8_takeAway_43 ⟨Nat.zero_le _, Nat.zero_le _⟩ hS (fun q h => h.elim) (fun z H1 locs1 hz hz1 hk1 hS => ?_)
      have hO := hO.k (hk1 _ hO.lt (fun h => h))
      have hL := hL.k (hk1 _ hL.lt (fun h => h))
      have hOb := hOb.k (hk1 _ hOb.lt (fun h => h))
      have hLb := hLb.k (hk1 _ hLb.lt (fun h => h))
      have hz : z = sc (ta x y t sh) (i + 1) := hz.1
      subst hz
      refine lv_lstore (lv' := [(5, .long (lI (sc (ta x y t sh) (i + 1)))), (8, .long (lI (ta x y t sh i + sc (ta x y t sh) i))), (0, .ref (a)), (1, .ref (b)), (2, .int (iI ((sh : Int)))), (3, .long (lI (t))), (7, .int (iI ((i : Int))))]) hx hb dX8_takeAway_46 hl (by decide) rfl (fun ls hl => ?_)
      refine lv_aload_n hx hb dX8_takeAway_48 rfl (lv_at hl 2 rfl) ?_
      refine pw_get (C := RX8) (T := TX8) (N := 3) hx hb hts hin8 hown hK hO rfl 0 (by decide) lk_7 rfl rfl dX8_takeAway_49 ?_
      refine lv_iload hx hb dX8_takeAway_52 (lv_at hl 6 rfl) ?_
      refine lv_lload hx hb dX8_takeAway_54 (lv_at hl 1 rfl) ?_
      refine lv_lload hx hb dX8_takeAway_56 (lv_at hl 0 rfl) ?_
      refine pw_ldc2 (z := 1000000) hx hb hown kc_44 (by decide +kernel) dX8_takeAway_58 ?_
      refine pw_lmul hx hb dX8_takeAway_61 ?_
      refine pw_lsub hx hb dX8_takeAway_62 ?_
      refine pw_last hx hb hK hL hS (Or.inr rfl) (i) rfl (by omega) (by omega) dX8_takeAway_63 (fun H1 locs1 hnew hz1 oq hS => ?_)
      have hO := hO.k (oq _ (by omega))
      have hOb := hOb.k (oq _ (by omega))
      have hLb := hLb.k (oq _ (by omega))
      have hL := hnew
      clear hnew oq hz1
      refine lv_iinc (v := iI (((i + 1 : Nat) : Int))) (lv' := [(7, .int (iI (((i + 1 : Nat) : Int)))), (5, .long (lI (sc (ta x y t sh) (i + 1)))), (8, .long (lI (ta x y t sh i + sc (ta x y t sh) i))), (0, .ref (a)), (1, .ref (b)), (2, .int (iI ((sh : Int)))), (3, .long (lI (t)))]) hx hb dX8_takeAway_64 hl (k := 6) rfl (by show iI _ + iI _ = _; rw [iI_add]; first | rfl | (congr 1; omega)) (by decide) rfl (fun ls hl => ?_)
      refine lv_goto (tgt := 6) hx hb dX8_takeAway_67 (by decide) ?_
      exact ih (i + 1) _ _ _ _ (by omega) (by omega) (fun j hj => ud_ext h0 rfl j hj) (fun j h2 h3 => by rw [ud_n _ _ (by omega)]; exact h1 j (by omega) h3) hO hL hOb hLb hS (lv_sub hl [3, 4, 5, 6, 1, 0] rfl)
  refine pw_lconst (z := 0) hx hb dX8_takeAway_0 ?_
  refine lv_lstore (lv' := [(5, .long (lI (0))), (0, .ref (a)), (1, .ref (b)), (2, .int (iI ((sh : Int)))), (3, .long (lI (t)))]) hx hb dX8_takeAway_1 hl (by decide) rfl (fun ls hl => ?_)
  refine lv_iload_n hx hb dX8_takeAway_3 rfl (lv_at hl 3 rfl) ?_
  refine lv_istore (lv' := [(7, .int (iI ((sh : Int)))), (5, .long (lI (0))), (0, .ref (a)), (1, .ref (b)), (2, .int (iI ((sh : Int)))), (3, .long (lI (t)))]) hx hb dX8_takeAway_4 hl (by decide) rfl (fun ls hl => ?_)
  have hl : lv_has ls 10 [(0, .ref (a)), (1, .ref (b)), (2, .int (iI ((sh : Int)))), (3, .long (lI (t))), (5, .long (lI (sc (ta x y t sh) sh))), (7, .int (iI ((sh : Int))))] := by rw [ta_lo hx0 sh (Nat.le_refl sh)]; exact lv_sub hl [2, 3, 4, 5, 1, 0] rfl
  exact loop (ka - sh) sh _ _ _ _ (by omega) (Nat.le_refl sh) (fun j hj => (ta_sd hx0 hj).symm) (fun j _ _ => rfl) hO hL hOb hLb hS hl
end
section
/-! the class's whole numbers: divide, eighteen, the constructor -/
section PZ
variable {p : Program} {l : Launch} {e : Env} {R : Room} {s : State} {m : MethodId} {args : Array Value} {below : List Frame} {meth : Method} {c : Code} {H : Heap} {locs : List Loc} {cells slots : Nat} {Q : State → Prop}
variable {cc : ByteArray} {pc : Nat} {ls : Array Slot} {rest : List Value}
theorem pw_mmaxl (hx : p.tables.exec = Jvm.exec) (hb : c.code = cc) (hml : c.maxLocals = ls.size) {own : String} {index : Nat} (hown : s.vm.findClass own = some m.cls) {Ts : List Cond} (hts : ∀ w ∈ Ts, w.before args s = true) (hin : ∀ w ∈ ([.methodLink own index Lib.MathLoose.max_long.x, .static Lib.MathLoose.max_long.x, .initialized "java/lang/Math", .code Lib.MathLoose.max_long.x Lib.MathLoose.max_long.code 4 (some .long)] : List Cond), w ∈ Ts)
    (hframes : 1 ≤ R.frames) (hlocals : (rest.map fun v => v.category).sum + 15 ≤ R.locals) (hc : cells ≤ R.cells) (hs : slots ≤ R.slots) {x y : Int} (d : decode cc pc = .ok (.invokestatic index, 3))
    (kk : W p l e R s m args below meth c H locs cells slots Q (F0 m (pc + 3) ls (.long (lI (max x y)) :: rest))) (x1 : -9223372036854775808 ≤ x := by omega) (x2 : x ≤ 9223372036854775807 := by omega) (y1 : -9223372036854775808 ≤ y := by omega) (y2 : y ≤ 9223372036854775807 := by omega) : W p l e R s m args below meth c H locs cells slots Q (F0 m pc ls (.long (lI y) :: .long (lI x) :: rest)) := by
  have w1 := hts (.methodLink own index Lib.MathLoose.max_long.x) (hin _ (by simp))
  have w2 := hts (.static Lib.MathLoose.max_long.x) (hin _ (by simp))
  have w3 := hts (.initialized "java/lang/Math") (hin _ (by simp))
  have w4 := hts (.code Lib.MathLoose.max_long.x Lib.MathLoose.max_long.code 4 (some .long)) (hin _ (by simp))
  refine va_mmax_long hx hb hml hown w1 w2 w3 w4 hframes hlocals hc hs d ?_
  have e1 : (if lI y < lI x then lI x else lI y) = lI (max x y) := by
    by_cases h : y < x
    · rw [if_pos ((lI_lt y1 y2 x1 x2).mpr h)]; congr 1; omega
    · rw [if_neg (fun q => h ((lI_lt y1 y2 x1 x2).mp q))]; congr 1; omega
  rw [e1]
  exact kk
end PZ
theorem inner_step {xr Y gz t x0 gs : Int} {u : Nat} (hY : 0 < Y) (hr : Y ≤ xr) (h0 : gs * Y + xr = x0) (hx0 : x0 < 1000000 * Y) (hgs : 0 ≤ gs) (g1 : 0 ≤ gz) (g2 : gz * Y ≤ xr) (g3 : xr < (gz + 3) * Y) (ht : t = max gz 1) (hu : u = 0 ∨ xr < (4 - (u : Int)) * Y) : 1 ≤ t ∧ t ≤ 1000000 ∧ t * Y ≤ xr ∧ 0 ≤ xr - t * Y ∧ (gs + t) * Y + (xr - t * Y) = x0 ∧ xr - t * Y < (4 - ((u + 1 : Nat) : Int)) * Y := by
  have hp : 0 ≤ gs * Y := Int.mul_nonneg hgs (by omega)
  have a1 : t * Y ≤ xr := by
    rcases Int.lt_or_le gz 1 with h | h
    · rw [show t = 1 by omega]; omega
    · rw [show t = gz by omega]; exact g2
  have a2 : t < 1000000 := Int.lt_of_mul_lt_mul_right (a := Y) (by omega) (by omega)
  have a3 : gz * Y ≤ t * Y := Int.mul_le_mul_of_nonneg_right (by omega) (by omega)
  have a4 : 1 * Y ≤ t * Y := Int.mul_le_mul_of_nonneg_right (by omega) (by omega)
  rw [Int.add_mul] at g3
  refine ⟨by omega, by omega, a1, by omega, by rw [Int.add_mul]; omega, ?_⟩
  rcases hu with h | h
  · subst h
    show xr - t * Y < 3 * Y
    omega
  · have e : (4 - ((u + 1 : Nat) : Int)) * Y = (4 - (u : Int)) * Y - Y := by
      rw [show (4 - ((u + 1 : Nat) : Int)) = (4 - (u : Int)) - 1 by omega, Int.sub_mul, Int.one_mul]
    rw [e]
    omega
theorem div_first {x y : Int} {m1 m2 ka kb : Nat} (hx : 0 ≤ x) (hy : 0 < y) (h1 : wk x m1 ka) (h2 : wk y m2 kb) : x < y * 1000000 ^ (ka + 1 - kb) := by
  have h := reach_lt hx hy h1 h2 (s := ka + 1 - kb) (by omega)
  omega
theorem div_last {x y q r : Int} (hy : 0 < y) (h : q * y + r = x) (h1 : 0 ≤ r) (h2 : r < y) : x / y = q ∧ x % y = r := by
  refine (Int.ediv_emod_unique hy).mpr ⟨?_, h1, h2⟩
  rw [Int.mul_comm y q]
  omega
/-- eighteen digits -/
def e18 (x i : Nat) : Nat := x / 1000000000000000000 ^ i % 1000000000000000000
theorem e18_pow (i : Nat) : 1000000000000000000 ^ i = 1000000 ^ (3 * i) := by rw [Nat.pow_mul]
theorem e18_lb {v : Int} (h : 0 ≤ v) (i : Nat) : ((0 * 1000000 + lb v ((i : Int) * 3 + 2)) * 1000000 + lb v ((i : Int) * 3 + 1)) * 1000000 + lb v ((i : Int) * 3 + 0) = ((e18 v.natAbs i : Nat) : Int) := by
  have c0 : lb v ((i : Int) * 3 + 0) = (nd v.natAbs (3 * i) : Int) := by rw [show (i : Int) * 3 + 0 = ((3 * i : Nat) : Int) by omega, lb_n, wdig_nn h]
  have c1 : lb v ((i : Int) * 3 + 1) = (nd v.natAbs (3 * i + 1) : Int) := by rw [show (i : Int) * 3 + 1 = ((3 * i + 1 : Nat) : Int) by omega, lb_n, wdig_nn h]
  have c2 : lb v ((i : Int) * 3 + 2) = (nd v.natAbs (3 * i + 2) : Int) := by rw [show (i : Int) * 3 + 2 = ((3 * i + 2 : Nat) : Int) by omega, lb_n, wdig_nn h]
  rw [c0, c1, c2]
  unfold e18 nd
  rw [e18_pow]
  have e1 : v.natAbs / 1000000 ^ (3 * i + 1) = v.natAbs / 1000000 ^ (3 * i) / 1000000 := by rw [Nat.pow_succ, Nat.div_div_eq_div_mul]
  have e2 : v.natAbs / 1000000 ^ (3 * i + 2) = v.natAbs / 1000000 ^ (3 * i) / 1000000 / 1000000 := by rw [Nat.pow_succ, Nat.pow_succ, Nat.div_div_eq_div_mul, Nat.div_div_eq_div_mul, Nat.mul_assoc]
  rw [e1, e2]
  generalize v.natAbs / 1000000 ^ (3 * i) = X
  omega
theorem e18_big {x n i : Nat} (h : x < 1000000 ^ n) (hi : n ≤ 3 * i) : e18 x i = 0 := by
  unfold e18
  rw [e18_pow, Nat.div_eq_of_lt (Nat.lt_of_lt_of_le h (bp_mono hi))]
set_option maxHeartbeats 4000000 in
set_option maxRecDepth 100000 in
/-- divide(by, quotient): leaves the rest -/
theorem c_divide (l : Launch) (D : va_G) (E : Nat → ClassId) (a n b nb c0 nc : Nat) (f : Nat → Int) (sz sg x y : Int) (hn : n < 1000) (hnb : nb < 1000) (hnc : nc < 1000) (hle : n ≤ nc) (hx0 : 0 ≤ x) (hy0 : 0 < y) (hab : a + 1 < b ∨ b + 1 < a) (hac : a + 1 < c0 ∨ c0 + 1 < a) (hbc : b + 1 < c0 ∨ c0 + 1 < b) : pw_M rvV l D E yX8_divide wsX8_divide ({ frames := 2, cells := 0, slots := 0, locals := 54 } : Room) [.ref (a), .ref (b), .ref (c0)] (fun H => WH D E a n x H ∧ WH D E b nb y H ∧ WR D E c0 nc f sz sg H) (fun _ H => WH D E a n (x % y) H ∧ WH D E c0 nc (x / y) H) (fun q => q = a ∨ q = a + 1 ∨ q = c0 ∨ q = c0 + 1) (0) (0) := by
  refine pw_of (cc := cX8_divide) (maxL := 7) (ret := none) (by decide +kernel) rfl (Nat.le_of_ble_eq_true rfl) ?_
  intro p e s m args below meth c hx hb hr hml hts hown hlocks hini hK ⟨hA, ⟨kb, ⟨hOb, hLb⟩, hkb⟩, hOc, hLc⟩ ls hl
  have hown : s.vm.findClass RX8 = some m.cls := hown
  have hl : lv_has ls 7 [(0, .ref (a)), (1, .ref (b)), (2, .ref (c0))] := hl
  have hS : va_S (fun q => q = a ∨ q = a + 1 ∨ q = c0 ∨ q = c0 + 1) s.heap s.heap [] := va_S.rf
  have lk_7 := hts (.fieldLink RX8 7 "PolicyWorks$Whole" "limbs" "[J") (by decide +kernel)
  have lk_13 := hts (.fieldLink RX8 13 "PolicyWorks$Whole" "size" "I") (by decide +kernel)
  have hin8 : ∀ w ∈ wsX80, w ∈ wsX8_divide := by decide +kernel
  have hkb1 := hkb.1
  have hkb0 : 0 < kb := Nat.pos_of_ne_zero (fun e => by have := (wk_z hkb).mp e; omega)
  have fin : ∀ (xr z3 : Int) (g : Nat → Int) (H : Heap) (locs : List Loc) (ls : Array Slot), 0 ≤ xr → xr < y → wv g nc * y + xr = x → (∀ j, j < nc → 0 ≤ g j ∧ g j < 1000000) → WH D E a n xr H → OA D (b) 8 [.ref (b + 1), .int (iI ((kb : Int))), .int (iI (y.sign))] H → LA E (b + 1) nb (wdig y) H → OA D (c0) 8 [.ref (c0 + 1), .int (iI (0)), .int (iI (0))] H → LA E (c0 + 1) nc g H → va_S (fun q => q = a ∨ q = a + 1 ∨ q = c0 ∨ q = c0 + 1) s.heap H locs → lv_has ls 7 [(0, .ref (a)), (1, .ref (b)), (2, .ref (c0)), (3, .int (iI (z3)))] → W p l e ({ frames := 2, cells := 0, slots := 0, locals := 54 } : Room) s m args below meth c H locs (0) (0) (MQ below (pw_Q rvV (fun _ H => WH D E a n (x % y) H ∧ WH D E c0 nc (x / y) H) (fun q => q = a ∨ q = a + 1 ∨ q = c0 ∨ q = c0 + 1)) args s (0) (0) (fun q => q = a ∨ q = a + 1 ∨ q = c0 ∨ q = c0 + 1)) (F0 m 88 ls []) := by
    intro xr z3 g H locs ls h0 h1 h2 h3 hA hOb hLb hOc hLc hS hl
    obtain ⟨dq, dr⟩ := div_last hy0 h2 h0 h1
    obtain ⟨d1, d2, d3⟩ := dig_pos h3
    refine lv_aload_n hx hb dX8_divide_88 rfl (lv_at hl 2 rfl) ?_
    refine pw_callVv (As := []) (rest := []) ⟨hx, hb, hml, hown, hts⟩ (c_measure l D E c0 nc g 0 0 hnc (fun j hj => by have := h3 j hj; omega)) (cwV 0 hts gX8_divide_X8_measure rfl rfl rfl (by decide +kernel) ⟨Nat.le_of_ble_eq_true rfl, Nat.le_of_ble_eq_true rfl⟩) hK hOc rfl ⟨hOc, hLc⟩ rfl hl.1 rfl (Nat.le_of_ble_eq_true rfl) dX8_divide_89 ⟨Nat.zero_le _, Nat.zero_le _⟩ hS (fun q h => by rcases h with h | h <;> simp [h]) (fun H1 locs1 ⟨k, hk, h4, h5, hW⟩ hz1 hk1 hS => ?_)
    have hOb := hOb.k (hk1 _ hOb.lt (by (try dsimp only); omega))
    have hLb := hLb.k (hk1 _ hLb.lt (by (try dsimp only); omega))
    have hA := hA.k (hk1 _ (by have := hA.lt; omega) (by (try dsimp only); omega)) (hk1 _ hA.lt (by (try dsimp only); omega))
    exact pw_vret hx hb hr hlocks hS ⟨by rw [dr]; exact hA, by rw [dq]; exact wh_of (by omega) d2 d3 hk h4 h5 hW⟩ dX8_divide_92
  have inner : ∀ (sh : Nat), sh < n → (∀ (xr : Int) (g : Nat → Int) (H : Heap) (locs : List Loc) (ls : Array Slot), 0 ≤ xr → xr < y * 1000000 ^ sh → wv g nc * y + xr = x → (∀ j, j < nc → 0 ≤ g j ∧ g j < 1000000) → (∀ j, j < sh → g j = 0) → WH D E a n xr H → OA D (b) 8 [.ref (b + 1), .int (iI ((kb : Int))), .int (iI (y.sign))] H → LA E (b + 1) nb (wdig y) H → OA D (c0) 8 [.ref (c0 + 1), .int (iI (0)), .int (iI (0))] H → LA E (c0 + 1) nc g H → va_S (fun q => q = a ∨ q = a + 1 ∨ q = c0 ∨ q = c0 + 1) s.heap H locs → lv_has ls 7 [(0, .ref (a)), (1, .ref (b)), (2, .ref (c0)), (3, .int (iI (((sh : Nat) : Int) - 1)))] → W p l e ({ frames := 2, cells := 0, slots := 0, locals := 54 } : Room) s m args below meth c H locs (0) (0) (MQ below (pw_Q rvV (fun _ H => WH D E a n (x % y) H ∧ WH D E c0 nc (x / y) H) (fun q => q = a ∨ q = a + 1 ∨ q = c0 ∨ q = c0 + 1)) args s (0) (0) (fun q => q = a ∨ q = a + 1 ∨ q = c0 ∨ q = c0 + 1)) (F0 m 22 ls [])) → ∀ (x0 : Int), x0 < 1000000 * (y * 1000000 ^ sh) → ∀ (k u : Nat) (xr : Int) (g : Nat → Int) (H : Heap) (locs : List Loc) (ls : Array Slot), u + k = 4 → 0 ≤ xr → g sh * (y * 1000000 ^ sh) + xr = x0 → (u = 0 ∨ xr < (4 - (u : Int)) * (y * 1000000 ^ sh)) → wv g nc * y + xr = x → (∀ j, j < nc → j ≠ sh → 0 ≤ g j ∧ g j < 1000000) → 0 ≤ g sh → (∀ j, j < sh → g j = 0) → WH D E a n xr H → OA D (b) 8 [.ref (b + 1), .int (iI ((kb : Int))), .int (iI (y.sign))] H → LA E (b + 1) nb (wdig y) H → OA D (c0) 8 [.ref (c0 + 1), .int (iI (0)), .int (iI (0))] H → LA E (c0 + 1) nc g H → va_S (fun q => q = a ∨ q = a + 1 ∨ q = c0 ∨ q = c0 + 1) s.heap H locs → lv_has ls 7 [(0, .ref (a)), (1, .ref (b)), (2, .ref (c0)), (3, .int (iI ((sh : Int)))), (4, .int (iI ((u : Int))))] → W p l e ({ frames := 2, cells := 0, slots := 0, locals := 54 } : Room) s m args below meth c H locs (0) (0) (MQ below (pw_Q rvV (fun _ H => WH D E a n (x % y) H ∧ WH D E c0 nc (x / y) H) (fun q => q = a ∨ q = a + 1 ∨ q = c0 ∨ q = c0 + 1)) args s (0) (0) (fun q => q = a ∨ q = a + 1 ∨ q = c0 ∨ q = c0 + 1)) (F0 m 29 ls []) := by
    intro sh hsh next x0 hx0b k
    have hY : 0 < y * 1000000 ^ sh := Int.mul_pos hy0 (bp_posI sh)
    have hY2 : y * 1000000 ^ (sh + 1) = 1000000 * (y * 1000000 ^ sh) := by rw [bp_sI, Int.mul_left_comm]
    induction k with
    | zero =>
      intro u xr g H locs ls hu h0 hgx hux hwx hdg hgs hlo hA hOb hLb hOc hLc hS hl
      have e4 : u = 4 := by omega
      subst e4
      exfalso
      rcases hux with h | h
      · omega
      · have : xr < 0 * (y * 1000000 ^ sh) := h
        omega
    | succ k ih =>
      intro u xr g H locs ls hu h0 hgx hux hwx hdg hgs hlo hA hOb hLb hOc hLc hS hl
      have hgY : 0 ≤ g sh * (y * 1000000 ^ sh) := Int.mul_nonneg hgs (by omega)
      obtain ⟨ka, ⟨hO, hL⟩, hka⟩ := hA
      have hka1 := hka.1
      refine lv_iload hx hb dX8_divide_29 (lv_at hl 4 rfl) ?_
      refine pw_bipush hx hb dX8_divide_31 ?_
      refine pw_icmp_ge (tgt := 82) hx hb dX8_divide_33 (by decide) (fun c_33 => absurd c_33 (by omega)) (fun c_33 => ?_)
      refine lv_aload_n hx hb dX8_divide_36 rfl (lv_at hl 0 rfl) ?_
      refine lv_aload_n hx hb dX8_divide_37 rfl (lv_at hl 1 rfl) ?_
      refine lv_iload_n hx hb dX8_divide_38 rfl (lv_at hl 3 rfl) ?_
      refine pw_callVi (As := [.ref (b), .int (iI ((sh : Int)))]) (rest := []) ⟨hx, hb, hml, hown, hts⟩ (c_reaches l D E a n b nb sh xr y hn hnb (by omega) h0 hy0) (cwV 2 hts gX8_divide_X8_reaches rfl rfl rfl (by decide +kernel) ⟨Nat.le_of_ble_eq_true rfl, Nat.le_of_ble_eq_true rfl⟩) hK hO rfl ⟨⟨ka, ⟨hO, hL⟩, hka⟩, ⟨kb, ⟨hOb, hLb⟩, hkb⟩⟩ rfl hl.1 rfl (Nat.le_of_ble_eq_true rfl) dX8_divide_39 ⟨Nat.zero_le _, Nat.zero_le _⟩ hS (fun q h => h.elim) (fun rz H1 locs1 hz hz1 hk1 hS => ?_)
      have hO := hO.k (hk1 _ hO.lt (fun h => h))
      have hL := hL.k (hk1 _ hL.lt (fun h => h))
      have hOb := hOb.k (hk1 _ hOb.lt (fun h => h))
      have hLb := hLb.k (hk1 _ hLb.lt (fun h => h))
      have hOc := hOc.k (hk1 _ hOc.lt (fun h => h))
      have hLc := hLc.k (hk1 _ hLc.lt (fun h => h))
      have hz := hz.1
      have hrz : 0 ≤ rz ∧ rz ≤ 1 := by rw [hz]; split <;> omega
      refine pw_if_eq (tgt := 82) hx hb dX8_divide_42 (by decide) (fun c_42 => ?_) (fun c_42 => ?_)
      · have hlt : xr < y * 1000000 ^ sh := by
          rcases Int.lt_or_le xr (y * 1000000 ^ sh) with h | h
          · exact h
          · rw [if_pos h] at hz; omega
        refine lv_iinc (v := iI (((sh : Nat) : Int) - 1)) (lv' := [(3, .int (iI (((sh : Nat) : Int) - 1))), (0, .ref (a)), (1, .ref (b)), (2, .ref (c0)), (4, .int (iI ((u : Int))))]) hx hb dX8_divide_82 hl (k := 3) rfl (by show iI _ + iI _ = _; rw [iI_add]; first | rfl | (congr 1; omega)) (by decide) rfl (fun ls hl => ?_)
        refine lv_goto (tgt := 22) hx hb dX8_divide_85 (by decide) ?_
        refine next xr g _ _ _ h0 hlt hwx (fun j hj => ?_) hlo ⟨ka, ⟨hO, hL⟩, hka⟩ hOb hLb hOc hLc hS (lv_sub hl [1, 2, 3, 0] rfl)
        by_cases e : j = sh
        · rw [e]
          exact ⟨hgs, Int.lt_of_mul_lt_mul_right (a := y * 1000000 ^ sh) (by omega) (by omega)⟩
        · exact hdg j hj e
      · have hge : y * 1000000 ^ sh ≤ xr := by
          rcases Int.lt_or_le xr (y * 1000000 ^ sh) with h | h
          · rw [if_neg (by omega)] at hz; omega
          · exact h
        refine lv_aload_n hx hb dX8_divide_45 rfl (lv_at hl 0 rfl) ?_
        refine lv_aload_n hx hb dX8_divide_46 rfl (lv_at hl 1 rfl) ?_
        refine lv_iload_n hx hb dX8_divide_47 rfl (lv_at hl 3 rfl) ?_
        refine pw_callVl (As := [.ref (b), .int (iI ((sh : Int)))]) (rest := []) ⟨hx, hb, hml, hown, hts⟩ (c_guess l D E a n b nb sh xr y hn hnb (by omega) h0 hy0 (by rw [hY2]; omega)) (cwV 2 hts gX8_divide_X8_guess rfl rfl rfl (by decide +kernel) ⟨Nat.le_of_ble_eq_true rfl, Nat.le_of_ble_eq_true rfl⟩) hK hO rfl ⟨⟨ka, ⟨hO, hL⟩, hka⟩, ⟨kb, ⟨hOb, hLb⟩, hkb⟩⟩ rfl hl.1 rfl (Nat.le_of_ble_eq_true rfl) dX8_divide_48 ⟨Nat.zero_le _, Nat.zero_le _⟩ hS (fun q h => h.elim) (fun gz H1 locs1 ⟨g1, g2, g3⟩ hz1 hk1 hS => ?_)
        have hO := hO.k (hk1 _ hO.lt (fun h => h))
        have hL := hL.k (hk1 _ hL.lt (fun h => h))
        have hOb := hOb.k (hk1 _ hOb.lt (fun h => h))
        have hLb := hLb.k (hk1 _ hLb.lt (fun h => h))
        have hOc := hOc.k (hk1 _ hOc.lt (fun h => h))
        have hLc := hLc.k (hk1 _ hLc.lt (fun h => h))
        obtain ⟨t, ht⟩ : ∃ t, t = max gz 1 := ⟨_, rfl⟩
        obtain ⟨t1, t2, t3, t4, t5, t6⟩ := inner_step hY hge hgx hx0b hgs g1 g2 g3 ht hux
        refine pw_lconst (z := 1) hx hb dX8_divide_51 ?_
        refine pw_mmaxl hx hb (hml.trans hl.1.symm) hown hts (by decide +kernel) (Nat.le_of_ble_eq_true rfl) (Nat.le_of_ble_eq_true rfl) (Nat.le_of_ble_eq_true rfl) (Nat.le_of_ble_eq_true rfl) dX8_divide_52 ?_ (by omega) (by omega)
        refine pw_asl (t) ht.symm ?_
        refine lv_lstore (lv' := [(5, .long (lI (t))), (0, .ref (a)), (1, .ref (b)), (2, .ref (c0)), (3, .int (iI ((sh : Int)))), (4, .int (iI ((u : Int))))]) hx hb dX8_divide_55 hl (by decide) rfl (fun ls hl => ?_)
        refine lv_aload_n hx hb dX8_divide_57 rfl (lv_at hl 1 rfl) ?_
        refine lv_aload_n hx hb dX8_divide_58 rfl (lv_at hl 2 rfl) ?_
        refine lv_iload_n hx hb dX8_divide_59 rfl (lv_at hl 4 rfl) ?_
        refine lv_lload hx hb dX8_divide_60 (lv_at hl 0 rfl) ?_
        refine pw_callVv (As := [.ref (b), .int (iI ((sh : Int))), .long (lI (t))]) (rest := []) ⟨hx, hb, hml, hown, hts⟩ (c_takeAway l D E a n b nb sh xr y t hn hnb (by omega) h0 hy0 t1 t2 t3 hab) (cwV 3 hts gX8_divide_X8_takeAway rfl rfl rfl (by decide +kernel) ⟨Nat.le_of_ble_eq_true rfl, Nat.le_of_ble_eq_true rfl⟩) hK hO rfl ⟨⟨ka, ⟨hO, hL⟩, hka⟩, ⟨kb, ⟨hOb, hLb⟩, hkb⟩⟩ rfl hl.1 rfl (Nat.le_of_ble_eq_true rfl) dX8_divide_62 ⟨Nat.zero_le _, Nat.zero_le _⟩ hS (fun q h => by rcases h with h | h <;> simp [h]) (fun H1 locs1 hA hz1 hk1 hS => ?_)
        have hOb := hOb.k (hk1 _ hOb.lt (by (try dsimp only); omega))
        have hLb := hLb.k (hk1 _ hLb.lt (by (try dsimp only); omega))
        have hOc := hOc.k (hk1 _ hOc.lt (by (try dsimp only); omega))
        have hLc := hLc.k (hk1 _ hLc.lt (by (try dsimp only); omega))
        refine lv_aload_n hx hb dX8_divide_65 rfl (lv_at hl 3 rfl) ?_
        refine pw_get (C := RX8) (T := TX8) (N := 3) hx hb hts hin8 hown hK hOc rfl 0 (by decide) lk_7 rfl rfl dX8_divide_66 ?_
        refine lv_iload_n hx hb dX8_divide_69 rfl (lv_at hl 4 rfl) ?_
        refine lv_dup2_11 hx hb dX8_divide_70 rfl rfl ?_
        refine pw_lald hx hb hK hLc (sh) rfl (by omega) (by omega) dX8_divide_71 ?_
        refine lv_lload hx hb dX8_divide_72 (lv_at hl 0 rfl) ?_
        refine pw_ladd hx hb dX8_divide_74 ?_
        refine pw_last hx hb hK hLc hS (Or.inr (Or.inr (Or.inr rfl))) (sh) rfl (by omega) (by omega) dX8_divide_75 (fun H1 locs1 hnew hz1 oq hS => ?_)
        have hOb := hOb.k (oq _ (by omega))
        have hLb := hLb.k (oq _ (by omega))
        have hOc := hOc.k (oq _ (by omega))
        have hA := hA.k (oq _ (by omega)) (oq _ (by omega))
        have hLc := hnew
        clear hnew oq hz1
        refine lv_iinc (v := iI (((u + 1 : Nat) : Int))) (lv' := [(4, .int (iI (((u + 1 : Nat) : Int)))), (5, .long (lI (t))), (0, .ref (a)), (1, .ref (b)), (2, .ref (c0)), (3, .int (iI ((sh : Int))))]) hx hb dX8_divide_76 hl (k := 5) rfl (by show iI _ + iI _ = _; rw [iI_add]; first | rfl | (congr 1; omega)) (by decide) rfl (fun ls hl => ?_)
        refine lv_goto (tgt := 29) hx hb dX8_divide_79 (by decide) ?_
        refine ih (u + 1) (xr - t * (y * 1000000 ^ sh)) _ _ _ _ (by omega) t4 (by rw [ud_s]; exact t5) (Or.inr t6) ?_ (fun j hj e => by rw [ud_n _ _ e]; exact hdg j hj e) (by rw [ud_s]; omega) (fun j hj => by rw [ud_n _ _ (by omega)]; exact hlo j hj) hA hOb hLb hOc hLc hS (lv_sub hl [2, 3, 4, 5, 0] rfl)
        rw [wv_ud _ _ _ _ (by omega), show g sh + t - g sh = t by omega, Int.add_mul, Int.mul_assoc t, Int.mul_comm (1000000 ^ sh) y]
        omega
  have outer : ∀ (k : Nat) (xr : Int) (g : Nat → Int) (H : Heap) (locs : List Loc) (ls : Array Slot), k ≤ n → 0 ≤ xr → xr < y * 1000000 ^ k → wv g nc * y + xr = x → (∀ j, j < nc → 0 ≤ g j ∧ g j < 1000000) → (∀ j, j < k → g j = 0) → WH D E a n xr H → OA D (b) 8 [.ref (b + 1), .int (iI ((kb : Int))), .int (iI (y.sign))] H → LA E (b + 1) nb (wdig y) H → OA D (c0) 8 [.ref (c0 + 1), .int (iI (0)), .int (iI (0))] H → LA E (c0 + 1) nc g H → va_S (fun q => q = a ∨ q = a + 1 ∨ q = c0 ∨ q = c0 + 1) s.heap H locs → lv_has ls 7 [(0, .ref (a)), (1, .ref (b)), (2, .ref (c0)), (3, .int (iI ((k : Int) - 1)))] → W p l e ({ frames := 2, cells := 0, slots := 0, locals := 54 } : Room) s m args below meth c H locs (0) (0) (MQ below (pw_Q rvV (fun _ H => WH D E a n (x % y) H ∧ WH D E c0 nc (x / y) H) (fun q => q = a ∨ q = a + 1 ∨ q = c0 ∨ q = c0 + 1)) args s (0) (0) (fun q => q = a ∨ q = a + 1 ∨ q = c0 ∨ q = c0 + 1)) (F0 m 22 ls []) := by
    intro k
    induction k with
    | zero =>
      intro xr g H locs ls hk h0 h1 h2 h3 h4 hA hOb hLb hOc hLc hS hl
      refine lv_iload_n hx hb dX8_divide_22 rfl (lv_at hl 3 rfl) ?_
      refine pw_if_lt (tgt := 88) hx hb dX8_divide_23 (by decide) (fun c_23 => ?_) (fun c_23 => absurd c_23 (by omega))
      exact fin xr _ g _ _ _ h0 (by simpa using h1) h2 h3 hA hOb hLb hOc hLc hS hl
    | succ k ih =>
      intro xr g H locs ls hk h0 h1 h2 h3 h4 hA hOb hLb hOc hLc hS hl
      refine lv_iload_n hx hb dX8_divide_22 rfl (lv_at hl 3 rfl) ?_
      refine pw_if_lt (tgt := 88) hx hb dX8_divide_23 (by decide) (fun c_23 => absurd c_23 (by omega)) (fun c_23 => ?_)
      refine pw_iconst hx hb dX8_divide_26 ?_
      refine lv_istore (lv' := [(4, .int (iI (0))), (0, .ref (a)), (1, .ref (b)), (2, .ref (c0)), (3, .int (iI (((k + 1 : Nat) : Int) - 1)))]) hx hb dX8_divide_27 hl (by decide) rfl (fun ls hl => ?_)
      have hl : lv_has ls 7 [(0, .ref (a)), (1, .ref (b)), (2, .ref (c0)), (3, .int (iI ((k : Int)))), (4, .int (iI (((0 : Nat) : Int))))] := by rw [show (k : Int) = ((k + 1 : Nat) : Int) - 1 by omega]; exact lv_sub hl [1, 2, 3, 4, 0] rfl
      exact inner k (by omega) (fun xr g H locs ls a1 a2 a3 a4 a5 hA hOb hLb hOc hLc hS hl => ih xr g H locs ls (by omega) a1 a2 a3 a4 a5 hA hOb hLb hOc hLc hS hl) xr (by rw [bp_sI, Int.mul_left_comm] at h1; exact h1) 4 0 xr g _ _ _ (by omega) h0 (by rw [h4 k (by omega)]; omega) (Or.inl rfl) h2 (fun j hj _ => h3 j hj) (by rw [h4 k (by omega)]; omega) (fun j hj => h4 j (by omega)) hA hOb hLb hOc hLc hS hl
  obtain ⟨ka, ⟨hO, hL⟩, hka⟩ := hA
  have hka1 := hka.1
  refine lv_aload_n hx hb dX8_divide_0 rfl (lv_at hl 2 rfl) ?_
  refine pw_callVv (As := []) (rest := []) ⟨hx, hb, hml, hown, hts⟩ (c_clear l D E c0 nc f sz sg hnc) (cwV 0 hts gX8_divide_X8_clear rfl rfl rfl (by decide +kernel) ⟨Nat.le_of_ble_eq_true rfl, Nat.le_of_ble_eq_true rfl⟩) hK hOc rfl ⟨hOc, hLc⟩ rfl hl.1 rfl (Nat.le_of_ble_eq_true rfl) dX8_divide_1 ⟨Nat.zero_le _, Nat.zero_le _⟩ hS (fun q h => by rcases h with h | h <;> simp [h]) (fun H1 locs1 ⟨hOc, hLc⟩ hz1 hk1 hS => ?_)
  have hO := hO.k (hk1 _ hO.lt (by (try dsimp only); omega))
  have hL := hL.k (hk1 _ hL.lt (by (try dsimp only); omega))
  have hOb := hOb.k (hk1 _ hOb.lt (by (try dsimp only); omega))
  have hLb := hLb.k (hk1 _ hLb.lt (by (try dsimp only); omega))
  refine lv_aload_n hx hb dX8_divide_4 rfl (lv_at hl 1 rfl) ?_
  refine pw_get (C := RX8) (T := TX8) (N := 3) hx hb hts hin8 hown hK hOb rfl 1 (by decide) lk_13 rfl rfl dX8_divide_5 ?_
  refine pw_if_ne (tgt := 12) hx hb dX8_divide_8 (by decide) (fun c_8 => ?_) (fun c_8 => absurd c_8 (by omega))
  refine lv_aload_n hx hb dX8_divide_12 rfl (lv_at hl 0 rfl) ?_
  refine pw_get (C := RX8) (T := TX8) (N := 3) hx hb hts hin8 hown hK hO rfl 1 (by decide) lk_13 rfl rfl dX8_divide_13 ?_
  refine lv_aload_n hx hb dX8_divide_16 rfl (lv_at hl 1 rfl) ?_
  refine pw_get (C := RX8) (T := TX8) (N := 3) hx hb hts hin8 hown hK hOb rfl 1 (by decide) lk_13 rfl rfl dX8_divide_17 ?_
  refine pw_isub hx hb dX8_divide_20 ?_
  refine lv_istore_n (lv' := [(3, .int (iI (((ka : Int)) - ((kb : Int))))), (0, .ref (a)), (1, .ref (b)), (2, .ref (c0))]) hx hb dX8_divide_21 rfl hl (by decide) rfl (fun ls hl => ?_)
  rcases Nat.lt_or_ge ka kb with hlt | hge
  · have hxy : x < y := by
      have h1 := reach_lt hx0 hy0 hka hkb (s := 0) (by omega)
      simp at h1
      omega
    have hl : lv_has ls 7 [(0, .ref (a)), (1, .ref (b)), (2, .ref (c0)), (3, .int (iI ((ka : Int) - (kb : Int))))] := lv_sub hl [1, 2, 3, 0] rfl
    refine lv_iload_n hx hb dX8_divide_22 rfl (lv_at hl 3 rfl) ?_
    refine pw_if_lt (tgt := 88) hx hb dX8_divide_23 (by decide) (fun c_23 => ?_) (fun c_23 => absurd c_23 (by omega))
    exact fin x _ _ _ _ _ hx0 hxy (by rw [wv_zero]; omega) (fun j _ => by simp) ⟨ka, ⟨hO, hL⟩, hka⟩ hOb hLb hOc hLc hS hl
  · have hl : lv_has ls 7 [(0, .ref (a)), (1, .ref (b)), (2, .ref (c0)), (3, .int (iI (((ka + 1 - kb : Nat) : Int) - 1)))] := by rw [show ((ka + 1 - kb : Nat) : Int) - 1 = (ka : Int) - (kb : Int) by omega]; exact lv_sub hl [1, 2, 3, 0] rfl
    exact outer (ka + 1 - kb) x _ _ _ _ (by omega) hx0 (div_first hx0 hy0 hka hkb) (by rw [wv_zero]; omega) (fun j _ => by simp) (fun j _ => rfl) ⟨ka, ⟨hO, hL⟩, hka⟩ hOb hLb hOc hLc hS hl
end
section
/-! the class's whole numbers: eighteen digits, the constructor -/
set_option maxHeartbeats 4000000 in
set_option maxRecDepth 100000 in
/-- eighteen(i): the i-th eighteen digits -/
theorem c_eighteen (l : Launch) (D : va_G) (E : Nat → ClassId) (a n i : Nat) (v : Int) (hn : n < 1000) (hv : 0 ≤ v) (hi : i < 2147483648) : pw_M rvL l D E yX8_eighteen wsX8_eighteen ({ frames := 1, cells := 0, slots := 0, locals := 21 } : Room) [.ref (a), .int (iI ((i : Int)))] (fun H => WH D E a n v H) (fun z H => z = ((e18 v.natAbs i : Nat) : Int)) (fun _ => False) (0) (0) := by
  refine pw_of (cc := cX8_eighteen) (maxL := 5) (ret := (some .long)) (by decide +kernel) rfl (Nat.le_of_ble_eq_true rfl) ?_
  intro p e s m args below meth c hx hb hr hml hts hown hlocks hini hK ⟨ka, ⟨hO, hL⟩, hka⟩ ls hl
  have hown : s.vm.findClass RX8 = some m.cls := hown
  have hl : lv_has ls 5 [(0, .ref (a)), (1, .int (iI ((i : Int))))] := hl
  have hS : va_S (fun _ => False) s.heap s.heap [] := va_S.rf
  have lk_7 := hts (.fieldLink RX8 7 "PolicyWorks$Whole" "limbs" "[J") (by decide +kernel)
  have kc_44 := hts (.constantLong RX8 44 (1000000)) (by decide +kernel)
  have hin8 : ∀ w ∈ wsX80, w ∈ wsX8_eighteen := by decide +kernel
  have hka1 := hka.1
  have e3 : (n : Int).tdiv 3 = ((n / 3 : Nat) : Int) := rfl
  have r0 := lb_b v ((i : Int) * 3 + 0)
  have r1 := lb_b v ((i : Int) * 3 + 1)
  have r2 := lb_b v ((i : Int) * 3 + 2)
  refine lv_iload_n hx hb dX8_eighteen_0 rfl (lv_at hl 1 rfl) ?_
  refine pw_if_lt (tgt := 15) hx hb dX8_eighteen_1 (by decide) (fun c_1 => absurd c_1 (by omega)) (fun c_1 => ?_)
  refine lv_iload_n hx hb dX8_eighteen_4 rfl (lv_at hl 1 rfl) ?_
  refine lv_aload_n hx hb dX8_eighteen_5 rfl (lv_at hl 0 rfl) ?_
  refine pw_get (C := RX8) (T := TX8) (N := 3) hx hb hts hin8 hown hK hO rfl 0 (by decide) lk_7 rfl rfl dX8_eighteen_6 ?_
  refine pw_alen (n := n) (k0 := 1) hx hb hK hL rfl rfl dX8_eighteen_9 ?_
  refine pw_iconst hx hb dX8_eighteen_10 ?_
  refine pw_idiv hx hb dX8_eighteen_11 (by omega) ?_
  refine pw_asi (((n / 3 : Nat) : Int)) e3 ?_
  refine pw_icmp_le (tgt := 17) hx hb dX8_eighteen_12 (by decide) (fun c_12 => ?_) (fun c_12 => ?_)
  · refine pw_lconst (z := 0) hx hb dX8_eighteen_17 ?_
    refine lv_lstore_n (lv' := [(2, .long (lI (0))), (0, .ref (a)), (1, .int (iI ((i : Int))))]) hx hb dX8_eighteen_18 rfl hl (by decide) rfl (fun ls hl => ?_)
    refine pw_iconst hx hb dX8_eighteen_19 ?_
    refine lv_istore (lv' := [(4, .int (iI (2))), (2, .long (lI (0))), (0, .ref (a)), (1, .int (iI ((i : Int))))]) hx hb dX8_eighteen_20 hl (by decide) rfl (fun ls hl => ?_)
    refine lv_iload hx hb dX8_eighteen_22 (lv_at hl 0 rfl) ?_
    refine pw_if_lt (tgt := 50) hx hb dX8_eighteen_24 (by decide) (fun c_24 => absurd c_24 (by omega)) (fun c_24 => ?_)
    refine lv_lload_n hx hb dX8_eighteen_27 rfl (lv_at hl 1 rfl) ?_
    refine pw_ldc2 (z := 1000000) hx hb hown kc_44 (by decide +kernel) dX8_eighteen_28 ?_
    refine pw_lmul hx hb dX8_eighteen_31 ?_
    refine lv_aload_n hx hb dX8_eighteen_32 rfl (lv_at hl 2 rfl) ?_
    refine lv_iload_n hx hb dX8_eighteen_33 rfl (lv_at hl 3 rfl) ?_
    refine pw_iconst hx hb dX8_eighteen_34 ?_
    refine pw_imul hx hb dX8_eighteen_35 ?_
    refine lv_iload hx hb dX8_eighteen_36 (lv_at hl 0 rfl) ?_
    refine pw_iadd hx hb dX8_eighteen_38 ?_
    refine pw_asi ((i : Int) * 3 + 2) (by omega) ?_
    refine pw_callVl (As := [.int (iI ((i : Int) * 3 + 2))]) (rest := [.long (lI ((0) * (1000000)))]) ⟨hx, hb, hml, hown, hts⟩ (c_limbAt l D E a n (wdig v) ka v.sign ((i : Int) * 3 + 2) hn (by omega) (by omega) (by omega)) (cwV 1 hts gX8_eighteen_X8_limbAt rfl rfl rfl (by decide +kernel) ⟨Nat.le_of_ble_eq_true rfl, Nat.le_of_ble_eq_true rfl⟩) hK hO rfl ⟨hO, hL⟩ rfl hl.1 rfl (Nat.le_of_ble_eq_true rfl) dX8_eighteen_39 ⟨Nat.zero_le _, Nat.zero_le _⟩ hS (fun q h => h.elim) (fun z H1 locs1 hz hz1 hk1 hS => ?_)
    have hO := hO.k (hk1 _ hO.lt (fun h => h))
    have hL := hL.k (hk1 _ hL.lt (fun h => h))
    have hz : z = lb v ((i : Int) * 3 + 2) := by rw [hz.1]; exact lb_at hka _
    subst hz
    refine pw_ladd hx hb dX8_eighteen_42 ?_
    refine lv_lstore_n (lv' := [(2, .long (lI (((0) * (1000000)) + (lb v ((i : Int) * 3 + 2))))), (4, .int (iI (2))), (0, .ref (a)), (1, .int (iI ((i : Int))))]) hx hb dX8_eighteen_43 rfl hl (by decide) rfl (fun ls hl => ?_)
    refine lv_iinc (v := iI (1)) (lv' := [(4, .int (iI (1))), (2, .long (lI (((0) * (1000000)) + (lb v ((i : Int) * 3 + 2))))), (0, .ref (a)), (1, .int (iI ((i : Int))))]) hx hb dX8_eighteen_44 hl (k := 1) rfl (by show iI _ + iI _ = _; rw [iI_add]; first | rfl | (congr 1; omega)) (by decide) rfl (fun ls hl => ?_)
    refine lv_goto (tgt := 22) hx hb dX8_eighteen_47 (by decide) ?_
    refine lv_iload hx hb dX8_eighteen_22 (lv_at hl 0 rfl) ?_
    refine pw_if_lt (tgt := 50) hx hb dX8_eighteen_24 (by decide) (fun c_24 => absurd c_24 (by omega)) (fun c_24 => ?_)
    refine lv_lload_n hx hb dX8_eighteen_27 rfl (lv_at hl 1 rfl) ?_
    refine pw_ldc2 (z := 1000000) hx hb hown kc_44 (by decide +kernel) dX8_eighteen_28 ?_
    refine pw_lmul hx hb dX8_eighteen_31 ?_
    refine lv_aload_n hx hb dX8_eighteen_32 rfl (lv_at hl 2 rfl) ?_
    refine lv_iload_n hx hb dX8_eighteen_33 rfl (lv_at hl 3 rfl) ?_
    refine pw_iconst hx hb dX8_eighteen_34 ?_
    refine pw_imul hx hb dX8_eighteen_35 ?_
    refine lv_iload hx hb dX8_eighteen_36 (lv_at hl 0 rfl) ?_
    refine pw_iadd hx hb dX8_eighteen_38 ?_
    refine pw_asi ((i : Int) * 3 + 1) (by omega) ?_
    refine pw_callVl (As := [.int (iI ((i : Int) * 3 + 1))]) (rest := [.long (lI ((((0) * (1000000)) + (lb v ((i : Int) * 3 + 2))) * (1000000)))]) ⟨hx, hb, hml, hown, hts⟩ (c_limbAt l D E a n (wdig v) ka v.sign ((i : Int) * 3 + 1) hn (by omega) (by omega) (by omega)) (cwV 1 hts gX8_eighteen_X8_limbAt rfl rfl rfl (by decide +kernel) ⟨Nat.le_of_ble_eq_true rfl, Nat.le_of_ble_eq_true rfl⟩) hK hO rfl ⟨hO, hL⟩ rfl hl.1 rfl (Nat.le_of_ble_eq_true rfl) dX8_eighteen_39 ⟨Nat.zero_le _, Nat.zero_le _⟩ hS (fun q h => h.elim) (fun z H1 locs1 hz hz1 hk1 hS => ?_)
    have hO := hO.k (hk1 _ hO.lt (fun h => h))
    have hL := hL.k (hk1 _ hL.lt (fun h => h))
    have hz : z = lb v ((i : Int) * 3 + 1) := by rw [hz.1]; exact lb_at hka _
    subst hz
    refine pw_ladd hx hb dX8_eighteen_42 ?_
    refine lv_lstore_n (lv' := [(2, .long (lI (((((0) * (1000000)) + (lb v ((i : Int) * 3 + 2))) * (1000000)) + (lb v ((i : Int) * 3 + 1))))), (4, .int (iI (1))), (0, .ref (a)), (1, .int (iI ((i : Int))))]) hx hb dX8_eighteen_43 rfl hl (by decide) rfl (fun ls hl => ?_)
    refine lv_iinc (v := iI (0)) (lv' := [(4, .int (iI (0))), (2, .long (lI (((((0) * (1000000)) + (lb v ((i : Int) * 3 + 2))) * (1000000)) + (lb v ((i : Int) * 3 + 1))))), (0, .ref (a)), (1, .int (iI ((i : Int))))]) hx hb dX8_eighteen_44 hl (k := 1) rfl (by show iI _ + iI _ = _; rw [iI_add]; first | rfl | (congr 1; omega)) (by decide) rfl (fun ls hl => ?_)
    refine lv_goto (tgt := 22) hx hb dX8_eighteen_47 (by decide) ?_
    refine lv_iload hx hb dX8_eighteen_22 (lv_at hl 0 rfl) ?_
    refine pw_if_lt (tgt := 50) hx hb dX8_eighteen_24 (by decide) (fun c_24 => absurd c_24 (by omega)) (fun c_24 => ?_)
    refine lv_lload_n hx hb dX8_eighteen_27 rfl (lv_at hl 1 rfl) ?_
    refine pw_ldc2 (z := 1000000) hx hb hown kc_44 (by decide +kernel) dX8_eighteen_28 ?_
    refine pw_lmul hx hb dX8_eighteen_31 ?_
    refine lv_aload_n hx hb dX8_eighteen_32 rfl (lv_at hl 2 rfl) ?_
    refine lv_iload_n hx hb dX8_eighteen_33 rfl (lv_at hl 3 rfl) ?_
    refine pw_iconst hx hb dX8_eighteen_34 ?_
    refine pw_imul hx hb dX8_eighteen_35 ?_
    refine lv_iload hx hb dX8_eighteen_36 (lv_at hl 0 rfl) ?_
    refine pw_iadd hx hb dX8_eighteen_38 ?_
    refine pw_asi ((i : Int) * 3 + 0) (by omega) ?_
    refine pw_callVl (As := [.int (iI ((i : Int) * 3 + 0))]) (rest := [.long (lI ((((((0) * (1000000)) + (lb v ((i : Int) * 3 + 2))) * (1000000)) + (lb v ((i : Int) * 3 + 1))) * (1000000)))]) ⟨hx, hb, hml, hown, hts⟩ (c_limbAt l D E a n (wdig v) ka v.sign ((i : Int) * 3 + 0) hn (by omega) (by omega) (by omega)) (cwV 1 hts gX8_eighteen_X8_limbAt rfl rfl rfl (by decide +kernel) ⟨Nat.le_of_ble_eq_true rfl, Nat.le_of_ble_eq_true rfl⟩) hK hO rfl ⟨hO, hL⟩ rfl hl.1 rfl (Nat.le_of_ble_eq_true rfl) dX8_eighteen_39 ⟨Nat.zero_le _, Nat.zero_le _⟩ hS (fun q h => h.elim) (fun z H1 locs1 hz hz1 hk1 hS => ?_)
    have hO := hO.k (hk1 _ hO.lt (fun h => h))
    have hL := hL.k (hk1 _ hL.lt (fun h => h))
    have hz : z = lb v ((i : Int) * 3 + 0) := by rw [hz.1]; exact lb_at hka _
    subst hz
    refine pw_ladd hx hb dX8_eighteen_42 ?_
    refine lv_lstore_n (lv' := [(2, .long (lI (((((((0) * (1000000)) + (lb v ((i : Int) * 3 + 2))) * (1000000)) + (lb v ((i : Int) * 3 + 1))) * (1000000)) + (lb v ((i : Int) * 3 + 0))))), (4, .int (iI (0))), (0, .ref (a)), (1, .int (iI ((i : Int))))]) hx hb dX8_eighteen_43 rfl hl (by decide) rfl (fun ls hl => ?_)
    refine lv_iinc (v := iI (-1)) (lv' := [(4, .int (iI (-1))), (2, .long (lI (((((((0) * (1000000)) + (lb v ((i : Int) * 3 + 2))) * (1000000)) + (lb v ((i : Int) * 3 + 1))) * (1000000)) + (lb v ((i : Int) * 3 + 0))))), (0, .ref (a)), (1, .int (iI ((i : Int))))]) hx hb dX8_eighteen_44 hl (k := 1) rfl (by show iI _ + iI _ = _; rw [iI_add]; first | rfl | (congr 1; omega)) (by decide) rfl (fun ls hl => ?_)
    refine lv_goto (tgt := 22) hx hb dX8_eighteen_47 (by decide) ?_
    refine lv_iload hx hb dX8_eighteen_22 (lv_at hl 0 rfl) ?_
    refine pw_if_lt (tgt := 50) hx hb dX8_eighteen_24 (by decide) (fun c_24 => ?_) (fun c_24 => absurd c_24 (by omega))
    refine lv_lload_n hx hb dX8_eighteen_50 rfl (lv_at hl 1 rfl) ?_
    exact pw_lret hx hb hr hlocks hS (e18_lb hv i) dX8_eighteen_51
  · refine pw_lconst (z := 0) hx hb dX8_eighteen_15 ?_
    exact pw_lret (z := 0) hx hb hr hlocks hS (by rw [e18_big (wh_bound hka) (by omega)]; rfl) dX8_eighteen_16
end
section
/-! fractions: told by parts -/
theorem WH.o {D : va_G} {E : Nat → ClassId} {a n : Nat} {v : Int} {H : Heap} (h : WH D E a n v H) : ∃ fs, OA D a 8 fs H := by
  obtain ⟨k, h2, _⟩ := h
  exact ⟨_, h2.1⟩
theorem WH.r {D : va_G} {E : Nat → ClassId} {a n : Nat} {v : Int} {H : Heap} (h : WH D E a n v H) : ∃ k : Nat, WR D E a n (wdig v) k v.sign H := by
  obtain ⟨k, h2, _⟩ := h
  exact ⟨k, h2⟩
theorem WH.b {D : va_G} {E : Nat → ClassId} {a n : Nat} {v : Int} {H : Heap} (h : WH D E a n v H) : v.natAbs < 1000000 ^ n := by
  obtain ⟨k, _, h3⟩ := h
  exact wh_bound h3
theorem WH.bi {D : va_G} {E : Nat → ClassId} {a n : Nat} {v : Int} {H : Heap} (h : WH D E a n v H) : -(1000000 ^ n) < v ∧ v < 1000000 ^ n := int_lt h.b
/-- a fraction's cells -/
def FR (D : va_G) (E : Nat → ClassId) (a : Nat) (u w o1 o2 o3 : Int) (H : Heap) : Prop := OA D a 3 [.ref (a + 1), .ref (a + 3), .ref (a + 5), .ref (a + 7), .ref (a + 9)] H ∧ WH D E (a + 1) 24 u H ∧ WH D E (a + 3) 24 w H ∧ WH D E (a + 5) 24 o1 H ∧ WH D E (a + 7) 24 o2 H ∧ WH D E (a + 9) 24 o3 H
theorem FR.k {D : va_G} {E : Nat → ClassId} {a : Nat} {u w o1 o2 o3 : Int} {H H1 : Heap} (h : FR D E a u w o1 o2 o3 H) (hq : ∀ q, a ≤ q → q ≤ a + 10 → q < H.size → H1[q]? = H[q]?) : FR D E a u w o1 o2 o3 H1 := by
  obtain ⟨h0, h1, h2, h3, h4, h5⟩ := h
  have l5 := h5.lt
  exact ⟨h0.k (hq _ (by omega) (by omega) (by omega)), h1.k (hq _ (by omega) (by omega) (by omega)) (hq _ (by omega) (by omega) (by omega)), h2.k (hq _ (by omega) (by omega) (by omega)) (hq _ (by omega) (by omega) (by omega)), h3.k (hq _ (by omega) (by omega) (by omega)) (hq _ (by omega) (by omega) (by omega)), h4.k (hq _ (by omega) (by omega) (by omega)) (hq _ (by omega) (by omega) (by omega)), h5.k (hq _ (by omega) (by omega) (by omega)) (hq _ (by omega) (by omega) (by omega))⟩
def gg (u w : Int) : Nat := Nat.gcd u.natAbs w.natAbs
theorem gg_step {x y : Int} (hx : 0 ≤ x) (hy : 0 < y) : gg y (x % y) = gg x y := by
  unfold gg
  obtain ⟨xn, rfl⟩ : ∃ xn : Nat, x = (xn : Int) := ⟨x.natAbs, by omega⟩
  obtain ⟨yn, rfl⟩ : ∃ yn : Nat, y = (yn : Int) := ⟨y.natAbs, by omega⟩
  rw [← Int.natCast_emod, Int.natAbs_natCast, Int.natAbs_natCast, Int.natAbs_natCast, Nat.gcd_comm yn, ← Nat.gcd_rec yn xn, Nat.gcd_comm]
theorem gg_abs (u w : Int) : gg (u.natAbs : Int) w = gg u w := by unfold gg; rw [Int.natAbs_natCast]
theorem gg_pos {u w : Int} (hw : 0 < w) : 0 < gg u w := Nat.gcd_pos_of_pos_right _ (by omega)
/-- Euclid's turns: how far the lesser one has come down -/
def eu (w x y : Int) (T : Nat) : Prop := 0 ≤ x ∧ 0 ≤ y ∧ y * 2 ^ (T / 2) ≤ w ∧ (T = 0 ∨ (y < x ∧ x * 2 ^ ((T - 1) / 2) ≤ w))
theorem eu_step {w x y : Int} {T : Nat} (h : eu w x y T) (hy : 0 < y) (hx : T = 0 → y = w) : eu w y (x % y) (T + 1) := by
  obtain ⟨h0, h1, h2, h3⟩ := h
  have m1 := Int.emod_nonneg x (show y ≠ 0 by omega)
  have m2 := Int.emod_lt_of_pos x hy
  refine ⟨by omega, m1, ?_, Or.inr ⟨m2, by rw [Nat.add_sub_cancel]; exact h2⟩⟩
  rcases h3 with h3 | ⟨h3, h4⟩
  · have := hx h3
    subst h3
    simp
    omega
  · by_cases hT : T = 0
    · have := hx hT
      subst hT
      simp
      omega
    · have e : (T + 1) / 2 = (T - 1) / 2 + 1 := by omega
      rw [e, Int.pow_succ]
      have hp : (0 : Int) < 2 ^ ((T - 1) / 2) := Int.pow_pos (by omega)
      have hh : x % y * 2 ≤ x := by
        have a1 := Int.emod_add_mul_ediv x y
        have a2 : 1 ≤ x / y := by
          have := Int.ediv_le_ediv hy (show y ≤ x by omega)
          rw [Int.ediv_self (by omega)] at this
          exact this
        have a3 : y * 1 ≤ y * (x / y) := Int.mul_le_mul_of_nonneg_left a2 (by omega)
        omega
      have a4 : x % y * 2 * 2 ^ ((T - 1) / 2) ≤ x * 2 ^ ((T - 1) / 2) := Int.mul_le_mul_of_nonneg_right hh (by omega)
      rw [Int.mul_comm (2 ^ ((T - 1) / 2)) 2, ← Int.mul_assoc]
      omega
theorem eu_end {w x y : Int} {T : Nat} (h : eu w x y T) (hw : w < 1000000 ^ 24) (hy : 0 < y) : T < 960 := by
  obtain ⟨h0, h1, h2, h3⟩ := h
  rcases Nat.lt_or_ge T 960 with h | h
  · exact h
  · exfalso
    have a1 : (2 : Int) ^ 480 ≤ 2 ^ (T / 2) := by
      have h1 : ((2 ^ 480 : Nat) : Int) ≤ ((2 ^ (T / 2) : Nat) : Int) := Int.ofNat_le.mpr (Nat.pow_le_pow_right (by omega) (by omega))
      rw [Int.natCast_pow, Int.natCast_pow] at h1
      exact h1
    have a2 : 1 * (2 : Int) ^ (T / 2) ≤ y * 2 ^ (T / 2) := Int.mul_le_mul_of_nonneg_right (by omega) (by have : (0 : Int) < 2 ^ (T / 2) := Int.pow_pos (by omega); omega)
    have a3 : (1000000 : Int) ^ 24 < 2 ^ 480 := by decide +kernel
    omega
/-- what a fraction tells by a part -/
def tellZ (u w part : Int) : Int := if part = -1 then u.sign else if part % 2 = 0 then ((e18 (u.natAbs / gg u w) (part / 2).toNat : Nat) : Int) else ((e18 (w.natAbs / gg u w) (part / 2).toNat : Nat) : Int)
set_option maxHeartbeats 4000000 in
set_option maxRecDepth 100000 in
/-- commonDivisor() -/
theorem c_comDiv (l : Launch) (D : va_G) (E : Nat → ClassId) (a : Nat) (u w o1 o2 o3 : Int) (hu0 : 0 ≤ u) (hw0 : 0 < w) : pw_M rvR l D E yX3_commonDivisor wsX3_commonDivisor ({ frames := 3, cells := 0, slots := 0, locals := 80 } : Room) [.ref (a)] (fun H => FR D E a u w o1 o2 o3 H) (fun r H => ((r = a + 5 ∧ WH D E (a + 5) 24 (gg u w : Int) H ∧ ∃ o2, WH D E (a + 7) 24 o2 H) ∨ (r = a + 7 ∧ WH D E (a + 7) 24 (gg u w : Int) H ∧ ∃ o1, WH D E (a + 5) 24 o1 H)) ∧ ∃ o3, WH D E (a + 9) 24 o3 H) (fun q => a + 5 ≤ q ∧ q ≤ a + 10) (0) (0) := by
  refine pw_of (cc := cX3_commonDivisor) (maxL := 5) (ret := (some (.object "PolicyWorks$Whole"))) (by decide +kernel) rfl (Nat.le_of_ble_eq_true rfl) ?_
  intro p e s m args below meth c hx hb hr hml hts hown hlocks hini hK ⟨hF, hU, hV, h5, h7, h9⟩ ls hl
  have hown : s.vm.findClass RX3 = some m.cls := hown
  have hl : lv_has ls 5 [(0, .ref (a))] := hl
  have hS : va_S (fun q => a + 5 ≤ q ∧ q ≤ a + 10) s.heap s.heap [] := va_S.rf
  have lk_14 := hts (.fieldLink RX3 14 "PolicyWorks$Fraction" "above" "LPolicyWorks$Whole;") (by decide +kernel)
  have lk_20 := hts (.fieldLink RX3 20 "PolicyWorks$Fraction" "below" "LPolicyWorks$Whole;") (by decide +kernel)
  have lk_23 := hts (.fieldLink RX3 23 "PolicyWorks$Fraction" "one" "LPolicyWorks$Whole;") (by decide +kernel)
  have lk_26 := hts (.fieldLink RX3 26 "PolicyWorks$Fraction" "other" "LPolicyWorks$Whole;") (by decide +kernel)
  have lk_29 := hts (.fieldLink RX3 29 "PolicyWorks$Fraction" "quotient" "LPolicyWorks$Whole;") (by decide +kernel)
  have lk_58 := hts (.fieldLink RX3 58 "PolicyWorks$Whole" "size" "I") (by decide +kernel)
  have hin3 : ∀ w ∈ wsX30, w ∈ wsX3_commonDivisor := by decide +kernel
  have hin8 : ∀ w ∈ wsX80, w ∈ wsX3_commonDivisor := by decide +kernel
  have hub := hU.bi
  have hwb := hV.bi
  have loop : ∀ (k T G L : Nat) (x y q : Int) (H : Heap) (locs : List Loc) (ls : Array Slot), T + k = 960 → (G = a + 5 ∧ L = a + 7 ∨ G = a + 7 ∧ L = a + 5) → eu w x y T → (T = 0 → y = w) → gg x y = gg u w → OA D (a) 3 [.ref (a + 1), .ref (a + 3), .ref (a + 5), .ref (a + 7), .ref (a + 9)] H → WH D E G 24 x H → WH D E L 24 y H → WH D E (a + 9) 24 q H → va_S (fun q => a + 5 ≤ q ∧ q ≤ a + 10) s.heap H locs → lv_has ls 5 [(0, .ref (a)), (1, .ref (G)), (2, .ref (L)), (3, .int (iI ((T : Int))))] → W p l e ({ frames := 3, cells := 0, slots := 0, locals := 80 } : Room) s m args below meth c H locs (0) (0) (MQ below (pw_Q rvR (fun r H => ((r = a + 5 ∧ WH D E (a + 5) 24 (gg u w : Int) H ∧ ∃ o2, WH D E (a + 7) 24 o2 H) ∨ (r = a + 7 ∧ WH D E (a + 7) 24 (gg u w : Int) H ∧ ∃ o1, WH D E (a + 5) 24 o1 H)) ∧ ∃ o3, WH D E (a + 9) 24 o3 H) (fun q => a + 5 ≤ q ∧ q ≤ a + 10)) args s (0) (0) (fun q => a + 5 ≤ q ∧ q ≤ a + 10)) (F0 m 28 ls []) := by
    intro k
    induction k with
    | zero =>
      intro T G L x y q H locs ls hT hGL heu hTy hg hF hG hLL h9 hS hl
      obtain ⟨kL, ⟨hOL, hLL0⟩, hkL⟩ := hLL
      have hkz := wk_z hkL
      have hkL1 := hkL.1
      have hy0 : y = 0 := by
        rcases Int.lt_or_le 0 y with h | h
        · have := eu_end heu hwb.2 h; omega
        · have := heu.2.1; omega
      have hk0 := hkz.mpr hy0
      refine lv_iload_n hx hb dX3_commonDivisor_28 rfl (lv_at hl 3 rfl) ?_
      refine pw_sipush hx hb dX3_commonDivisor_29 ?_
      refine pw_icmp_ge (tgt := 65) hx hb dX3_commonDivisor_32 (by decide) (fun c_32 => absurd c_32 (by omega)) (fun c_32 => ?_)
      refine lv_aload_n hx hb dX3_commonDivisor_35 rfl (lv_at hl 2 rfl) ?_
      refine pw_get (C := RX8) (T := TX8) (N := 3) hx hb hts hin8 hown hK hOL rfl 1 (by decide) lk_58 rfl rfl dX3_commonDivisor_36 ?_
      refine pw_if_le (tgt := 65) hx hb dX3_commonDivisor_39 (by decide) (fun c_39 => ?_) (fun c_39 => absurd c_39 (by omega))
      refine lv_aload_n hx hb dX3_commonDivisor_65 rfl (lv_at hl 1 rfl) ?_
      have hy0 : y = 0 := hkz.mp (by omega)
      have hLL : WH D E L 24 y H := ⟨kL, ⟨hOL, hLL0⟩, hkL⟩
      have hgy : (x : Int) = (gg u w : Int) := by
        rw [← hg, hy0]
        unfold gg
        simp
        have := heu.1
        omega
      have hpp : ((G = a + 5 ∧ WH D E (a + 5) 24 (gg u w : Int) H ∧ ∃ o2, WH D E (a + 7) 24 o2 H) ∨ (G = a + 7 ∧ WH D E (a + 7) 24 (gg u w : Int) H ∧ ∃ o1, WH D E (a + 5) 24 o1 H)) ∧ ∃ o3, WH D E (a + 9) 24 o3 H := by
        rcases hGL with ⟨rfl, rfl⟩ | ⟨rfl, rfl⟩
        · exact ⟨Or.inl ⟨rfl, by rw [← hgy]; exact hG, _, hLL⟩, _, h9⟩
        · exact ⟨Or.inr ⟨rfl, by rw [← hgy]; exact hG, _, hLL⟩, _, h9⟩
      exact pw_aret (cn := "PolicyWorks$Whole") hx hb hr hlocks hS hpp dX3_commonDivisor_66
    | succ k ih =>
      intro T G L x y q H locs ls hT hGL heu hTy hg hF hG hLL h9 hS hl
      obtain ⟨kL, ⟨hOL, hLL0⟩, hkL⟩ := hLL
      have hkz := wk_z hkL
      have hkL1 := hkL.1
      refine lv_iload_n hx hb dX3_commonDivisor_28 rfl (lv_at hl 3 rfl) ?_
      refine pw_sipush hx hb dX3_commonDivisor_29 ?_
      refine pw_icmp_ge (tgt := 65) hx hb dX3_commonDivisor_32 (by decide) (fun c_32 => absurd c_32 (by omega)) (fun c_32 => ?_)
      refine lv_aload_n hx hb dX3_commonDivisor_35 rfl (lv_at hl 2 rfl) ?_
      refine pw_get (C := RX8) (T := TX8) (N := 3) hx hb hts hin8 hown hK hOL rfl 1 (by decide) lk_58 rfl rfl dX3_commonDivisor_36 ?_
      refine pw_if_le (tgt := 65) hx hb dX3_commonDivisor_39 (by decide) (fun c_39 => ?_) (fun c_39 => ?_)
      · refine lv_aload_n hx hb dX3_commonDivisor_65 rfl (lv_at hl 1 rfl) ?_
        have hy0 : y = 0 := hkz.mp (by omega)
        have hLL : WH D E L 24 y H := ⟨kL, ⟨hOL, hLL0⟩, hkL⟩
        have hgy : (x : Int) = (gg u w : Int) := by
          rw [← hg, hy0]
          unfold gg
          simp
          have := heu.1
          omega
        have hpp : ((G = a + 5 ∧ WH D E (a + 5) 24 (gg u w : Int) H ∧ ∃ o2, WH D E (a + 7) 24 o2 H) ∨ (G = a + 7 ∧ WH D E (a + 7) 24 (gg u w : Int) H ∧ ∃ o1, WH D E (a + 5) 24 o1 H)) ∧ ∃ o3, WH D E (a + 9) 24 o3 H := by
          rcases hGL with ⟨rfl, rfl⟩ | ⟨rfl, rfl⟩
          · exact ⟨Or.inl ⟨rfl, by rw [← hgy]; exact hG, _, hLL⟩, _, h9⟩
          · exact ⟨Or.inr ⟨rfl, by rw [← hgy]; exact hG, _, hLL⟩, _, h9⟩
        exact pw_aret (cn := "PolicyWorks$Whole") hx hb hr hlocks hS hpp dX3_commonDivisor_66
      · refine lv_aload_n hx hb dX3_commonDivisor_42 rfl (lv_at hl 1 rfl) ?_
        refine lv_aload_n hx hb dX3_commonDivisor_43 rfl (lv_at hl 2 rfl) ?_
        refine lv_aload_n hx hb dX3_commonDivisor_44 rfl (lv_at hl 0 rfl) ?_
        refine pw_get (C := RX3) (T := TX3) (N := 5) hx hb hts hin3 hown hK hF rfl 4 (by decide) lk_29 rfl rfl dX3_commonDivisor_45 ?_
        have hy0 : 0 < y := by have h := heu.2.1; rcases Int.lt_or_le 0 y with h2 | h2; exact h2; exact absurd (hkz.mpr (by omega)) (by omega)
        have hLL : WH D E L 24 y H := ⟨kL, ⟨hOL, hLL0⟩, hkL⟩
        obtain ⟨kq, h9r⟩ := h9.r
        refine pw_callVv (As := [.ref (L), .ref (a + 9)]) (rest := []) ⟨hx, hb, hml, hown, hts⟩ (c_divide l D E G 24 L 24 (a + 9) 24 (wdig q) kq q.sign x y (by omega) (by omega) (by omega) (by omega) heu.1 hy0 (by omega) (by omega) (by omega)) (cwV 2 hts gX3_commonDivisor_X8_divide rfl rfl rfl (by decide +kernel) ⟨Nat.le_of_ble_eq_true rfl, Nat.le_of_ble_eq_true rfl⟩) hK hG.o.choose_spec rfl ⟨hG, hLL, h9r⟩ rfl hl.1 rfl (Nat.le_of_ble_eq_true rfl) dX3_commonDivisor_48 ⟨Nat.zero_le _, Nat.zero_le _⟩ hS (fun q h => by (try dsimp only at h); (try dsimp only); omega) (fun H1 locs1 ⟨hG, h9⟩ hz1 hk1 hS => ?_)
        have hF := hF.k (hk1 _ hF.lt (by (try dsimp only); omega))
        have hOL := hOL.k (hk1 _ hOL.lt (by (try dsimp only); omega))
        have hLL0 := hLL0.k (hk1 _ hLL0.lt (by (try dsimp only); omega))
        refine lv_aload_n hx hb dX3_commonDivisor_51 rfl (lv_at hl 1 rfl) ?_
        refine lv_astore (lv' := [(4, .ref (G)), (0, .ref (a)), (1, .ref (G)), (2, .ref (L)), (3, .int (iI ((T : Int))))]) hx hb dX3_commonDivisor_52 hl (by decide) rfl (fun ls hl => ?_)
        refine lv_aload_n hx hb dX3_commonDivisor_54 rfl (lv_at hl 3 rfl) ?_
        refine lv_astore_n (lv' := [(1, .ref (L)), (4, .ref (G)), (0, .ref (a)), (2, .ref (L)), (3, .int (iI ((T : Int))))]) hx hb dX3_commonDivisor_55 rfl hl (by decide) rfl (fun ls hl => ?_)
        refine lv_aload hx hb dX3_commonDivisor_56 (lv_at hl 1 rfl) ?_
        refine lv_astore_n (lv' := [(2, .ref (G)), (1, .ref (L)), (4, .ref (G)), (0, .ref (a)), (3, .int (iI ((T : Int))))]) hx hb dX3_commonDivisor_58 rfl hl (by decide) rfl (fun ls hl => ?_)
        refine lv_iinc (v := iI (((T + 1 : Nat) : Int))) (lv' := [(3, .int (iI (((T + 1 : Nat) : Int)))), (2, .ref (G)), (1, .ref (L)), (4, .ref (G)), (0, .ref (a))]) hx hb dX3_commonDivisor_59 hl (k := 4) rfl (by show iI _ + iI _ = _; rw [iI_add]; first | rfl | (congr 1; omega)) (by decide) rfl (fun ls hl => ?_)
        refine lv_goto (tgt := 28) hx hb dX3_commonDivisor_62 (by decide) ?_
        have hLL : WH D E L 24 y H1 := ⟨kL, ⟨hOL, hLL0⟩, hkL⟩
        exact ih (T + 1) L G y (x % y) _ _ _ _ (by omega) (by omega) (eu_step heu hy0 hTy) (fun h => by omega) (by rw [gg_step heu.1 hy0]; exact hg) hF hLL hG h9 hS (lv_sub hl [4, 2, 1, 0] rfl)
  refine lv_aload_n hx hb dX3_commonDivisor_0 rfl (lv_at hl 0 rfl) ?_
  refine pw_get (C := RX3) (T := TX3) (N := 5) hx hb hts hin3 hown hK hF rfl 2 (by decide) lk_23 rfl rfl dX3_commonDivisor_1 ?_
  refine lv_astore_n (lv' := [(1, .ref (a + 5)), (0, .ref (a))]) hx hb dX3_commonDivisor_4 rfl hl (by decide) rfl (fun ls hl => ?_)
  refine lv_aload_n hx hb dX3_commonDivisor_5 rfl (lv_at hl 1 rfl) ?_
  refine pw_get (C := RX3) (T := TX3) (N := 5) hx hb hts hin3 hown hK hF rfl 3 (by decide) lk_26 rfl rfl dX3_commonDivisor_6 ?_
  refine lv_astore_n (lv' := [(2, .ref (a + 7)), (1, .ref (a + 5)), (0, .ref (a))]) hx hb dX3_commonDivisor_9 rfl hl (by decide) rfl (fun ls hl => ?_)
  refine lv_aload_n hx hb dX3_commonDivisor_10 rfl (lv_at hl 1 rfl) ?_
  refine lv_aload_n hx hb dX3_commonDivisor_11 rfl (lv_at hl 2 rfl) ?_
  refine pw_get (C := RX3) (T := TX3) (N := 5) hx hb hts hin3 hown hK hF rfl 0 (by decide) lk_14 rfl rfl dX3_commonDivisor_12 ?_
  obtain ⟨kh5, h5r⟩ := h5.r
  refine pw_callVv (As := [.ref (a + 1)]) (rest := []) ⟨hx, hb, hml, hown, hts⟩ (c_copy l D E (a + 5) 24 (a + 1) 24 (wdig o1) kh5 o1.sign u (by omega) (by omega) (by omega) hub.1 hub.2) (cwV 1 hts gX3_commonDivisor_X8_copy rfl rfl rfl (by decide +kernel) ⟨Nat.le_of_ble_eq_true rfl, Nat.le_of_ble_eq_true rfl⟩) hK h5.o.choose_spec rfl ⟨h5r, hU⟩ rfl hl.1 rfl (Nat.le_of_ble_eq_true rfl) dX3_commonDivisor_15 ⟨Nat.zero_le _, Nat.zero_le _⟩ hS (fun q h => by (try dsimp only at h); (try dsimp only); omega) (fun H1 locs1 h5 hz1 hk1 hS => ?_)
  have hF := hF.k (hk1 _ hF.lt (by (try dsimp only); omega))
  have hU := hU.k (hk1 _ (by have := hU.lt; omega) (by (try dsimp only); omega)) (hk1 _ hU.lt (by (try dsimp only); omega))
  have hV := hV.k (hk1 _ (by have := hV.lt; omega) (by (try dsimp only); omega)) (hk1 _ hV.lt (by (try dsimp only); omega))
  have h7 := h7.k (hk1 _ (by have := h7.lt; omega) (by (try dsimp only); omega)) (hk1 _ h7.lt (by (try dsimp only); omega))
  have h9 := h9.k (hk1 _ (by have := h9.lt; omega) (by (try dsimp only); omega)) (hk1 _ h9.lt (by (try dsimp only); omega))
  refine lv_aload_n hx hb dX3_commonDivisor_18 rfl (lv_at hl 0 rfl) ?_
  refine lv_aload_n hx hb dX3_commonDivisor_19 rfl (lv_at hl 2 rfl) ?_
  refine pw_get (C := RX3) (T := TX3) (N := 5) hx hb hts hin3 hown hK hF rfl 1 (by decide) lk_20 rfl rfl dX3_commonDivisor_20 ?_
  obtain ⟨kh7, h7r⟩ := h7.r
  refine pw_callVv (As := [.ref (a + 3)]) (rest := []) ⟨hx, hb, hml, hown, hts⟩ (c_copy l D E (a + 7) 24 (a + 3) 24 (wdig o2) kh7 o2.sign w (by omega) (by omega) (by omega) hwb.1 hwb.2) (cwV 1 hts gX3_commonDivisor_X8_copy rfl rfl rfl (by decide +kernel) ⟨Nat.le_of_ble_eq_true rfl, Nat.le_of_ble_eq_true rfl⟩) hK h7.o.choose_spec rfl ⟨h7r, hV⟩ rfl hl.1 rfl (Nat.le_of_ble_eq_true rfl) dX3_commonDivisor_23 ⟨Nat.zero_le _, Nat.zero_le _⟩ hS (fun q h => by (try dsimp only at h); (try dsimp only); omega) (fun H1 locs1 h7 hz1 hk1 hS => ?_)
  have hF := hF.k (hk1 _ hF.lt (by (try dsimp only); omega))
  have hU := hU.k (hk1 _ (by have := hU.lt; omega) (by (try dsimp only); omega)) (hk1 _ hU.lt (by (try dsimp only); omega))
  have hV := hV.k (hk1 _ (by have := hV.lt; omega) (by (try dsimp only); omega)) (hk1 _ hV.lt (by (try dsimp only); omega))
  have h5 := h5.k (hk1 _ (by have := h5.lt; omega) (by (try dsimp only); omega)) (hk1 _ h5.lt (by (try dsimp only); omega))
  have h9 := h9.k (hk1 _ (by have := h9.lt; omega) (by (try dsimp only); omega)) (hk1 _ h9.lt (by (try dsimp only); omega))
  refine pw_iconst hx hb dX3_commonDivisor_26 ?_
  refine lv_istore_n (lv' := [(3, .int (iI (0))), (2, .ref (a + 7)), (1, .ref (a + 5)), (0, .ref (a))]) hx hb dX3_commonDivisor_27 rfl hl (by decide) rfl (fun ls hl => ?_)
  exact loop 960 0 (a + 5) (a + 7) u w _ _ _ _ (by omega) (by omega) ⟨hu0, by omega, by simp, Or.inl rfl⟩ (fun _ => rfl) rfl hF h5 h7 h9 hS (lv_sub hl [3, 2, 1, 0] rfl)
set_option maxHeartbeats 4000000 in
set_option maxRecDepth 100000 in
/-- reduce() -/
theorem c_reduce (l : Launch) (D : va_G) (E : Nat → ClassId) (a : Nat) (u w o1 o2 o3 : Int) (hw0 : 0 < w) : pw_M rvV l D E yX3_reduce wsX3_reduce ({ frames := 4, cells := 0, slots := 0, locals := 104 } : Room) [.ref (a)] (fun H => FR D E a u w o1 o2 o3 H) (fun _ H => ∃ o1 o2 o3, FR D E a ((u.natAbs / gg u w : Nat) : Int) ((w.natAbs / gg u w : Nat) : Int) o1 o2 o3 H) (fun q => a + 1 ≤ q ∧ q ≤ a + 10) (0) (0) := by
  refine pw_of (cc := cX3_reduce) (maxL := 2) (ret := none) (by decide +kernel) rfl (Nat.le_of_ble_eq_true rfl) ?_
  intro p e s m args below meth c hx hb hr hml hts hown hlocks hini hK ⟨hF, hU, hV, h5, h7, h9⟩ ls hl
  have hown : s.vm.findClass RX3 = some m.cls := hown
  have hl : lv_has ls 2 [(0, .ref (a))] := hl
  have hS : va_S (fun q => a + 1 ≤ q ∧ q ≤ a + 10) s.heap s.heap [] := va_S.rf
  have lk_14 := hts (.fieldLink RX3 14 "PolicyWorks$Fraction" "above" "LPolicyWorks$Whole;") (by decide +kernel)
  have lk_20 := hts (.fieldLink RX3 20 "PolicyWorks$Fraction" "below" "LPolicyWorks$Whole;") (by decide +kernel)
  have lk_29 := hts (.fieldLink RX3 29 "PolicyWorks$Fraction" "quotient" "LPolicyWorks$Whole;") (by decide +kernel)
  have hin3 : ∀ w ∈ wsX30, w ∈ wsX3_reduce := by decide +kernel
  have hgp := gg_pos (u := u) hw0
  have hwb := hV.bi
  have hub := hU.b
  have hq1 : ((u.natAbs : Int)) / (gg u w : Int) = ((u.natAbs / gg u w : Nat) : Int) := rfl
  have hq2 : w / (gg u w : Int) = ((w.natAbs / gg u w : Nat) : Int) := by rw [Int.natCast_ediv, abs_pos (by omega)]
  have hl1 := int_lt (v := ((u.natAbs / gg u w : Nat) : Int)) (n := 24) (by rw [Int.natAbs_natCast]; exact Nat.lt_of_le_of_lt (Nat.div_le_self _ _) hub)
  have hl2 := int_lt (v := ((w.natAbs / gg u w : Nat) : Int)) (n := 24) (by rw [Int.natAbs_natCast]; exact Nat.lt_of_le_of_lt (Nat.div_le_self _ _) (nat_lt hwb.1 hwb.2))
  refine lv_aload_n hx hb dX3_reduce_0 rfl (lv_at hl 0 rfl) ?_
  refine pw_get (C := RX3) (T := TX3) (N := 5) hx hb hts hin3 hown hK hF rfl 0 (by decide) lk_14 rfl rfl dX3_reduce_1 ?_
  refine pw_callVv (As := []) (rest := []) ⟨hx, hb, hml, hown, hts⟩ (c_dropSign l D E (a + 1) 24 u (by omega)) (cwV 0 hts gX3_reduce_X8_dropSign rfl rfl rfl (by decide +kernel) ⟨Nat.le_of_ble_eq_true rfl, Nat.le_of_ble_eq_true rfl⟩) hK hU.o.choose_spec rfl hU rfl hl.1 rfl (Nat.le_of_ble_eq_true rfl) dX3_reduce_4 ⟨Nat.zero_le _, Nat.zero_le _⟩ hS (fun q h => by (try dsimp only at h); (try dsimp only); omega) (fun H1 locs1 hU hz1 hk1 hS => ?_)
  have hF := hF.k (hk1 _ hF.lt (by (try dsimp only); omega))
  have hV := hV.k (hk1 _ (by have := hV.lt; omega) (by (try dsimp only); omega)) (hk1 _ hV.lt (by (try dsimp only); omega))
  have h5 := h5.k (hk1 _ (by have := h5.lt; omega) (by (try dsimp only); omega)) (hk1 _ h5.lt (by (try dsimp only); omega))
  have h7 := h7.k (hk1 _ (by have := h7.lt; omega) (by (try dsimp only); omega)) (hk1 _ h7.lt (by (try dsimp only); omega))
  have h9 := h9.k (hk1 _ (by have := h9.lt; omega) (by (try dsimp only); omega)) (hk1 _ h9.lt (by (try dsimp only); omega))
  refine lv_aload_n hx hb dX3_reduce_7 rfl (lv_at hl 0 rfl) ?_
  refine pw_callVr (As := []) (rest := []) ⟨hx, hb, hml, hown, hts⟩ (c_comDiv l D E a (u.natAbs : Int) w o1 o2 o3 (by omega) hw0) (cwV 0 hts gX3_reduce_X3_commonDivisor rfl rfl rfl (by decide +kernel) ⟨Nat.le_of_ble_eq_true rfl, Nat.le_of_ble_eq_true rfl⟩) hK hF rfl ⟨hF, hU, hV, h5, h7, h9⟩ rfl hl.1 rfl (Nat.le_of_ble_eq_true rfl) dX3_reduce_8 ⟨Nat.zero_le _, Nat.zero_le _⟩ hS (fun q h => by (try dsimp only at h); (try dsimp only); omega) (fun G H1 locs1 ⟨hor, q3, h9⟩ hz1 hk1 hS => ?_)
  have hF := hF.k (hk1 _ hF.lt (by (try dsimp only); omega))
  have hU := hU.k (hk1 _ (by have := hU.lt; omega) (by (try dsimp only); omega)) (hk1 _ hU.lt (by (try dsimp only); omega))
  have hV := hV.k (hk1 _ (by have := hV.lt; omega) (by (try dsimp only); omega)) (hk1 _ hV.lt (by (try dsimp only); omega))
  rw [gg_abs] at hor
  have hGG : ∃ L : Nat, (G = a + 5 ∧ L = a + 7 ∨ G = a + 7 ∧ L = a + 5) ∧ WH D E G 24 (gg u w : Int) H1 ∧ ∃ o, WH D E L 24 o H1 := by
    rcases hor with ⟨rfl, h1, h2⟩ | ⟨rfl, h1, h2⟩
    · exact ⟨a + 7, Or.inl ⟨rfl, rfl⟩, h1, h2⟩
    · exact ⟨a + 5, Or.inr ⟨rfl, rfl⟩, h1, h2⟩
  obtain ⟨L, hGL, hG, oL, hLL⟩ := hGG
  clear hor
  refine lv_astore_n (lv' := [(1, .ref (G)), (0, .ref (a))]) hx hb dX3_reduce_11 rfl hl (by decide) rfl (fun ls hl => ?_)
  refine lv_aload_n hx hb dX3_reduce_12 rfl (lv_at hl 1 rfl) ?_
  refine pw_get (C := RX3) (T := TX3) (N := 5) hx hb hts hin3 hown hK hF rfl 0 (by decide) lk_14 rfl rfl dX3_reduce_13 ?_
  refine lv_aload_n hx hb dX3_reduce_16 rfl (lv_at hl 0 rfl) ?_
  refine lv_aload_n hx hb dX3_reduce_17 rfl (lv_at hl 1 rfl) ?_
  refine pw_get (C := RX3) (T := TX3) (N := 5) hx hb hts hin3 hown hK hF rfl 4 (by decide) lk_29 rfl rfl dX3_reduce_18 ?_
  obtain ⟨kq, h9r⟩ := h9.r
  refine pw_callVv (As := [.ref (G), .ref (a + 9)]) (rest := []) ⟨hx, hb, hml, hown, hts⟩ (c_divide l D E (a + 1) 24 G 24 (a + 9) 24 (wdig q3) kq (q3).sign (u.natAbs : Int) (gg u w : Int) (by omega) (by omega) (by omega) (by omega) (by omega) (by omega) (by omega) (by omega) (by omega)) (cwV 2 hts gX3_reduce_X8_divide rfl rfl rfl (by decide +kernel) ⟨Nat.le_of_ble_eq_true rfl, Nat.le_of_ble_eq_true rfl⟩) hK hU.o.choose_spec rfl ⟨hU, hG, h9r⟩ rfl hl.1 rfl (Nat.le_of_ble_eq_true rfl) dX3_reduce_21 ⟨Nat.zero_le _, Nat.zero_le _⟩ hS (fun q h => by (try dsimp only at h); (try dsimp only); omega) (fun H1 locs1 ⟨hU, h9⟩ hz1 hk1 hS => ?_)
  have hF := hF.k (hk1 _ hF.lt (by (try dsimp only); omega))
  have hV := hV.k (hk1 _ (by have := hV.lt; omega) (by (try dsimp only); omega)) (hk1 _ hV.lt (by (try dsimp only); omega))
  have hG := hG.k (hk1 _ (by have := hG.lt; omega) (by (try dsimp only); omega)) (hk1 _ hG.lt (by (try dsimp only); omega))
  have hLL := hLL.k (hk1 _ (by have := hLL.lt; omega) (by (try dsimp only); omega)) (hk1 _ hLL.lt (by (try dsimp only); omega))
  rw [hq1] at h9
  refine lv_aload_n hx hb dX3_reduce_24 rfl (lv_at hl 1 rfl) ?_
  refine pw_get (C := RX3) (T := TX3) (N := 5) hx hb hts hin3 hown hK hF rfl 0 (by decide) lk_14 rfl rfl dX3_reduce_25 ?_
  refine lv_aload_n hx hb dX3_reduce_28 rfl (lv_at hl 1 rfl) ?_
  refine pw_get (C := RX3) (T := TX3) (N := 5) hx hb hts hin3 hown hK hF rfl 4 (by decide) lk_29 rfl rfl dX3_reduce_29 ?_
  obtain ⟨kd, hdr⟩ := hU.r
  refine pw_callVv (As := [.ref (a + 9)]) (rest := []) ⟨hx, hb, hml, hown, hts⟩ (c_copy l D E (a + 1) 24 (a + 9) 24 (wdig ((u.natAbs : Int) % (gg u w : Int))) kd ((u.natAbs : Int) % (gg u w : Int)).sign (((u.natAbs / gg u w : Nat) : Int)) (by omega) (by omega) (by omega) hl1.1 hl1.2) (cwV 1 hts gX3_reduce_X8_copy rfl rfl rfl (by decide +kernel) ⟨Nat.le_of_ble_eq_true rfl, Nat.le_of_ble_eq_true rfl⟩) hK hU.o.choose_spec rfl ⟨hdr, h9⟩ rfl hl.1 rfl (Nat.le_of_ble_eq_true rfl) dX3_reduce_32 ⟨Nat.zero_le _, Nat.zero_le _⟩ hS (fun q h => by (try dsimp only at h); (try dsimp only); omega) (fun H1 locs1 hU hz1 hk1 hS => ?_)
  have hF := hF.k (hk1 _ hF.lt (by (try dsimp only); omega))
  have hV := hV.k (hk1 _ (by have := hV.lt; omega) (by (try dsimp only); omega)) (hk1 _ hV.lt (by (try dsimp only); omega))
  have h9 := h9.k (hk1 _ (by have := h9.lt; omega) (by (try dsimp only); omega)) (hk1 _ h9.lt (by (try dsimp only); omega))
  have hG := hG.k (hk1 _ (by have := hG.lt; omega) (by (try dsimp only); omega)) (hk1 _ hG.lt (by (try dsimp only); omega))
  have hLL := hLL.k (hk1 _ (by have := hLL.lt; omega) (by (try dsimp only); omega)) (hk1 _ hLL.lt (by (try dsimp only); omega))
  refine lv_aload_n hx hb dX3_reduce_35 rfl (lv_at hl 1 rfl) ?_
  refine pw_get (C := RX3) (T := TX3) (N := 5) hx hb hts hin3 hown hK hF rfl 1 (by decide) lk_20 rfl rfl dX3_reduce_36 ?_
  refine lv_aload_n hx hb dX3_reduce_39 rfl (lv_at hl 0 rfl) ?_
  refine lv_aload_n hx hb dX3_reduce_40 rfl (lv_at hl 1 rfl) ?_
  refine pw_get (C := RX3) (T := TX3) (N := 5) hx hb hts hin3 hown hK hF rfl 4 (by decide) lk_29 rfl rfl dX3_reduce_41 ?_
  obtain ⟨kq, h9r⟩ := h9.r
  refine pw_callVv (As := [.ref (G), .ref (a + 9)]) (rest := []) ⟨hx, hb, hml, hown, hts⟩ (c_divide l D E (a + 3) 24 G 24 (a + 9) 24 (wdig ((u.natAbs / gg u w : Nat) : Int)) kq (((u.natAbs / gg u w : Nat) : Int)).sign w (gg u w : Int) (by omega) (by omega) (by omega) (by omega) (by omega) (by omega) (by omega) (by omega) (by omega)) (cwV 2 hts gX3_reduce_X8_divide rfl rfl rfl (by decide +kernel) ⟨Nat.le_of_ble_eq_true rfl, Nat.le_of_ble_eq_true rfl⟩) hK hV.o.choose_spec rfl ⟨hV, hG, h9r⟩ rfl hl.1 rfl (Nat.le_of_ble_eq_true rfl) dX3_reduce_44 ⟨Nat.zero_le _, Nat.zero_le _⟩ hS (fun q h => by (try dsimp only at h); (try dsimp only); omega) (fun H1 locs1 ⟨hV, h9⟩ hz1 hk1 hS => ?_)
  have hF := hF.k (hk1 _ hF.lt (by (try dsimp only); omega))
  have hU := hU.k (hk1 _ (by have := hU.lt; omega) (by (try dsimp only); omega)) (hk1 _ hU.lt (by (try dsimp only); omega))
  have hG := hG.k (hk1 _ (by have := hG.lt; omega) (by (try dsimp only); omega)) (hk1 _ hG.lt (by (try dsimp only); omega))
  have hLL := hLL.k (hk1 _ (by have := hLL.lt; omega) (by (try dsimp only); omega)) (hk1 _ hLL.lt (by (try dsimp only); omega))
  rw [hq2] at h9
  refine lv_aload_n hx hb dX3_reduce_47 rfl (lv_at hl 1 rfl) ?_
  refine pw_get (C := RX3) (T := TX3) (N := 5) hx hb hts hin3 hown hK hF rfl 1 (by decide) lk_20 rfl rfl dX3_reduce_48 ?_
  refine lv_aload_n hx hb dX3_reduce_51 rfl (lv_at hl 1 rfl) ?_
  refine pw_get (C := RX3) (T := TX3) (N := 5) hx hb hts hin3 hown hK hF rfl 4 (by decide) lk_29 rfl rfl dX3_reduce_52 ?_
  obtain ⟨kd, hdr⟩ := hV.r
  refine pw_callVv (As := [.ref (a + 9)]) (rest := []) ⟨hx, hb, hml, hown, hts⟩ (c_copy l D E (a + 3) 24 (a + 9) 24 (wdig (w % (gg u w : Int))) kd (w % (gg u w : Int)).sign (((w.natAbs / gg u w : Nat) : Int)) (by omega) (by omega) (by omega) hl2.1 hl2.2) (cwV 1 hts gX3_reduce_X8_copy rfl rfl rfl (by decide +kernel) ⟨Nat.le_of_ble_eq_true rfl, Nat.le_of_ble_eq_true rfl⟩) hK hV.o.choose_spec rfl ⟨hdr, h9⟩ rfl hl.1 rfl (Nat.le_of_ble_eq_true rfl) dX3_reduce_55 ⟨Nat.zero_le _, Nat.zero_le _⟩ hS (fun q h => by (try dsimp only at h); (try dsimp only); omega) (fun H1 locs1 hV hz1 hk1 hS => ?_)
  have hF := hF.k (hk1 _ hF.lt (by (try dsimp only); omega))
  have hU := hU.k (hk1 _ (by have := hU.lt; omega) (by (try dsimp only); omega)) (hk1 _ hU.lt (by (try dsimp only); omega))
  have h9 := h9.k (hk1 _ (by have := h9.lt; omega) (by (try dsimp only); omega)) (hk1 _ h9.lt (by (try dsimp only); omega))
  have hG := hG.k (hk1 _ (by have := hG.lt; omega) (by (try dsimp only); omega)) (hk1 _ hG.lt (by (try dsimp only); omega))
  have hLL := hLL.k (hk1 _ (by have := hLL.lt; omega) (by (try dsimp only); omega)) (hk1 _ hLL.lt (by (try dsimp only); omega))
  have hpp : ∃ o1 o2 o3, FR D E a ((u.natAbs / gg u w : Nat) : Int) ((w.natAbs / gg u w : Nat) : Int) o1 o2 o3 H1 := by
    rcases hGL with ⟨rfl, rfl⟩ | ⟨rfl, rfl⟩
    · exact ⟨_, _, _, hF, hU, hV, hG, hLL, h9⟩
    · exact ⟨_, _, _, hF, hU, hV, hLL, hG, h9⟩
  exact pw_vret hx hb hr hlocks hS hpp dX3_reduce_58
set_option maxHeartbeats 4000000 in
set_option maxRecDepth 100000 in
/-- tell(part) -/
theorem c_tell (l : Launch) (D : va_G) (E : Nat → ClassId) (a : Nat) (u w o1 o2 o3 part : Int) (hw0 : 0 < w) (hp1 : -1 ≤ part) (hp2 : part ≤ 2147483647) : pw_M rvL l D E yX3_tell wsX3_tell ({ frames := 5, cells := 0, slots := 0, locals := 125 } : Room) [.ref (a), .int (iI (part))] (fun H => FR D E a u w o1 o2 o3 H) (fun z H => z = tellZ u w part ∧ ∃ u w o1 o2 o3, FR D E a u w o1 o2 o3 H) (fun q => a + 1 ≤ q ∧ q ≤ a + 10) (0) (0) := by
  refine pw_of (cc := cX3_tell) (maxL := 2) (ret := (some .long)) (by decide +kernel) rfl (Nat.le_of_ble_eq_true rfl) ?_
  intro p e s m args below meth c hx hb hr hml hts hown hlocks hini hK ⟨hF, hU, hV, h5, h7, h9⟩ ls hl
  have hown : s.vm.findClass RX3 = some m.cls := hown
  have hl : lv_has ls 2 [(0, .ref (a)), (1, .int (iI (part)))] := hl
  have hS : va_S (fun q => a + 1 ≤ q ∧ q ≤ a + 10) s.heap s.heap [] := va_S.rf
  have lk_14 := hts (.fieldLink RX3 14 "PolicyWorks$Fraction" "above" "LPolicyWorks$Whole;") (by decide +kernel)
  have lk_20 := hts (.fieldLink RX3 20 "PolicyWorks$Fraction" "below" "LPolicyWorks$Whole;") (by decide +kernel)
  have lk_32 := hts (.fieldLink RX3 32 "PolicyWorks$Whole" "sign" "I") (by decide +kernel)
  have hin3 : ∀ w ∈ wsX30, w ∈ wsX3_tell := by decide +kernel
  have hin8 : ∀ w ∈ wsX80, w ∈ wsX3_tell := by decide +kernel
  have hsr : -1 ≤ u.sign ∧ u.sign ≤ 1 := by rw [sgn_i]; split <;> (try split) <;> omega
  refine lv_iload_n hx hb dX3_tell_0 rfl (lv_at hl 1 rfl) ?_
  refine pw_iconst hx hb dX3_tell_1 ?_
  refine pw_icmp_ne (tgt := 14) hx hb dX3_tell_2 (by decide) (fun c_2 => ?_) (fun c_2 => ?_)
  · refine lv_aload_n hx hb dX3_tell_14 rfl (lv_at hl 0 rfl) ?_
    have hpn : 0 ≤ part := by omega
    have e2 : part.tmod 2 = part % 2 := Int.tmod_eq_emod_of_nonneg hpn
    have e3 : part.tdiv 2 = ((part / 2).toNat : Int) := by rw [Int.tdiv_eq_ediv_of_nonneg hpn]; omega
    refine pw_callVv (As := []) (rest := []) ⟨hx, hb, hml, hown, hts⟩ (c_reduce l D E a u w o1 o2 o3 hw0) (cwV 0 hts gX3_tell_X3_reduce rfl rfl rfl (by decide +kernel) ⟨Nat.le_of_ble_eq_true rfl, Nat.le_of_ble_eq_true rfl⟩) hK hF rfl ⟨hF, hU, hV, h5, h7, h9⟩ rfl hl.1 rfl (Nat.le_of_ble_eq_true rfl) dX3_tell_15 ⟨Nat.zero_le _, Nat.zero_le _⟩ hS (fun q h => h) (fun H1 locs1 ⟨p1, p2, p3, hF, hU, hV, h5, h7, h9⟩ hz1 hk1 hS => ?_)
    refine lv_iload_n hx hb dX3_tell_18 rfl (lv_at hl 1 rfl) ?_
    refine pw_iconst hx hb dX3_tell_19 ?_
    refine pw_irem hx hb dX3_tell_20 (by omega) ?_
    refine pw_asi (part % 2) e2 ?_
    refine pw_if_ne (tgt := 37) hx hb dX3_tell_21 (by decide) (fun c_21 => ?_) (fun c_21 => ?_)
    · refine lv_aload_n hx hb dX3_tell_37 rfl (lv_at hl 0 rfl) ?_
      refine pw_get (C := RX3) (T := TX3) (N := 5) hx hb hts hin3 hown hK hF rfl 1 (by decide) lk_20 rfl rfl dX3_tell_38 ?_
      refine lv_iload_n hx hb dX3_tell_41 rfl (lv_at hl 1 rfl) ?_
      refine pw_iconst hx hb dX3_tell_42 ?_
      refine pw_idiv hx hb dX3_tell_43 (by omega) ?_
      refine pw_asi (((part / 2).toNat : Int)) e3 ?_
      refine pw_callVl (As := [.int (iI (((part / 2).toNat : Int)))]) (rest := []) ⟨hx, hb, hml, hown, hts⟩ (c_eighteen l D E (a + 3) 24 (part / 2).toNat ((w.natAbs / gg u w : Nat) : Int) (by omega) (Int.natCast_nonneg _) (by omega)) (cwV 1 hts gX3_tell_X8_eighteen rfl rfl rfl (by decide +kernel) ⟨Nat.le_of_ble_eq_true rfl, Nat.le_of_ble_eq_true rfl⟩) hK hV.o.choose_spec rfl hV rfl hl.1 rfl (Nat.le_of_ble_eq_true rfl) dX3_tell_44 ⟨Nat.zero_le _, Nat.zero_le _⟩ hS (fun q h => h.elim) (fun z H1 locs1 hz hz1 hk1 hS => ?_)
      have hF := hF.k (hk1 _ hF.lt (fun h => h))
      have hU := hU.k (hk1 _ (by have := hU.lt; omega) (fun h => h)) (hk1 _ hU.lt (fun h => h))
      have hV := hV.k (hk1 _ (by have := hV.lt; omega) (fun h => h)) (hk1 _ hV.lt (fun h => h))
      have h5 := h5.k (hk1 _ (by have := h5.lt; omega) (fun h => h)) (hk1 _ h5.lt (fun h => h))
      have h7 := h7.k (hk1 _ (by have := h7.lt; omega) (fun h => h)) (hk1 _ h7.lt (fun h => h))
      have h9 := h9.k (hk1 _ (by have := h9.lt; omega) (fun h => h)) (hk1 _ h9.lt (fun h => h))
      exact pw_lret hx hb hr hlocks hS ⟨by unfold tellZ; rw [if_neg (by omega), if_neg c_21, hz, Int.natAbs_natCast], _, _, _, _, _, hF, hU, hV, h5, h7, h9⟩ dX3_tell_47
    · refine lv_aload_n hx hb dX3_tell_24 rfl (lv_at hl 0 rfl) ?_
      refine pw_get (C := RX3) (T := TX3) (N := 5) hx hb hts hin3 hown hK hF rfl 0 (by decide) lk_14 rfl rfl dX3_tell_25 ?_
      refine lv_iload_n hx hb dX3_tell_28 rfl (lv_at hl 1 rfl) ?_
      refine pw_iconst hx hb dX3_tell_29 ?_
      refine pw_idiv hx hb dX3_tell_30 (by omega) ?_
      refine pw_asi (((part / 2).toNat : Int)) e3 ?_
      refine pw_callVl (As := [.int (iI (((part / 2).toNat : Int)))]) (rest := []) ⟨hx, hb, hml, hown, hts⟩ (c_eighteen l D E (a + 1) 24 (part / 2).toNat ((u.natAbs / gg u w : Nat) : Int) (by omega) (Int.natCast_nonneg _) (by omega)) (cwV 1 hts gX3_tell_X8_eighteen rfl rfl rfl (by decide +kernel) ⟨Nat.le_of_ble_eq_true rfl, Nat.le_of_ble_eq_true rfl⟩) hK hU.o.choose_spec rfl hU rfl hl.1 rfl (Nat.le_of_ble_eq_true rfl) dX3_tell_31 ⟨Nat.zero_le _, Nat.zero_le _⟩ hS (fun q h => h.elim) (fun z H1 locs1 hz hz1 hk1 hS => ?_)
      have hF := hF.k (hk1 _ hF.lt (fun h => h))
      have hU := hU.k (hk1 _ (by have := hU.lt; omega) (fun h => h)) (hk1 _ hU.lt (fun h => h))
      have hV := hV.k (hk1 _ (by have := hV.lt; omega) (fun h => h)) (hk1 _ hV.lt (fun h => h))
      have h5 := h5.k (hk1 _ (by have := h5.lt; omega) (fun h => h)) (hk1 _ h5.lt (fun h => h))
      have h7 := h7.k (hk1 _ (by have := h7.lt; omega) (fun h => h)) (hk1 _ h7.lt (fun h => h))
      have h9 := h9.k (hk1 _ (by have := h9.lt; omega) (fun h => h)) (hk1 _ h9.lt (fun h => h))
      refine lv_goto (tgt := 47) hx hb dX3_tell_34 (by decide) ?_
      exact pw_lret hx hb hr hlocks hS ⟨by unfold tellZ; rw [if_neg (by omega), if_pos c_21, hz, Int.natAbs_natCast], _, _, _, _, _, hF, hU, hV, h5, h7, h9⟩ dX3_tell_47
  · refine lv_aload_n hx hb dX3_tell_5 rfl (lv_at hl 0 rfl) ?_
    refine pw_get (C := RX3) (T := TX3) (N := 5) hx hb hts hin3 hown hK hF rfl 0 (by decide) lk_14 rfl rfl dX3_tell_6 ?_
    obtain ⟨kU, ⟨hOU, hLU⟩, hkU⟩ := hU
    refine pw_get (C := RX8) (T := TX8) (N := 3) hx hb hts hin8 hown hK hOU rfl 2 (by decide) lk_32 rfl rfl dX3_tell_9 ?_
    refine pw_i2l hx hb dX3_tell_12 ?_
    exact pw_lret hx hb hr hlocks hS ⟨by unfold tellZ; rw [if_pos c_2], _, _, _, _, _, hF, ⟨kU, ⟨hOU, hLU⟩, hkU⟩, hV, h5, h7, h9⟩ dX3_tell_13
end
section
/-! what callers set: the model of decisions -/
/-- states, actions of each, rewards (above, below) and weights by the action's place 4 s + a, discount (above, below) -/
abbrev MS : Type := Nat × (Nat → Nat) × (Nat → Int) × (Nat → Nat) × (Nat → Nat → Nat) × Nat × Nat
def mN (σ : MS) : Nat := σ.1
def mC (σ : MS) : Nat → Nat := σ.2.1
def mU (σ : MS) : Nat → Int := σ.2.2.1
def mD (σ : MS) : Nat → Nat := σ.2.2.2.1
def mW (σ : MS) : Nat → Nat → Nat := σ.2.2.2.2.1
def mA (σ : MS) : Nat := σ.2.2.2.2.2.1
def mB (σ : MS) : Nat := σ.2.2.2.2.2.2
def mT (σ : MS) (i : Nat) : Nat := mW σ i 0 + mW σ i 1 + mW σ i 2 + mW σ i 3 + mW σ i 4 + mW σ i 5
/-- what holds of every model that calls can make -/
def mOK (σ : MS) : Prop := mN σ ≤ 6 ∧ (∀ s, s < 6 → mC σ s ≤ 4) ∧ (∀ i, i < 24 → -1000 ≤ mU σ i ∧ mU σ i ≤ 1000 ∧ 1 ≤ mD σ i ∧ mD σ i ≤ 20 ∧ ∀ t, t < 6 → mW σ i t ≤ 20) ∧ mA σ < mB σ ∧ mB σ ≤ 20 ∧ (∀ s, mN σ ≤ s → s < 6 → mC σ s = 0) ∧ (∀ s k, s < 6 → mC σ s ≤ k → k < 4 → mU σ (4 * s + k) = 0 ∧ mD σ (4 * s + k) = 1 ∧ ∀ t, t < 6 → mW σ (4 * s + k) t = 0) ∧ (∀ i t, i < 24 → mN σ ≤ t → t < 6 → mW σ i t = 0)
theorem mT_b {σ : MS} (h : mOK σ) {i : Nat} (hi : i < 24) : mT σ i ≤ 120 := by
  have := (h.2.2.1 i hi).2.2.2.2
  have h0 := this 0 (by omega)
  have h1 := this 1 (by omega)
  have h2 := this 2 (by omega)
  have h3 := this 3 (by omega)
  have h4 := this 4 (by omega)
  have h5 := this 5 (by omega)
  unfold mT
  omega
/-- all is ready -/
def rdy (σ : MS) : Prop := 0 < mN σ ∧ ∀ s, s < mN σ → 0 < mC σ s ∧ ∀ k, k < mC σ s → 0 < mT σ (4 * s + k)
-- sums over actions
def sB (q : Nat → Nat) : Nat → Nat
  | 0 => 0
  | m + 1 => sB q m + q m
def sA (σ : MS) (q : Nat → Nat) : Nat → Nat
  | 0 => 0
  | s + 1 => sA σ q s + sB (fun k => q (4 * s + k)) (mC σ s)
theorem sB_le {q r : Nat → Nat} : ∀ {m : Nat}, (∀ k, k < m → q k ≤ r k) → sB q m ≤ sB r m
  | 0, _ => Nat.le_refl 0
  | m + 1, h => Nat.add_le_add (sB_le (fun k hk => h k (by omega))) (h m (by omega))
theorem sB_eq {q r : Nat → Nat} : ∀ {m : Nat}, (∀ k, k < m → q k ≤ r k) → sB q m = sB r m → ∀ k, k < m → q k = r k
  | 0, _, _, k, hk => absurd hk (Nat.not_lt_zero k)
  | m + 1, h, he, k, hk => by
    have h1 := sB_le (q := q) (r := r) (m := m) (fun k hk => h k (by omega))
    have h2 := h m (by omega)
    have he : sB q m + q m = sB r m + r m := he
    by_cases e : k = m
    · rw [e]; omega
    · exact sB_eq (m := m) (fun k hk => h k (by omega)) (by omega) k (by omega)
theorem sA_le {σ : MS} {q r : Nat → Nat} (h : ∀ i, q i ≤ r i) : ∀ n : Nat, sA σ q n ≤ sA σ r n
  | 0 => Nat.le_refl 0
  | n + 1 => Nat.add_le_add (sA_le h n) (sB_le (fun k _ => h _))
theorem sA_eq {σ : MS} {q r : Nat → Nat} (h : ∀ i, q i ≤ r i) : ∀ n : Nat, sA σ q n = sA σ r n → ∀ s, s < n → ∀ k, k < mC σ s → q (4 * s + k) = r (4 * s + k)
  | 0, _, s, hs => absurd hs (Nat.not_lt_zero s)
  | n + 1, he, s, hs => by
    have h1 := sA_le (σ := σ) h n
    have h2 : sB (fun k => q (4 * n + k)) (mC σ n) ≤ sB (fun k => r (4 * n + k)) (mC σ n) := sB_le (fun k _ => h _)
    have he : sA σ q n + sB (fun k => q (4 * n + k)) (mC σ n) = sA σ r n + sB (fun k => r (4 * n + k)) (mC σ n) := he
    by_cases e : s = n
    · rw [e]; exact sB_eq (fun k _ => h _) (by omega)
    · exact sA_eq h n (by omega) s (by omega)
theorem sB_one {q : Nat → Nat} (h : ∀ k, q k ≤ 1) : ∀ m : Nat, sB q m ≤ m
  | 0 => Nat.le_refl 0
  | m + 1 => Nat.add_le_add (sB_one h m) (h m)
theorem sA_b {σ : MS} (hok : mOK σ) {q : Nat → Nat} (h : ∀ i, q i ≤ 1) : ∀ n : Nat, n ≤ 6 → sA σ q n ≤ 4 * n
  | 0, _ => Nat.le_refl 0
  | n + 1, hn => by
    have h1 := sA_b hok h n (by omega)
    have h2 := sB_one (q := fun k => q (4 * n + k)) (fun k => h _) (mC σ n)
    have h3 := hok.2.1 n (by omega)
    show sA σ q n + sB _ _ ≤ _
    omega
def qR (σ : MS) (only : Int) (i : Nat) : Nat := if only = 0 ∨ 0 < mT σ i then 1 else 0
theorem qR_1 (σ : MS) (only : Int) (i : Nat) : qR σ only i ≤ 1 := by unfold qR; split <;> omega
theorem rdy_iff {σ : MS} : rdy σ ↔ 0 < mN σ ∧ (∀ s, s < mN σ → 0 < mC σ s) ∧ sA σ (qR σ 1) (mN σ) = sA σ (qR σ 0) (mN σ) := by
  have hle : ∀ i, qR σ 1 i ≤ qR σ 0 i := fun i => by have := qR_1 σ 1 i; unfold qR at *; simp at *; exact this
  constructor
  · intro h
    refine ⟨h.1, fun s hs => (h.2 s hs).1, ?_⟩
    have key : ∀ n, n ≤ mN σ → sA σ (qR σ 1) n = sA σ (qR σ 0) n := by
      intro n
      induction n with
      | zero => intro _; rfl
      | succ n ih =>
        intro hn
        have : ∀ m, m ≤ mC σ n → sB (fun k => qR σ 1 (4 * n + k)) m = sB (fun k => qR σ 0 (4 * n + k)) m := by
          intro m
          induction m with
          | zero => intro _; rfl
          | succ m ih2 =>
            intro hm
            have h1 := (h.2 n (by omega)).2 m (by omega)
            show sB _ m + qR σ 1 (4 * n + m) = sB _ m + qR σ 0 (4 * n + m)
            rw [ih2 (by omega)]
            simp [qR, h1]
        show sA σ (qR σ 1) n + _ = sA σ (qR σ 0) n + _
        rw [ih (by omega), this (mC σ n) (Nat.le_refl _)]
    exact key _ (Nat.le_refl _)
  · intro ⟨h1, h2, h3⟩
    refine ⟨h1, fun s hs => ⟨h2 s hs, fun k hk => ?_⟩⟩
    have := sA_eq hle _ h3 s hs k hk
    unfold qR at this
    simp at this
    exact Nat.pos_of_ne_zero this
-- the cells
def AT (D : va_G) (E : Nat → ClassId) (b : Nat) (σ : MS) (i : Nat) (H : Heap) : Prop := OA D b 0 [.ref (b + 1), .int (iI (mU σ i)), .int (iI (mD σ i)), .int (iI (mT σ i))] H ∧ IA E (b + 1) 6 (fun t => (mW σ i t : Int)) H
def MO (D : va_G) (E : Nat → ClassId) (a : Nat) (σ : MS) (H : Heap) : Prop := OA D a 6 [.ref (a + 1), .ref (a + 2), .int (iI (mN σ)), .int (iI (mA σ)), .int (iI (mB σ))] H ∧ IA E (a + 1) 6 (fun s => (mC σ s : Int)) H ∧ QA E 3 (a + 2) 24 (fun i => some (a + 3 + 2 * i)) H ∧ ∀ i, i < 24 → AT D E (a + 3 + 2 * i) σ i H
theorem MO.lt {D : va_G} {E : Nat → ClassId} {a : Nat} {σ : MS} {H : Heap} (h : MO D E a σ H) : a + 50 < H.size := by
  have := (h.2.2.2 23 (by omega)).2.lt
  omega
theorem MO.k {D : va_G} {E : Nat → ClassId} {a : Nat} {σ : MS} {H H1 : Heap} (h : MO D E a σ H) (hq : ∀ q, a ≤ q → q ≤ a + 50 → q < H.size → H1[q]? = H[q]?) : MO D E a σ H1 := by
  have hl := h.lt
  obtain ⟨h0, h1, h2, h3⟩ := h
  refine ⟨h0.k (hq _ (by omega) (by omega) (by omega)), h1.k (hq _ (by omega) (by omega) (by omega)), h2.k (hq _ (by omega) (by omega) (by omega)), fun i hi => ?_⟩
  exact ⟨(h3 i hi).1.k (hq _ (by omega) (by omega) (by omega)), (h3 i hi).2.k (hq _ (by omega) (by omega) (by omega))⟩
set_option maxHeartbeats 4000000 in
set_option maxRecDepth 100000 in
/-- hasState(k) -/
theorem c_hasState (l : Launch) (D : va_G) (E : Nat → ClassId) (a : Nat) (σ : MS) (k : Int) (hok : mOK σ) (k1 : -2147483648 ≤ k) (k2 : k ≤ 2147483647) : pw_M rvI l D E yX6_hasState wsX6_hasState ({ frames := 0, cells := 0, slots := 0, locals := 0 } : Room) [.ref (a), .int (iI (k))] (fun H => MO D E a σ H) (fun z H => z = (if 0 ≤ k ∧ k < (mN σ : Int) then 1 else 0)) (fun _ => False) (0) (0) := by
  refine pw_of (cc := cX6_hasState) (maxL := 2) (ret := (some .boolean)) (by decide +kernel) rfl (Nat.le_of_ble_eq_true rfl) ?_
  intro p e s m args below meth c hx hb hr hml hts hown hlocks hini hK hM ls hl
  have hown : s.vm.findClass RX6 = some m.cls := hown
  have hl : lv_has ls 2 [(0, .ref (a)), (1, .int (iI (k)))] := hl
  have hS : va_S (fun _ => False) s.heap s.heap [] := va_S.rf
  have lk_22 := hts (.fieldLink RX6 22 "PolicyWorks$Model" "states" "I") (by decide +kernel)
  have hin6 : ∀ w ∈ wsX60, w ∈ wsX6_hasState := by decide +kernel
  have hO := hM.1
  have hC := hM.2.1
  have hQ := hM.2.2.1
  have hN6 := hok.1
  have hC4 := hok.2.1
  refine lv_iload_n hx hb dX6_hasState_0 rfl (lv_at hl 1 rfl) ?_
  refine pw_if_lt (tgt := 16) hx hb dX6_hasState_1 (by decide) (fun c_1 => ?_) (fun c_1 => ?_)
  · refine pw_iconst hx hb dX6_hasState_16 ?_
    exact pw_zret hx hb hr hlocks hS (by omega) (by rw [if_neg (by omega)]) dX6_hasState_17
  · refine lv_iload_n hx hb dX6_hasState_4 rfl (lv_at hl 1 rfl) ?_
    refine lv_aload_n hx hb dX6_hasState_5 rfl (lv_at hl 0 rfl) ?_
    refine pw_get (C := RX6) (T := TX6) (N := 5) hx hb hts hin6 hown hK hO rfl 2 (by decide) lk_22 rfl rfl dX6_hasState_6 ?_
    refine pw_icmp_ge (tgt := 16) hx hb dX6_hasState_9 (by decide) (fun c_9 => ?_) (fun c_9 => ?_)
    · refine pw_iconst hx hb dX6_hasState_16 ?_
      exact pw_zret hx hb hr hlocks hS (by omega) (by rw [if_neg (by omega)]) dX6_hasState_17
    · refine pw_iconst hx hb dX6_hasState_12 ?_
      refine lv_goto (tgt := 17) hx hb dX6_hasState_13 (by decide) ?_
      exact pw_zret hx hb hr hlocks hS (by omega) (by rw [if_pos (by omega)]) dX6_hasState_17
set_option maxHeartbeats 4000000 in
set_option maxRecDepth 100000 in
/-- hasAction(k, j) -/
theorem c_hasAction (l : Launch) (D : va_G) (E : Nat → ClassId) (a : Nat) (σ : MS) (k j : Int) (hok : mOK σ) (k1 : -2147483648 ≤ k) (k2 : k ≤ 2147483647) (j1 : -2147483648 ≤ j) (j2 : j ≤ 2147483647) : pw_M rvI l D E yX6_hasAction wsX6_hasAction ({ frames := 1, cells := 0, slots := 0, locals := 21 } : Room) [.ref (a), .int (iI (k)), .int (iI (j))] (fun H => MO D E a σ H) (fun z H => (z = 0 ∨ z = 1) ∧ (z = 1 ↔ 0 ≤ k ∧ k < (mN σ : Int) ∧ 0 ≤ j ∧ j < (mC σ k.toNat : Int))) (fun _ => False) (0) (0) := by
  refine pw_of (cc := cX6_hasAction) (maxL := 3) (ret := (some .boolean)) (by decide +kernel) rfl (Nat.le_of_ble_eq_true rfl) ?_
  intro p e s m args below meth c hx hb hr hml hts hown hlocks hini hK hM ls hl
  have hown : s.vm.findClass RX6 = some m.cls := hown
  have hl : lv_has ls 3 [(0, .ref (a)), (1, .int (iI (k))), (2, .int (iI (j)))] := hl
  have hS : va_S (fun _ => False) s.heap s.heap [] := va_S.rf
  have lk_9 := hts (.fieldLink RX6 9 "PolicyWorks$Model" "actionCounts" "[I") (by decide +kernel)
  have hin6 : ∀ w ∈ wsX60, w ∈ wsX6_hasAction := by decide +kernel
  have hO := hM.1
  have hC := hM.2.1
  have hQ := hM.2.2.1
  have hN6 := hok.1
  have hC4 := hok.2.1
  refine lv_aload_n hx hb dX6_hasAction_0 rfl (lv_at hl 0 rfl) ?_
  refine lv_iload_n hx hb dX6_hasAction_1 rfl (lv_at hl 1 rfl) ?_
  refine pw_callVi (As := [.int (iI (k))]) (rest := []) ⟨hx, hb, hml, hown, hts⟩ (c_hasState l D E a σ k hok k1 k2) (cwV 1 hts gX6_hasAction_X6_hasState rfl rfl rfl (by decide +kernel) ⟨Nat.le_of_ble_eq_true rfl, Nat.le_of_ble_eq_true rfl⟩) hK hO rfl hM rfl hl.1 rfl (Nat.le_of_ble_eq_true rfl) dX6_hasAction_2 ⟨Nat.zero_le _, Nat.zero_le _⟩ hS (fun q h => h.elim) (fun z H1 locs1 hz hz1 hk1 hS => ?_)
  have hO := hO.k (hk1 _ hO.lt (fun h => h))
  have hC := hC.k (hk1 _ hC.lt (fun h => h))
  have hQ := hQ.k (hk1 _ hQ.lt (fun h => h))
  have hM := hM.k (fun q _ _ hlt => hk1 q hlt (fun h => h))
  have hz01 : 0 ≤ z ∧ z ≤ 1 := by rw [hz]; split <;> omega
  refine pw_if_eq (tgt := 26) hx hb dX6_hasAction_5 (by decide) (fun c_5 => ?_) (fun c_5 => ?_)
  · refine pw_iconst hx hb dX6_hasAction_26 ?_
    exact pw_zret hx hb hr hlocks hS (by omega) ⟨by omega, ⟨fun h => by omega, fun h => by rw [if_pos ⟨h.1, h.2.1⟩] at hz; omega⟩⟩ dX6_hasAction_27
  · have hk0 : 0 ≤ k ∧ k < (mN σ : Int) := by
      by_cases h : 0 ≤ k ∧ k < (mN σ : Int)
      · exact h
      · rw [if_neg h] at hz; omega
    have hcj := hC4 k.toNat (by omega)
    refine lv_iload_n hx hb dX6_hasAction_8 rfl (lv_at hl 2 rfl) ?_
    refine pw_if_lt (tgt := 26) hx hb dX6_hasAction_9 (by decide) (fun c_9 => ?_) (fun c_9 => ?_)
    · refine pw_iconst hx hb dX6_hasAction_26 ?_
      exact pw_zret hx hb hr hlocks hS (by omega) ⟨by omega, ⟨fun h => by omega, fun h => by omega⟩⟩ dX6_hasAction_27
    · refine lv_iload_n hx hb dX6_hasAction_12 rfl (lv_at hl 2 rfl) ?_
      refine lv_aload_n hx hb dX6_hasAction_13 rfl (lv_at hl 0 rfl) ?_
      refine pw_get (C := RX6) (T := TX6) (N := 5) hx hb hts hin6 hown hK hO rfl 0 (by decide) lk_9 rfl rfl dX6_hasAction_14 ?_
      refine lv_iload_n hx hb dX6_hasAction_17 rfl (lv_at hl 1 rfl) ?_
      refine pw_iald hx hb hK hC (k.toNat) (by omega) (by omega) (by omega) dX6_hasAction_18 ?_
      refine pw_asi ((mC σ (k.toNat) : Int)) rfl ?_
      refine pw_icmp_ge (tgt := 26) hx hb dX6_hasAction_19 (by decide) (fun c_19 => ?_) (fun c_19 => ?_)
      · refine pw_iconst hx hb dX6_hasAction_26 ?_
        exact pw_zret hx hb hr hlocks hS (by omega) ⟨by omega, ⟨fun h => by omega, fun h => by omega⟩⟩ dX6_hasAction_27
      · refine pw_iconst hx hb dX6_hasAction_22 ?_
        refine lv_goto (tgt := 27) hx hb dX6_hasAction_23 (by decide) ?_
        exact pw_zret hx hb hr hlocks hS (by omega) ⟨by omega, ⟨fun _ => ⟨by omega, by omega, by omega, by omega⟩, fun _ => rfl⟩⟩ dX6_hasAction_27
set_option maxHeartbeats 4000000 in
set_option maxRecDepth 100000 in
/-- find(k, j) -/
theorem c_find (l : Launch) (D : va_G) (E : Nat → ClassId) (a : Nat) (σ : MS) (k j : Nat) (hk : k < 6) (hj : j < 4) : pw_M rvR l D E yX6_find wsX6_find ({ frames := 0, cells := 0, slots := 0, locals := 0 } : Room) [.ref (a), .int (iI ((k : Int))), .int (iI ((j : Int)))] (fun H => MO D E a σ H) (fun r H => r = a + 3 + 2 * (4 * k + j)) (fun _ => False) (0) (0) := by
  refine pw_of (cc := cX6_find) (maxL := 3) (ret := (some (.object "PolicyWorks$Action"))) (by decide +kernel) rfl (Nat.le_of_ble_eq_true rfl) ?_
  intro p e s m args below meth c hx hb hr hml hts hown hlocks hini hK hM ls hl
  have hown : s.vm.findClass RX6 = some m.cls := hown
  have hl : lv_has ls 3 [(0, .ref (a)), (1, .int (iI ((k : Int)))), (2, .int (iI ((j : Int))))] := hl
  have hS : va_S (fun _ => False) s.heap s.heap [] := va_S.rf
  have lk_17 := hts (.fieldLink RX6 17 "PolicyWorks$Model" "actions" "[LPolicyWorks$Action;") (by decide +kernel)
  have hin6 : ∀ w ∈ wsX60, w ∈ wsX6_find := by decide +kernel
  have hO := hM.1
  have hC := hM.2.1
  have hQ := hM.2.2.1
  refine lv_aload_n hx hb dX6_find_0 rfl (lv_at hl 0 rfl) ?_
  refine pw_get (C := RX6) (T := TX6) (N := 5) hx hb hts hin6 hown hK hO rfl 1 (by decide) lk_17 rfl rfl dX6_find_1 ?_
  refine lv_iload_n hx hb dX6_find_4 rfl (lv_at hl 1 rfl) ?_
  refine pw_iconst hx hb dX6_find_5 ?_
  refine pw_imul hx hb dX6_find_6 ?_
  refine lv_iload_n hx hb dX6_find_7 rfl (lv_at hl 2 rfl) ?_
  refine pw_iadd hx hb dX6_find_8 ?_
  refine pw_asi (((4 * k + j : Nat) : Int)) (by omega) ?_
  refine pw_qald hx hb hK hQ rfl (4 * k + j) rfl (by omega) (by omega) rfl dX6_find_9 ?_
  exact pw_aret (cn := "PolicyWorks$Action") hx hb hr hlocks hS rfl dX6_find_10
set_option maxHeartbeats 4000000 in
set_option maxRecDepth 100000 in
/-- countActions(onlyReady) -/
theorem c_countActions (l : Launch) (D : va_G) (E : Nat → ClassId) (a : Nat) (σ : MS) (only : Int) (hok : mOK σ) (ho : only = 0 ∨ only = 1) : pw_M rvI l D E yX6_countActions wsX6_countActions ({ frames := 1, cells := 0, slots := 0, locals := 22 } : Room) [.ref (a), .int (iI (only))] (fun H => MO D E a σ H) (fun z H => z = (sA σ (qR σ only) (mN σ) : Int)) (fun _ => False) (0) (0) := by
  refine pw_of (cc := cX6_countActions) (maxL := 5) (ret := (some .int)) (by decide +kernel) rfl (Nat.le_of_ble_eq_true rfl) ?_
  intro p e s m args below meth c hx hb hr hml hts hown hlocks hini hK hM ls hl
  have hown : s.vm.findClass RX6 = some m.cls := hown
  have hl : lv_has ls 5 [(0, .ref (a)), (1, .int (iI (only)))] := hl
  have hS : va_S (fun _ => False) s.heap s.heap [] := va_S.rf
  have lk_9 := hts (.fieldLink RX6 9 "PolicyWorks$Model" "actionCounts" "[I") (by decide +kernel)
  have lk_22 := hts (.fieldLink RX6 22 "PolicyWorks$Model" "states" "I") (by decide +kernel)
  have lk_40 := hts (.fieldLink RX6 40 "PolicyWorks$Action" "total" "I") (by decide +kernel)
  have hin0 : ∀ w ∈ wsX00, w ∈ wsX6_countActions := by decide +kernel
  have hin6 : ∀ w ∈ wsX60, w ∈ wsX6_countActions := by decide +kernel
  have hO := hM.1
  have hC := hM.2.1
  have hQ := hM.2.2.1
  have hN6 := hok.1
  have hC4 := hok.2.1
  have hb1 := fun n hn => sA_b hok (q := qR σ only) (qR_1 σ only) n hn
  have inner : ∀ (i : Nat), i < mN σ → (∀ (H : Heap) (locs : List Loc) (ls : Array Slot), MO D E a σ H → va_S (fun _ => False) s.heap H locs → lv_has ls 5 [(0, .ref (a)), (1, .int (iI (only))), (2, .int (iI ((sA σ (qR σ only) (i + 1) : Int)))), (3, .int (iI (((i + 1 : Nat) : Int))))] → W p l e ({ frames := 1, cells := 0, slots := 0, locals := 22 } : Room) s m args below meth c H locs (0) (0) (MQ below (pw_Q rvI (fun z H => z = (sA σ (qR σ only) (mN σ) : Int)) (fun _ => False)) args s (0) (0) (fun _ => False)) (F0 m 4 ls [])) → ∀ (k j : Nat) (H : Heap) (locs : List Loc) (ls : Array Slot), j + k = mC σ i → MO D E a σ H → va_S (fun _ => False) s.heap H locs → lv_has ls 5 [(0, .ref (a)), (1, .int (iI (only))), (2, .int (iI (((sA σ (qR σ only) i + sB (fun k => qR σ only (4 * i + k)) j : Nat) : Int)))), (3, .int (iI ((i : Int)))), (4, .int (iI ((j : Int))))] → W p l e ({ frames := 1, cells := 0, slots := 0, locals := 22 } : Room) s m args below meth c H locs (0) (0) (MQ below (pw_Q rvI (fun z H => z = (sA σ (qR σ only) (mN σ) : Int)) (fun _ => False)) args s (0) (0) (fun _ => False)) (F0 m 15 ls []) := by
    intro i hi next k
    have hc := hC4 i (by omega)
    have hb2 := hb1 i (by omega)
    have hb3 := fun m => sB_one (q := fun k => qR σ only (4 * i + k)) (fun k => qR_1 σ only _) m
    induction k with
    | zero =>
      intro j H locs ls hj hM hS hl
      have hO := hM.1
      have hC := hM.2.1
      have hQ := hM.2.2.1
      refine lv_iload hx hb dX6_countActions_15 (lv_at hl 4 rfl) ?_
      refine lv_aload_n hx hb dX6_countActions_17 rfl (lv_at hl 0 rfl) ?_
      refine pw_get (C := RX6) (T := TX6) (N := 5) hx hb hts hin6 hown hK hO rfl 0 (by decide) lk_9 rfl rfl dX6_countActions_18 ?_
      refine lv_iload_n hx hb dX6_countActions_21 rfl (lv_at hl 3 rfl) ?_
      refine pw_iald hx hb hK hC (i) rfl (by omega) (by omega) dX6_countActions_22 ?_
      refine pw_asi ((mC σ (i) : Int)) rfl ?_
      refine pw_icmp_ge (tgt := 52) hx hb dX6_countActions_23 (by decide) (fun c_23 => ?_) (fun c_23 => absurd c_23 (by omega))
      refine lv_iinc (v := iI (((i + 1 : Nat) : Int))) (lv' := [(3, .int (iI (((i + 1 : Nat) : Int)))), (0, .ref (a)), (1, .int (iI (only))), (2, .int (iI (((sA σ (qR σ only) i + sB (fun k => qR σ only (4 * i + k)) j : Nat) : Int)))), (4, .int (iI ((j : Int))))]) hx hb dX6_countActions_52 hl (k := 3) rfl (by show iI _ + iI _ = _; exact (iI_add _ _).trans (by first | rfl | (congr 1; omega))) (by decide) rfl (fun ls hl => ?_)
      refine lv_goto (tgt := 4) hx hb dX6_countActions_55 (by decide) ?_
      have ej : j = mC σ i := by omega
      subst ej
      exact next _ _ _ hM hS (lv_sub hl [1, 2, 3, 0] rfl)
    | succ k ih =>
      intro j H locs ls hj hM hS hl
      have hO := hM.1
      have hC := hM.2.1
      have hQ := hM.2.2.1
      have hb4 := hb3 j
      have hAT := hM.2.2.2 (4 * i + j) (by omega)
      have htb := mT_b hok (i := 4 * i + j) (by omega)
      refine lv_iload hx hb dX6_countActions_15 (lv_at hl 4 rfl) ?_
      refine lv_aload_n hx hb dX6_countActions_17 rfl (lv_at hl 0 rfl) ?_
      refine pw_get (C := RX6) (T := TX6) (N := 5) hx hb hts hin6 hown hK hO rfl 0 (by decide) lk_9 rfl rfl dX6_countActions_18 ?_
      refine lv_iload_n hx hb dX6_countActions_21 rfl (lv_at hl 3 rfl) ?_
      refine pw_iald hx hb hK hC (i) rfl (by omega) (by omega) dX6_countActions_22 ?_
      refine pw_asi ((mC σ (i) : Int)) rfl ?_
      refine pw_icmp_ge (tgt := 52) hx hb dX6_countActions_23 (by decide) (fun c_23 => absurd c_23 (by omega)) (fun c_23 => ?_)
      refine lv_iload_n hx hb dX6_countActions_26 rfl (lv_at hl 1 rfl) ?_
      refine pw_if_eq (tgt := 43) hx hb dX6_countActions_27 (by decide) (fun c_27 => ?_) (fun c_27 => ?_)
      · refine lv_iinc (v := iI (((sA σ (qR σ only) i + sB (fun k => qR σ only (4 * i + k)) j : Nat) : Int) + 1)) (lv' := [(2, .int (iI (((sA σ (qR σ only) i + sB (fun k => qR σ only (4 * i + k)) j : Nat) : Int) + 1))), (0, .ref (a)), (1, .int (iI (only))), (3, .int (iI ((i : Int)))), (4, .int (iI ((j : Int))))]) hx hb dX6_countActions_43 hl (k := 2) rfl (by show iI _ + iI _ = _; exact (iI_add _ _).trans (by first | rfl | (congr 1; omega))) (by decide) rfl (fun ls hl => ?_)
        refine lv_iinc (v := iI (((j + 1 : Nat) : Int))) (lv' := [(4, .int (iI (((j + 1 : Nat) : Int)))), (2, .int (iI (((sA σ (qR σ only) i + sB (fun k => qR σ only (4 * i + k)) j : Nat) : Int) + 1))), (0, .ref (a)), (1, .int (iI (only))), (3, .int (iI ((i : Int))))]) hx hb dX6_countActions_46 hl (k := 4) rfl (by show iI _ + iI _ = _; exact (iI_add _ _).trans (by first | rfl | (congr 1; omega))) (by decide) rfl (fun ls hl => ?_)
        refine lv_goto (tgt := 15) hx hb dX6_countActions_49 (by decide) ?_
        have eq1 : qR σ only (4 * i + j) = 1 := by simp [qR, c_27]
        have esb : sB (fun k => qR σ only (4 * i + k)) (j + 1) = sB (fun k => qR σ only (4 * i + k)) j + 1 := by show sB _ j + qR σ only (4 * i + j) = _; rw [eq1]
        have hl : lv_has ls 5 [(0, .ref (a)), (1, .int (iI (only))), (2, .int (iI (((sA σ (qR σ only) i + sB (fun k => qR σ only (4 * i + k)) (j + 1) : Nat) : Int)))), (3, .int (iI ((i : Int)))), (4, .int (iI (((j + 1 : Nat) : Int))))] := by
          rw [esb]
          have e9 : ((sA σ (qR σ only) i + (sB (fun k => qR σ only (4 * i + k)) j + 1) : Nat) : Int) = ((sA σ (qR σ only) i + sB (fun k => qR σ only (4 * i + k)) j : Nat) : Int) + 1 := by omega
          rw [e9]
          exact lv_sub hl [2, 3, 1, 4, 0] rfl
        exact ih (j + 1) _ _ _ (by omega) hM hS hl
      · refine lv_aload_n hx hb dX6_countActions_30 rfl (lv_at hl 0 rfl) ?_
        refine lv_iload_n hx hb dX6_countActions_31 rfl (lv_at hl 3 rfl) ?_
        refine lv_iload hx hb dX6_countActions_32 (lv_at hl 4 rfl) ?_
        refine pw_callVr (As := [.int (iI ((i : Int))), .int (iI ((j : Int)))]) (rest := []) ⟨hx, hb, hml, hown, hts⟩ (c_find l D E a σ i j (by omega) (by omega)) (cwV 2 hts gX6_countActions_X6_find rfl rfl rfl (by decide +kernel) ⟨Nat.le_of_ble_eq_true rfl, Nat.le_of_ble_eq_true rfl⟩) hK hO rfl hM rfl hl.1 rfl (Nat.le_of_ble_eq_true rfl) dX6_countActions_34 ⟨Nat.zero_le _, Nat.zero_le _⟩ hS (fun q h => h.elim) (fun z H1 locs1 hz hz1 hk1 hS => ?_)
        have hO := hO.k (hk1 _ hO.lt (fun h => h))
        have hC := hC.k (hk1 _ hC.lt (fun h => h))
        have hQ := hQ.k (hk1 _ hQ.lt (fun h => h))
        have hM := hM.k (fun q _ _ hlt => hk1 q hlt (fun h => h))
        subst hz
        have hAT := hM.2.2.2 (4 * i + j) (by omega)
        have hAO := hAT.1
        refine pw_get (C := RX0) (T := TX0) (N := 4) hx hb hts hin0 hown hK hAO rfl 3 (by decide) lk_40 rfl rfl dX6_countActions_37 ?_
        refine pw_if_le (tgt := 46) hx hb dX6_countActions_40 (by decide) (fun c_40 => ?_) (fun c_40 => ?_)
        · refine lv_iinc (v := iI (((j + 1 : Nat) : Int))) (lv' := [(4, .int (iI (((j + 1 : Nat) : Int)))), (0, .ref (a)), (1, .int (iI (only))), (2, .int (iI (((sA σ (qR σ only) i + sB (fun k => qR σ only (4 * i + k)) j : Nat) : Int)))), (3, .int (iI ((i : Int))))]) hx hb dX6_countActions_46 hl (k := 4) rfl (by show iI _ + iI _ = _; exact (iI_add _ _).trans (by first | rfl | (congr 1; omega))) (by decide) rfl (fun ls hl => ?_)
          refine lv_goto (tgt := 15) hx hb dX6_countActions_49 (by decide) ?_
          have eq1 : qR σ only (4 * i + j) = 0 := by simp [qR]; omega
          have esb : sB (fun k => qR σ only (4 * i + k)) (j + 1) = sB (fun k => qR σ only (4 * i + k)) j + 0 := by show sB _ j + qR σ only (4 * i + j) = _; rw [eq1]
          have hl : lv_has ls 5 [(0, .ref (a)), (1, .int (iI (only))), (2, .int (iI (((sA σ (qR σ only) i + sB (fun k => qR σ only (4 * i + k)) (j + 1) : Nat) : Int)))), (3, .int (iI ((i : Int)))), (4, .int (iI (((j + 1 : Nat) : Int))))] := by
            rw [esb]
            have e9 : ((sA σ (qR σ only) i + (sB (fun k => qR σ only (4 * i + k)) j + 0) : Nat) : Int) = ((sA σ (qR σ only) i + sB (fun k => qR σ only (4 * i + k)) j : Nat) : Int) := by omega
            rw [e9]
            exact lv_sub hl [1, 2, 3, 4, 0] rfl
          exact ih (j + 1) _ _ _ (by omega) hM hS hl
        · refine lv_iinc (v := iI (((sA σ (qR σ only) i + sB (fun k => qR σ only (4 * i + k)) j : Nat) : Int) + 1)) (lv' := [(2, .int (iI (((sA σ (qR σ only) i + sB (fun k => qR σ only (4 * i + k)) j : Nat) : Int) + 1))), (0, .ref (a)), (1, .int (iI (only))), (3, .int (iI ((i : Int)))), (4, .int (iI ((j : Int))))]) hx hb dX6_countActions_43 hl (k := 2) rfl (by show iI _ + iI _ = _; exact (iI_add _ _).trans (by first | rfl | (congr 1; omega))) (by decide) rfl (fun ls hl => ?_)
          refine lv_iinc (v := iI (((j + 1 : Nat) : Int))) (lv' := [(4, .int (iI (((j + 1 : Nat) : Int)))), (2, .int (iI (((sA σ (qR σ only) i + sB (fun k => qR σ only (4 * i + k)) j : Nat) : Int) + 1))), (0, .ref (a)), (1, .int (iI (only))), (3, .int (iI ((i : Int))))]) hx hb dX6_countActions_46 hl (k := 4) rfl (by show iI _ + iI _ = _; exact (iI_add _ _).trans (by first | rfl | (congr 1; omega))) (by decide) rfl (fun ls hl => ?_)
          refine lv_goto (tgt := 15) hx hb dX6_countActions_49 (by decide) ?_
          have eq1 : qR σ only (4 * i + j) = 1 := by simp [qR]; omega
          have esb : sB (fun k => qR σ only (4 * i + k)) (j + 1) = sB (fun k => qR σ only (4 * i + k)) j + 1 := by show sB _ j + qR σ only (4 * i + j) = _; rw [eq1]
          have hl : lv_has ls 5 [(0, .ref (a)), (1, .int (iI (only))), (2, .int (iI (((sA σ (qR σ only) i + sB (fun k => qR σ only (4 * i + k)) (j + 1) : Nat) : Int)))), (3, .int (iI ((i : Int)))), (4, .int (iI (((j + 1 : Nat) : Int))))] := by
            rw [esb]
            have e9 : ((sA σ (qR σ only) i + (sB (fun k => qR σ only (4 * i + k)) j + 1) : Nat) : Int) = ((sA σ (qR σ only) i + sB (fun k => qR σ only (4 * i + k)) j : Nat) : Int) + 1 := by omega
            rw [e9]
            exact lv_sub hl [2, 3, 1, 4, 0] rfl
          exact ih (j + 1) _ _ _ (by omega) hM hS hl
  have outer : ∀ (k i : Nat) (H : Heap) (locs : List Loc) (ls : Array Slot), i + k = mN σ → MO D E a σ H → va_S (fun _ => False) s.heap H locs → lv_has ls 5 [(0, .ref (a)), (1, .int (iI (only))), (2, .int (iI ((sA σ (qR σ only) i : Int)))), (3, .int (iI ((i : Int))))] → W p l e ({ frames := 1, cells := 0, slots := 0, locals := 22 } : Room) s m args below meth c H locs (0) (0) (MQ below (pw_Q rvI (fun z H => z = (sA σ (qR σ only) (mN σ) : Int)) (fun _ => False)) args s (0) (0) (fun _ => False)) (F0 m 4 ls []) := by
    intro k
    induction k with
    | zero =>
      intro i H locs ls hi hM hS hl
      have hO := hM.1
      have hC := hM.2.1
      have hQ := hM.2.2.1
      have ei : i = mN σ := by omega
      subst ei
      have hb2 := hb1 (mN σ) (by omega)
      refine lv_iload_n hx hb dX6_countActions_4 rfl (lv_at hl 3 rfl) ?_
      refine lv_aload_n hx hb dX6_countActions_5 rfl (lv_at hl 0 rfl) ?_
      refine pw_get (C := RX6) (T := TX6) (N := 5) hx hb hts hin6 hown hK hO rfl 2 (by decide) lk_22 rfl rfl dX6_countActions_6 ?_
      refine pw_icmp_ge (tgt := 58) hx hb dX6_countActions_9 (by decide) (fun c_9 => ?_) (fun c_9 => absurd c_9 (by omega))
      refine lv_iload_n hx hb dX6_countActions_58 rfl (lv_at hl 2 rfl) ?_
      exact pw_iret hx hb hr hlocks hS rfl dX6_countActions_59
    | succ k ih =>
      intro i H locs ls hi hM hS hl
      have hO := hM.1
      have hC := hM.2.1
      have hQ := hM.2.2.1
      refine lv_iload_n hx hb dX6_countActions_4 rfl (lv_at hl 3 rfl) ?_
      refine lv_aload_n hx hb dX6_countActions_5 rfl (lv_at hl 0 rfl) ?_
      refine pw_get (C := RX6) (T := TX6) (N := 5) hx hb hts hin6 hown hK hO rfl 2 (by decide) lk_22 rfl rfl dX6_countActions_6 ?_
      refine pw_icmp_ge (tgt := 58) hx hb dX6_countActions_9 (by decide) (fun c_9 => absurd c_9 (by omega)) (fun c_9 => ?_)
      refine pw_iconst hx hb dX6_countActions_12 ?_
      refine lv_istore (lv' := [(4, .int (iI (0))), (0, .ref (a)), (1, .int (iI (only))), (2, .int (iI ((sA σ (qR σ only) i : Int)))), (3, .int (iI ((i : Int))))]) hx hb dX6_countActions_13 hl (by decide) rfl (fun ls hl => ?_)
      exact inner i (by omega) (fun H locs ls hM hS hl => ih (i + 1) H locs ls (by omega) hM hS hl) (mC σ i) 0 _ _ _ (by omega) hM hS (lv_sub hl [1, 2, 3, 4, 0] rfl)
  refine pw_iconst hx hb dX6_countActions_0 ?_
  refine lv_istore_n (lv' := [(2, .int (iI (0))), (0, .ref (a)), (1, .int (iI (only)))]) hx hb dX6_countActions_1 rfl hl (by decide) rfl (fun ls hl => ?_)
  refine pw_iconst hx hb dX6_countActions_2 ?_
  refine lv_istore_n (lv' := [(3, .int (iI (0))), (2, .int (iI (0))), (0, .ref (a)), (1, .int (iI (only)))]) hx hb dX6_countActions_3 rfl hl (by decide) rfl (fun ls hl => ?_)
  exact outer (mN σ) 0 _ _ _ (by omega) hM hS (lv_sub hl [2, 3, 1, 0] rfl)
set_option maxHeartbeats 4000000 in
set_option maxRecDepth 100000 in
/-- allReady() -/
theorem c_allReady (l : Launch) (D : va_G) (E : Nat → ClassId) (a : Nat) (σ : MS) (hok : mOK σ) : pw_M rvI l D E yX6_allReady wsX6_allReady ({ frames := 2, cells := 0, slots := 0, locals := 46 } : Room) [.ref (a)] (fun H => MO D E a σ H) (fun z H => (z = 0 ∨ z = 1) ∧ (z = 1 ↔ rdy σ)) (fun _ => False) (0) (0) := by
  refine pw_of (cc := cX6_allReady) (maxL := 2) (ret := (some .boolean)) (by decide +kernel) rfl (Nat.le_of_ble_eq_true rfl) ?_
  intro p e s m args below meth c hx hb hr hml hts hown hlocks hini hK hM ls hl
  have hown : s.vm.findClass RX6 = some m.cls := hown
  have hl : lv_has ls 2 [(0, .ref (a))] := hl
  have hS : va_S (fun _ => False) s.heap s.heap [] := va_S.rf
  have lk_9 := hts (.fieldLink RX6 9 "PolicyWorks$Model" "actionCounts" "[I") (by decide +kernel)
  have lk_22 := hts (.fieldLink RX6 22 "PolicyWorks$Model" "states" "I") (by decide +kernel)
  have hin6 : ∀ w ∈ wsX60, w ∈ wsX6_allReady := by decide +kernel
  have hO := hM.1
  have hC := hM.2.1
  have hQ := hM.2.2.1
  have hN6 := hok.1
  have hC4 := hok.2.1
  have hb1 := sA_b hok (q := qR σ 1) (qR_1 σ 1) (mN σ) hok.1
  have hb0 := sA_b hok (q := qR σ 0) (qR_1 σ 0) (mN σ) hok.1
  have hri := rdy_iff (σ := σ)
  have loop : ∀ (k i : Nat) (H : Heap) (locs : List Loc) (ls : Array Slot), i + k = mN σ → (∀ t, t < i → 0 < mC σ t) → MO D E a σ H → va_S (fun _ => False) s.heap H locs → lv_has ls 2 [(0, .ref (a)), (1, .int (iI ((i : Int))))] → W p l e ({ frames := 2, cells := 0, slots := 0, locals := 46 } : Room) s m args below meth c H locs (0) (0) (MQ below (pw_Q rvI (fun z H => (z = 0 ∨ z = 1) ∧ (z = 1 ↔ rdy σ)) (fun _ => False)) args s (0) (0) (fun _ => False)) (F0 m 2 ls []) := by
    intro k
    induction k with
    | zero =>
      intro i H locs ls hi h0 hM hS hl
      have hO := hM.1
      have hC := hM.2.1
      have hQ := hM.2.2.1
      refine lv_iload_n hx hb dX6_allReady_2 rfl (lv_at hl 1 rfl) ?_
      refine lv_aload_n hx hb dX6_allReady_3 rfl (lv_at hl 0 rfl) ?_
      refine pw_get (C := RX6) (T := TX6) (N := 5) hx hb hts hin6 hown hK hO rfl 2 (by decide) lk_22 rfl rfl dX6_allReady_4 ?_
      refine pw_icmp_ge (tgt := 27) hx hb dX6_allReady_7 (by decide) (fun c_7 => ?_) (fun c_7 => absurd c_7 (by omega))
      refine lv_aload_n hx hb dX6_allReady_27 rfl (lv_at hl 0 rfl) ?_
      refine pw_get (C := RX6) (T := TX6) (N := 5) hx hb hts hin6 hown hK hO rfl 2 (by decide) lk_22 rfl rfl dX6_allReady_28 ?_
      refine pw_if_le (tgt := 51) hx hb dX6_allReady_31 (by decide) (fun c_31 => ?_) (fun c_31 => ?_)
      · refine pw_iconst hx hb dX6_allReady_51 ?_
        exact pw_zret hx hb hr hlocks hS (by omega) ⟨by omega, ⟨fun h => by omega, fun h => by have := hri.mp h; omega⟩⟩ dX6_allReady_52
      · refine lv_aload_n hx hb dX6_allReady_34 rfl (lv_at hl 0 rfl) ?_
        refine pw_iconst hx hb dX6_allReady_35 ?_
        refine pw_callVi (As := [.int (iI (1))]) (rest := []) ⟨hx, hb, hml, hown, hts⟩ (c_countActions l D E a σ 1 hok (by omega)) (cwV 1 hts gX6_allReady_X6_countActions rfl rfl rfl (by decide +kernel) ⟨Nat.le_of_ble_eq_true rfl, Nat.le_of_ble_eq_true rfl⟩) hK hO rfl hM rfl hl.1 rfl (Nat.le_of_ble_eq_true rfl) dX6_allReady_36 ⟨Nat.zero_le _, Nat.zero_le _⟩ hS (fun q h => h.elim) (fun z H1 locs1 hz hz1 hk1 hS => ?_)
        have hO := hO.k (hk1 _ hO.lt (fun h => h))
        have hC := hC.k (hk1 _ hC.lt (fun h => h))
        have hQ := hQ.k (hk1 _ hQ.lt (fun h => h))
        have hM := hM.k (fun q _ _ hlt => hk1 q hlt (fun h => h))
        subst hz
        refine lv_aload_n hx hb dX6_allReady_39 rfl (lv_at hl 0 rfl) ?_
        refine pw_iconst hx hb dX6_allReady_40 ?_
        refine pw_callVi (As := [.int (iI (0))]) (rest := [.int (iI ((sA σ (qR σ 1) (mN σ) : Int)))]) ⟨hx, hb, hml, hown, hts⟩ (c_countActions l D E a σ 0 hok (by omega)) (cwV 1 hts gX6_allReady_X6_countActions rfl rfl rfl (by decide +kernel) ⟨Nat.le_of_ble_eq_true rfl, Nat.le_of_ble_eq_true rfl⟩) hK hO rfl hM rfl hl.1 rfl (Nat.le_of_ble_eq_true rfl) dX6_allReady_41 ⟨Nat.zero_le _, Nat.zero_le _⟩ hS (fun q h => h.elim) (fun z H1 locs1 hz hz1 hk1 hS => ?_)
        have hO := hO.k (hk1 _ hO.lt (fun h => h))
        have hC := hC.k (hk1 _ hC.lt (fun h => h))
        have hQ := hQ.k (hk1 _ hQ.lt (fun h => h))
        have hM := hM.k (fun q _ _ hlt => hk1 q hlt (fun h => h))
        subst hz
        refine pw_icmp_ne (tgt := 51) hx hb dX6_allReady_44 (by decide) (fun c_44 => ?_) (fun c_44 => ?_)
        · refine pw_iconst hx hb dX6_allReady_51 ?_
          exact pw_zret hx hb hr hlocks hS (by omega) ⟨by omega, ⟨fun h => by omega, fun h => by have := hri.mp h; omega⟩⟩ dX6_allReady_52
        · refine pw_iconst hx hb dX6_allReady_47 ?_
          refine lv_goto (tgt := 52) hx hb dX6_allReady_48 (by decide) ?_
          exact pw_zret hx hb hr hlocks hS (by omega) ⟨by omega, ⟨fun _ => hri.mpr ⟨by omega, fun t ht => h0 t (by omega), by omega⟩, fun _ => rfl⟩⟩ dX6_allReady_52
    | succ k ih =>
      intro i H locs ls hi h0 hM hS hl
      have hO := hM.1
      have hC := hM.2.1
      have hQ := hM.2.2.1
      have hci := hC4 i (by omega)
      refine lv_iload_n hx hb dX6_allReady_2 rfl (lv_at hl 1 rfl) ?_
      refine lv_aload_n hx hb dX6_allReady_3 rfl (lv_at hl 0 rfl) ?_
      refine pw_get (C := RX6) (T := TX6) (N := 5) hx hb hts hin6 hown hK hO rfl 2 (by decide) lk_22 rfl rfl dX6_allReady_4 ?_
      refine pw_icmp_ge (tgt := 27) hx hb dX6_allReady_7 (by decide) (fun c_7 => absurd c_7 (by omega)) (fun c_7 => ?_)
      refine lv_aload_n hx hb dX6_allReady_10 rfl (lv_at hl 0 rfl) ?_
      refine pw_get (C := RX6) (T := TX6) (N := 5) hx hb hts hin6 hown hK hO rfl 0 (by decide) lk_9 rfl rfl dX6_allReady_11 ?_
      refine lv_iload_n hx hb dX6_allReady_14 rfl (lv_at hl 1 rfl) ?_
      refine pw_iald hx hb hK hC (i) rfl (by omega) (by omega) dX6_allReady_15 ?_
      refine pw_asi ((mC σ (i) : Int)) rfl ?_
      refine pw_if_ne (tgt := 21) hx hb dX6_allReady_16 (by decide) (fun c_16 => ?_) (fun c_16 => ?_)
      · refine lv_iinc (v := iI (((i + 1 : Nat) : Int))) (lv' := [(1, .int (iI (((i + 1 : Nat) : Int)))), (0, .ref (a))]) hx hb dX6_allReady_21 hl (k := 1) rfl (by show iI _ + iI _ = _; exact (iI_add _ _).trans (by first | rfl | (congr 1; omega))) (by decide) rfl (fun ls hl => ?_)
        refine lv_goto (tgt := 2) hx hb dX6_allReady_24 (by decide) ?_
        exact ih (i + 1) _ _ _ (by omega) (fun t ht => by
        by_cases e : t = i
        · rw [e]; omega
        · exact h0 t (by omega)) hM hS (lv_sub hl [1, 0] rfl)
      · refine pw_iconst hx hb dX6_allReady_19 ?_
        exact pw_zret hx hb hr hlocks hS (by omega) ⟨by omega, ⟨fun h => by omega, fun h => by have := (h.2 i (by omega)).1; omega⟩⟩ dX6_allReady_20
  refine pw_iconst hx hb dX6_allReady_0 ?_
  refine lv_istore_n (lv' := [(1, .int (iI (0))), (0, .ref (a))]) hx hb dX6_allReady_1 rfl hl (by decide) rfl (fun ls hl => ?_)
  exact loop (mN σ) 0 _ _ _ (by omega) (fun t ht => by omega) hM hS (lv_sub hl [1, 0] rfl)
end
section
/-! gains: the gain of one action under a row of values; the action with the greatest one -/
/-- a row of values with one lower part -/
def RW (D : va_G) (E : Nat → ClassId) (r n : Nat) (v : Nat → Int) (b : Int) (H : Heap) : Prop := OA D r 7 [.ref (r + 1), .ref (r + 14)] H ∧ QA E 5 (r + 1) 6 (fun s => some (r + 2 + 2 * s)) H ∧ (∀ s, s < 6 → WH D E (r + 2 + 2 * s) n (v s) H) ∧ WH D E (r + 14) n b H
theorem RW.lt {D : va_G} {E : Nat → ClassId} {r n : Nat} {v : Nat → Int} {b : Int} {H : Heap} (h : RW D E r n v b H) : r + 15 < H.size := by
  have := h.2.2.2.lt
  omega
theorem RW.k {D : va_G} {E : Nat → ClassId} {r n : Nat} {v : Nat → Int} {b : Int} {H H1 : Heap} (h : RW D E r n v b H) (hq : ∀ q, r ≤ q → q ≤ r + 15 → q < H.size → H1[q]? = H[q]?) : RW D E r n v b H1 := by
  have hl := h.lt
  obtain ⟨h0, h1, h2, h3⟩ := h
  exact ⟨h0.k (hq _ (by omega) (by omega) (by omega)), h1.k (hq _ (by omega) (by omega) (by omega)), fun s hs => (h2 s hs).k (hq _ (by omega) (by omega) (by omega)) (hq _ (by omega) (by omega) (by omega)), h3.k (hq _ (by omega) (by omega) (by omega)) (hq _ (by omega) (by omega) (by omega))⟩
def GN (D : va_G) (E : Nat → ClassId) (g : Nat) (v sc : Int) (H : Heap) : Prop := OA D g 4 [.ref (g + 1), .int (iI sc)] H ∧ WH D E (g + 1) 24 v H
theorem GN.lt {D : va_G} {E : Nat → ClassId} {g : Nat} {v sc : Int} {H : Heap} (h : GN D E g v sc H) : g + 2 < H.size := by
  have := h.2.lt
  omega
theorem GN.k {D : va_G} {E : Nat → ClassId} {g : Nat} {v sc : Int} {H H1 : Heap} (h : GN D E g v sc H) (hq : ∀ q, g ≤ q → q ≤ g + 2 → q < H.size → H1[q]? = H[q]?) : GN D E g v sc H1 := by
  have hl := h.lt
  exact ⟨h.1.k (hq _ (by omega) (by omega) (by omega)), h.2.k (hq _ (by omega) (by omega) (by omega)) (hq _ (by omega) (by omega) (by omega))⟩
-- a gain, above and scale
def gc0 (σ : MS) (i : Nat) : Int := mU σ i * (mB σ : Int) * (mT σ i : Int)
def gct (σ : MS) (i t : Nat) : Int := (mD σ i : Int) * (mA σ : Int) * (mW σ i t : Int)
def gsum (σ : MS) (i : Nat) (v : Nat → Int) : Nat → Int
  | 0 => 0
  | k + 1 => gsum σ i v k + v k * gct σ i k
def gnum (σ : MS) (i : Nat) (v : Nat → Int) (b : Int) : Int := b * gc0 σ i + gsum σ i v (mN σ)
def gsc (σ : MS) (i : Nat) : Int := (mD σ i : Int) * (mB σ : Int) * (mT σ i : Int)
theorem mul3_b {x y z : Int} {a b c : Nat} (hx : x.natAbs ≤ a) (hy : y.natAbs ≤ b) (hz : z.natAbs ≤ c) : (x * y * z).natAbs ≤ a * b * c := by
  rw [Int.natAbs_mul, Int.natAbs_mul]
  exact Nat.mul_le_mul (Nat.mul_le_mul hx hy) hz
theorem gc0_b {σ : MS} (h : mOK σ) {i : Nat} (hi : i < 24) : (gc0 σ i).natAbs ≤ 2400000 := by
  have h1 := h.2.2.1 i hi
  have h2 := mT_b h hi
  have h3 := h.2.2.2.2.1
  exact mul3_b (a := 1000) (b := 20) (c := 120) (by omega) (by omega) (by omega)
theorem gct_b {σ : MS} (h : mOK σ) {i t : Nat} (hi : i < 24) (ht : t < 6) : (gct σ i t).natAbs ≤ 8000 := by
  have h1 := h.2.2.1 i hi
  have h4 := h1.2.2.2.2 t ht
  have h3 := h.2.2.2.2.1
  have h5 := h.2.2.2.1
  exact mul3_b (a := 20) (b := 20) (c := 20) (by omega) (by omega) (by omega)
theorem gsc_b {σ : MS} (h : mOK σ) {i : Nat} (hi : i < 24) : 0 ≤ gsc σ i ∧ gsc σ i ≤ 48000 := by
  have h1 := h.2.2.1 i hi
  have h2 := mT_b h hi
  have h3 := h.2.2.2.2.1
  have h4 : (gsc σ i).natAbs ≤ 48000 := mul3_b (a := 20) (b := 20) (c := 120) (by omega) (by omega) (by omega)
  have h5 : 0 ≤ gsc σ i := Int.mul_nonneg (Int.mul_nonneg (by omega) (by omega)) (by omega)
  omega
theorem dig_b {c : Int} {M : Nat} (hc : c.natAbs ≤ M) (v : Int) (j : Nat) : (c * wdig v j).natAbs ≤ M * 1000000 := by
  have := wdig_b v j
  rw [Int.natAbs_mul]
  exact Nat.mul_le_mul hc (by omega)
set_option maxHeartbeats 4000000 in
set_option maxRecDepth 100000 in
/-- weigh(model, action, row) -/
theorem c_weigh (l : Launch) (D : va_G) (E : Nat → ClassId) (g m0 r n i : Nat) (σ : MS) (v : Nat → Int) (b v0 sc0 : Int) (hok : mOK σ) (hi : i < 24) (hn : n ≤ 24) (hgr : g + 2 < r ∨ r + 15 < g) (hgm : g + 2 < m0 ∨ m0 + 50 < g) (hv1 : -(1000000 ^ 24) < gnum σ i v b) (hv2 : gnum σ i v b < 1000000 ^ 24) : pw_M rvV l D E yX4_weigh wsX4_weigh ({ frames := 2, cells := 0, slots := 0, locals := 65 } : Room) [.ref (g), .ref (m0), .ref (m0 + 3 + 2 * i), .ref (r)] (fun H => GN D E g v0 sc0 H ∧ MO D E m0 σ H ∧ RW D E r n v b H) (fun _ H => GN D E g (gnum σ i v b) (gsc σ i) H) (fun q => g ≤ q ∧ q ≤ g + 2) (0) (0) := by
  refine pw_of (cc := cX4_weigh) (maxL := 5) (ret := none) (by decide +kernel) rfl (Nat.le_of_ble_eq_true rfl) ?_
  intro p e s m args below meth c hx hb hr hml hts hown hlocks hini hK ⟨⟨hG, hW0⟩, hM, hRW⟩ ls hl
  have hown : s.vm.findClass RX4 = some m.cls := hown
  have hl : lv_has ls 5 [(0, .ref (g)), (1, .ref (m0)), (2, .ref (m0 + 3 + 2 * i)), (3, .ref (r))] := hl
  have hS : va_S (fun q => g ≤ q ∧ q ≤ g + 2) s.heap s.heap [] := va_S.rf
  have lk_14 := hts (.fieldLink RX4 14 "PolicyWorks$Gain" "above" "LPolicyWorks$Whole;") (by decide +kernel)
  have lk_20 := hts (.fieldLink RX4 20 "PolicyWorks$Gain" "scale" "I") (by decide +kernel)
  have lk_24 := hts (.fieldLink RX4 24 "PolicyWorks$Action" "below" "I") (by decide +kernel)
  have lk_29 := hts (.fieldLink RX4 29 "PolicyWorks$Model" "discountBelow" "I") (by decide +kernel)
  have lk_34 := hts (.fieldLink RX4 34 "PolicyWorks$Action" "total" "I") (by decide +kernel)
  have lk_40 := hts (.fieldLink RX4 40 "PolicyWorks$Row" "below" "LPolicyWorks$Whole;") (by decide +kernel)
  have lk_44 := hts (.fieldLink RX4 44 "PolicyWorks$Action" "above" "I") (by decide +kernel)
  have lk_50 := hts (.fieldLink RX4 50 "PolicyWorks$Model" "states" "I") (by decide +kernel)
  have lk_53 := hts (.fieldLink RX4 53 "PolicyWorks$Row" "above" "[LPolicyWorks$Whole;") (by decide +kernel)
  have lk_56 := hts (.fieldLink RX4 56 "PolicyWorks$Model" "discountAbove" "I") (by decide +kernel)
  have lk_59 := hts (.fieldLink RX4 59 "PolicyWorks$Action" "weights" "[I") (by decide +kernel)
  have hin0 : ∀ w ∈ wsX00, w ∈ wsX4_weigh := by decide +kernel
  have hin4 : ∀ w ∈ wsX40, w ∈ wsX4_weigh := by decide +kernel
  have hin6 : ∀ w ∈ wsX60, w ∈ wsX4_weigh := by decide +kernel
  have hin7 : ∀ w ∈ wsX70, w ∈ wsX4_weigh := by decide +kernel
  have hMO := hM.1
  have hAO := (hM.2.2.2 i hi).1
  have hAW := (hM.2.2.2 i hi).2
  have hRO := hRW.1
  have hRQ := hRW.2.1
  have hok1 := hok.2.2.1 i hi
  have hw6 := hok1.2.2.2.2
  have hTb := mT_b hok hi
  have hB20 := hok.2.2.2.2.1
  have hAB := hok.2.2.2.1
  have hN6 := hok.1
  have hc0 := gc0_b hok hi
  obtain ⟨k0, hR⟩ := hW0.r
  have loop : ∀ (k t : Nat) (f : Nat → Int) (H : Heap) (locs : List Loc) (ls : Array Slot), t + k = mN σ → wv f 24 = b * gc0 σ i + gsum σ i v t → (∀ j, (f j).natAbs ≤ 2400000000000 + t * 8000000000) → OA D g 4 [.ref (g + 1), .int (iI (gsc σ i))] H → WR D E (g + 1) 24 f 0 0 H → MO D E m0 σ H → RW D E r n v b H → va_S (fun q => g ≤ q ∧ q ≤ g + 2) s.heap H locs → lv_has ls 5 [(0, .ref (g)), (1, .ref (m0)), (2, .ref (m0 + 3 + 2 * i)), (3, .ref (r)), (4, .int (iI ((t : Int))))] → W p l e ({ frames := 2, cells := 0, slots := 0, locals := 65 } : Room) s m args below meth c H locs (0) (0) (MQ below (pw_Q rvV (fun _ H => GN D E g (gnum σ i v b) (gsc σ i) H) (fun q => g ≤ q ∧ q ≤ g + 2)) args s (0) (0) (fun q => g ≤ q ∧ q ≤ g + 2)) (F0 m 56 ls []) := by
    intro k
    induction k with
    | zero =>
      intro t f H locs ls ht hwv hfb hG hR hM hRW hS hl
      have hMO := hM.1
      have hAO := (hM.2.2.2 i hi).1
      have hAW := (hM.2.2.2 i hi).2
      have hRO := hRW.1
      have hRQ := hRW.2.1
      have et : t = mN σ := by omega
      subst et
      have hwv : wv f 24 = gnum σ i v b := hwv
      refine lv_iload hx hb dX4_weigh_56 (lv_at hl 4 rfl) ?_
      refine lv_aload_n hx hb dX4_weigh_58 rfl (lv_at hl 1 rfl) ?_
      refine pw_get (C := RX6) (T := TX6) (N := 5) hx hb hts hin6 hown hK hMO rfl 2 (by decide) lk_50 rfl rfl dX4_weigh_59 ?_
      refine pw_icmp_ge (tgt := 105) hx hb dX4_weigh_62 (by decide) (fun c_62 => ?_) (fun c_62 => absurd c_62 (by omega))
      refine lv_aload_n hx hb dX4_weigh_105 rfl (lv_at hl 0 rfl) ?_
      refine pw_get (C := RX4) (T := TX4) (N := 2) hx hb hts hin4 hown hK hG rfl 0 (by decide) lk_14 rfl rfl dX4_weigh_106 ?_
      refine pw_callVv (As := []) (rest := []) ⟨hx, hb, hml, hown, hts⟩ (c_settle l D E (g + 1) 24 f 0 0 (by omega) (fun j _ => by have := hfb j; omega) (by rw [hwv]; exact hv1) (by rw [hwv]; exact hv2)) (cwV 0 hts gX4_weigh_X8_settle rfl rfl rfl (by decide +kernel) ⟨Nat.le_of_ble_eq_true rfl, Nat.le_of_ble_eq_true rfl⟩) hK hR.1 rfl hR rfl hl.1 rfl (Nat.le_of_ble_eq_true rfl) dX4_weigh_109 ⟨Nat.zero_le _, Nat.zero_le _⟩ hS (fun q h => by (try dsimp only at h); (try dsimp only); omega) (fun H1 locs1 hW hz1 hk1 hS => ?_)
      have hG := hG.k (hk1 _ hG.lt (by (try dsimp only); omega))
      have hMO := hMO.k (hk1 _ hMO.lt (by (try dsimp only); omega))
      have hM := hM.k (fun q h1 h2 h3 => (hk1 _ h3 (by (try dsimp only); omega)))
      have hAO := hAO.k (hk1 _ hAO.lt (by (try dsimp only); omega))
      have hAW := hAW.k (hk1 _ hAW.lt (by (try dsimp only); omega))
      have hRO := hRO.k (hk1 _ hRO.lt (by (try dsimp only); omega))
      have hRQ := hRQ.k (hk1 _ hRQ.lt (by (try dsimp only); omega))
      have hRW := hRW.k (fun q h1 h2 h3 => (hk1 _ h3 (by (try dsimp only); omega)))
      rw [hwv] at hW
      exact pw_vret hx hb hr hlocks hS ⟨hG, hW⟩ dX4_weigh_112
    | succ k ih =>
      intro t f H locs ls ht hwv hfb hG hR hM hRW hS hl
      have hMO := hM.1
      have hAO := (hM.2.2.2 i hi).1
      have hAW := (hM.2.2.2 i hi).2
      have hRO := hRW.1
      have hRQ := hRW.2.1
      have hwt := hw6 t (by omega)
      have hct := gct_b hok hi (show t < 6 by omega)
      have hWt := hRW.2.2.1 t (by omega)
      have hvt := Nat.lt_of_lt_of_le hWt.b (bp_mono hn)
      refine lv_iload hx hb dX4_weigh_56 (lv_at hl 4 rfl) ?_
      refine lv_aload_n hx hb dX4_weigh_58 rfl (lv_at hl 1 rfl) ?_
      refine pw_get (C := RX6) (T := TX6) (N := 5) hx hb hts hin6 hown hK hMO rfl 2 (by decide) lk_50 rfl rfl dX4_weigh_59 ?_
      refine pw_icmp_ge (tgt := 105) hx hb dX4_weigh_62 (by decide) (fun c_62 => absurd c_62 (by omega)) (fun c_62 => ?_)
      refine lv_aload_n hx hb dX4_weigh_65 rfl (lv_at hl 0 rfl) ?_
      refine pw_get (C := RX4) (T := TX4) (N := 2) hx hb hts hin4 hown hK hG rfl 0 (by decide) lk_14 rfl rfl dX4_weigh_66 ?_
      refine lv_aload_n hx hb dX4_weigh_69 rfl (lv_at hl 3 rfl) ?_
      refine pw_get (C := RX7) (T := TX7) (N := 2) hx hb hts hin7 hown hK hRO rfl 0 (by decide) lk_53 rfl rfl dX4_weigh_70 ?_
      refine lv_iload hx hb dX4_weigh_73 (lv_at hl 4 rfl) ?_
      refine pw_qald hx hb hK hRQ rfl (t) rfl (by omega) (by omega) rfl dX4_weigh_75 ?_
      refine lv_aload_n hx hb dX4_weigh_76 rfl (lv_at hl 2 rfl) ?_
      refine pw_get (C := RX0) (T := TX0) (N := 4) hx hb hts hin0 hown hK hAO rfl 2 (by decide) lk_24 rfl rfl dX4_weigh_77 ?_
      refine pw_i2l hx hb dX4_weigh_80 ?_
      refine lv_aload_n hx hb dX4_weigh_81 rfl (lv_at hl 1 rfl) ?_
      refine pw_get (C := RX6) (T := TX6) (N := 5) hx hb hts hin6 hown hK hMO rfl 3 (by decide) lk_56 rfl rfl dX4_weigh_82 ?_
      refine pw_i2l hx hb dX4_weigh_85 ?_
      refine pw_lmul hx hb dX4_weigh_86 ?_
      refine lv_aload_n hx hb dX4_weigh_87 rfl (lv_at hl 2 rfl) ?_
      refine pw_get (C := RX0) (T := TX0) (N := 4) hx hb hts hin0 hown hK hAO rfl 0 (by decide) lk_59 rfl rfl dX4_weigh_88 ?_
      refine lv_iload hx hb dX4_weigh_91 (lv_at hl 4 rfl) ?_
      refine pw_iald hx hb hK hAW (t) rfl (by omega) (by omega) dX4_weigh_93 ?_
      refine pw_asi ((mW σ i (t) : Int)) rfl ?_
      refine pw_i2l hx hb dX4_weigh_94 ?_
      refine pw_lmul hx hb dX4_weigh_95 ?_
      refine pw_asl (gct σ i t) rfl ?_
      refine pw_callVv (As := [.ref (r + 2 + 2 * t), .long (lI (gct σ i t))]) (rest := []) ⟨hx, hb, hml, hown, hts⟩ (c_add l D E (g + 1) 24 (r + 2 + 2 * t) n f 0 0 (v t) (gct σ i t) (by omega) (by omega) (by omega)) (cwV 2 hts gX4_weigh_X8_add rfl rfl rfl (by decide +kernel) ⟨Nat.le_of_ble_eq_true rfl, Nat.le_of_ble_eq_true rfl⟩) hK hR.1 rfl ⟨hR, hWt⟩ rfl hl.1 rfl (Nat.le_of_ble_eq_true rfl) dX4_weigh_96 ⟨Nat.zero_le _, Nat.zero_le _⟩ hS (fun q h => by (try dsimp only at h); (try dsimp only); omega) (fun H1 locs1 hR hz1 hk1 hS => ?_)
      have hG := hG.k (hk1 _ hG.lt (by (try dsimp only); omega))
      have hMO := hMO.k (hk1 _ hMO.lt (by (try dsimp only); omega))
      have hM := hM.k (fun q h1 h2 h3 => (hk1 _ h3 (by (try dsimp only); omega)))
      have hAO := hAO.k (hk1 _ hAO.lt (by (try dsimp only); omega))
      have hAW := hAW.k (hk1 _ hAW.lt (by (try dsimp only); omega))
      have hRO := hRO.k (hk1 _ hRO.lt (by (try dsimp only); omega))
      have hRQ := hRQ.k (hk1 _ hRQ.lt (by (try dsimp only); omega))
      have hRW := hRW.k (fun q h1 h2 h3 => (hk1 _ h3 (by (try dsimp only); omega)))
      refine lv_iinc (v := iI (((t + 1 : Nat) : Int))) (lv' := [(4, .int (iI (((t + 1 : Nat) : Int)))), (0, .ref (g)), (1, .ref (m0)), (2, .ref (m0 + 3 + 2 * i)), (3, .ref (r))]) hx hb dX4_weigh_99 hl (k := 4) rfl (by show iI _ + iI _ = _; exact (iI_add _ _).trans (by first | rfl | (congr 1; omega))) (by decide) rfl (fun ls hl => ?_)
      refine lv_goto (tgt := 56) hx hb dX4_weigh_102 (by decide) ?_
      exact ih (t + 1) _ _ _ _ (by omega) (by rw [wv_lin, hwv, wv_wdig hvt]; show _ = b * gc0 σ i + (gsum σ i v t + v t * gct σ i t); rw [Int.mul_comm (gct σ i t)]; omega) (fun j => by have h1 := hfb j; have h2 := dig_b hct (v t) j; omega) hG hR hM hRW hS (lv_sub hl [1, 2, 3, 4, 0] rfl)
  refine lv_aload_n hx hb dX4_weigh_0 rfl (lv_at hl 0 rfl) ?_
  refine lv_aload_n hx hb dX4_weigh_1 rfl (lv_at hl 2 rfl) ?_
  refine pw_get (C := RX0) (T := TX0) (N := 4) hx hb hts hin0 hown hK hAO rfl 2 (by decide) lk_24 rfl rfl dX4_weigh_2 ?_
  refine lv_aload_n hx hb dX4_weigh_5 rfl (lv_at hl 1 rfl) ?_
  refine pw_get (C := RX6) (T := TX6) (N := 5) hx hb hts hin6 hown hK hMO rfl 4 (by decide) lk_29 rfl rfl dX4_weigh_6 ?_
  refine pw_imul hx hb dX4_weigh_9 ?_
  refine lv_aload_n hx hb dX4_weigh_10 rfl (lv_at hl 2 rfl) ?_
  refine pw_get (C := RX0) (T := TX0) (N := 4) hx hb hts hin0 hown hK hAO rfl 3 (by decide) lk_34 rfl rfl dX4_weigh_11 ?_
  refine pw_imul hx hb dX4_weigh_14 ?_
  refine pw_asi (gsc σ i) rfl ?_
  refine pw_put (C := RX4) (T := TX4) (N := 2) hx hb hts hin4 tyX4 tyX4_ok nmX4 hown hK hG hS (by (try dsimp only); omega) rfl 1 (by decide) lk_20 rfl rfl rfl rfl (by show _ < 2; decide) dX4_weigh_15 (fun H1 locs1 hnew hz1 oq hS => ?_)
  have hR := hR.k (oq _ (by omega)) (oq _ (by omega))
  have hMO := hMO.k (oq _ (by omega))
  have hM := hM.k (fun q h1 h2 h3 => (oq _ (by omega)))
  have hAO := hAO.k (oq _ (by omega))
  have hAW := hAW.k (oq _ (by omega))
  have hRO := hRO.k (oq _ (by omega))
  have hRQ := hRQ.k (oq _ (by omega))
  have hRW := hRW.k (fun q h1 h2 h3 => (oq _ (by omega)))
  have hG : OA D (g) 4 [.ref (g + 1), .int (iI (gsc σ i))] H1 := hnew
  clear hnew oq hz1
  refine lv_aload_n hx hb dX4_weigh_18 rfl (lv_at hl 0 rfl) ?_
  refine pw_get (C := RX4) (T := TX4) (N := 2) hx hb hts hin4 hown hK hG rfl 0 (by decide) lk_14 rfl rfl dX4_weigh_19 ?_
  refine pw_callVv (As := []) (rest := []) ⟨hx, hb, hml, hown, hts⟩ (c_clear l D E (g + 1) 24 (wdig v0) k0 v0.sign (by omega)) (cwV 0 hts gX4_weigh_X8_clear rfl rfl rfl (by decide +kernel) ⟨Nat.le_of_ble_eq_true rfl, Nat.le_of_ble_eq_true rfl⟩) hK hR.1 rfl hR rfl hl.1 rfl (Nat.le_of_ble_eq_true rfl) dX4_weigh_22 ⟨Nat.zero_le _, Nat.zero_le _⟩ hS (fun q h => by (try dsimp only at h); (try dsimp only); omega) (fun H1 locs1 hR hz1 hk1 hS => ?_)
  have hG := hG.k (hk1 _ hG.lt (by (try dsimp only); omega))
  have hMO := hMO.k (hk1 _ hMO.lt (by (try dsimp only); omega))
  have hM := hM.k (fun q h1 h2 h3 => (hk1 _ h3 (by (try dsimp only); omega)))
  have hAO := hAO.k (hk1 _ hAO.lt (by (try dsimp only); omega))
  have hAW := hAW.k (hk1 _ hAW.lt (by (try dsimp only); omega))
  have hRO := hRO.k (hk1 _ hRO.lt (by (try dsimp only); omega))
  have hRQ := hRQ.k (hk1 _ hRQ.lt (by (try dsimp only); omega))
  have hRW := hRW.k (fun q h1 h2 h3 => (hk1 _ h3 (by (try dsimp only); omega)))
  refine lv_aload_n hx hb dX4_weigh_25 rfl (lv_at hl 0 rfl) ?_
  refine pw_get (C := RX4) (T := TX4) (N := 2) hx hb hts hin4 hown hK hG rfl 0 (by decide) lk_14 rfl rfl dX4_weigh_26 ?_
  refine lv_aload_n hx hb dX4_weigh_29 rfl (lv_at hl 3 rfl) ?_
  refine pw_get (C := RX7) (T := TX7) (N := 2) hx hb hts hin7 hown hK hRO rfl 1 (by decide) lk_40 rfl rfl dX4_weigh_30 ?_
  refine lv_aload_n hx hb dX4_weigh_33 rfl (lv_at hl 2 rfl) ?_
  refine pw_get (C := RX0) (T := TX0) (N := 4) hx hb hts hin0 hown hK hAO rfl 1 (by decide) lk_44 rfl rfl dX4_weigh_34 ?_
  refine pw_i2l hx hb dX4_weigh_37 ?_
  refine lv_aload_n hx hb dX4_weigh_38 rfl (lv_at hl 1 rfl) ?_
  refine pw_get (C := RX6) (T := TX6) (N := 5) hx hb hts hin6 hown hK hMO rfl 4 (by decide) lk_29 rfl rfl dX4_weigh_39 ?_
  refine pw_i2l hx hb dX4_weigh_42 ?_
  refine pw_lmul hx hb dX4_weigh_43 ?_
  refine lv_aload_n hx hb dX4_weigh_44 rfl (lv_at hl 2 rfl) ?_
  refine pw_get (C := RX0) (T := TX0) (N := 4) hx hb hts hin0 hown hK hAO rfl 3 (by decide) lk_34 rfl rfl dX4_weigh_45 ?_
  refine pw_i2l hx hb dX4_weigh_48 ?_
  refine pw_lmul hx hb dX4_weigh_49 ?_
  refine pw_asl (gc0 σ i) rfl ?_
  have hWb := hRW.2.2.2
  have hbb := Nat.lt_of_lt_of_le hWb.b (bp_mono hn)
  refine pw_callVv (As := [.ref (r + 14), .long (lI (gc0 σ i))]) (rest := []) ⟨hx, hb, hml, hown, hts⟩ (c_add l D E (g + 1) 24 (r + 14) n (fun _ => 0) 0 0 b (gc0 σ i) (by omega) (by omega) (by omega)) (cwV 2 hts gX4_weigh_X8_add rfl rfl rfl (by decide +kernel) ⟨Nat.le_of_ble_eq_true rfl, Nat.le_of_ble_eq_true rfl⟩) hK hR.1 rfl ⟨hR, hWb⟩ rfl hl.1 rfl (Nat.le_of_ble_eq_true rfl) dX4_weigh_50 ⟨Nat.zero_le _, Nat.zero_le _⟩ hS (fun q h => by (try dsimp only at h); (try dsimp only); omega) (fun H1 locs1 hR hz1 hk1 hS => ?_)
  have hG := hG.k (hk1 _ hG.lt (by (try dsimp only); omega))
  have hMO := hMO.k (hk1 _ hMO.lt (by (try dsimp only); omega))
  have hM := hM.k (fun q h1 h2 h3 => (hk1 _ h3 (by (try dsimp only); omega)))
  have hAO := hAO.k (hk1 _ hAO.lt (by (try dsimp only); omega))
  have hAW := hAW.k (hk1 _ hAW.lt (by (try dsimp only); omega))
  have hRO := hRO.k (hk1 _ hRO.lt (by (try dsimp only); omega))
  have hRQ := hRQ.k (hk1 _ hRQ.lt (by (try dsimp only); omega))
  have hRW := hRW.k (fun q h1 h2 h3 => (hk1 _ h3 (by (try dsimp only); omega)))
  refine pw_iconst hx hb dX4_weigh_53 ?_
  refine lv_istore (lv' := [(4, .int (iI (0))), (0, .ref (g)), (1, .ref (m0)), (2, .ref (m0 + 3 + 2 * i)), (3, .ref (r))]) hx hb dX4_weigh_54 hl (by decide) rfl (fun ls hl => ?_)
  exact loop (mN σ) 0 _ _ _ _ (by omega) (by rw [wv_lin, wv_zero, wv_wdig hbb]; show _ = b * gc0 σ i + 0; rw [Int.mul_comm]; omega) (fun j => by have h2 := dig_b hc0 b j; omega) hG hR hM hRW hS (lv_sub hl [1, 2, 3, 4, 0] rfl)
/-- the chooser's cells: best and rival change places -/
def CH (D : va_G) (E : Nat → ClassId) (c0 gb gr : Nat) (vb sb vr sr : Int) (H : Heap) : Prop := OA D c0 1 [.ref gb, .ref gr, .ref (c0 + 7)] H ∧ (gb = c0 + 1 ∧ gr = c0 + 4 ∨ gb = c0 + 4 ∧ gr = c0 + 1) ∧ GN D E gb vb sb H ∧ GN D E gr vr sr H ∧ ∃ w, WH D E (c0 + 7) 24 w H
theorem CH.lt {D : va_G} {E : Nat → ClassId} {c0 gb gr : Nat} {vb sb vr sr : Int} {H : Heap} (h : CH D E c0 gb gr vb sb vr sr H) : c0 + 8 < H.size := by
  obtain ⟨_, _, _, _, w, hw⟩ := h
  have := hw.lt
  omega
theorem CH.k {D : va_G} {E : Nat → ClassId} {c0 gb gr : Nat} {vb sb vr sr : Int} {H H1 : Heap} (h : CH D E c0 gb gr vb sb vr sr H) (hq : ∀ q, c0 ≤ q → q ≤ c0 + 8 → q < H.size → H1[q]? = H[q]?) : CH D E c0 gb gr vb sb vr sr H1 := by
  have hl := h.lt
  obtain ⟨h0, h1, h2, h3, w, hw⟩ := h
  exact ⟨h0.k (hq _ (by omega) (by omega) (by omega)), h1, h2.k (fun q a b c => hq q (by omega) (by omega) c), h3.k (fun q a b c => hq q (by omega) (by omega) c), w, hw.k (hq _ (by omega) (by omega) (by omega)) (hq _ (by omega) (by omega) (by omega))⟩
set_option maxHeartbeats 4000000 in
set_option maxRecDepth 100000 in
/-- rivalIsMore() -/
theorem c_rivalIsMore (l : Launch) (D : va_G) (E : Nat → ClassId) (c0 gb gr : Nat) (vb sb vr sr : Int) (hb0 : vb.natAbs < 1000000 ^ 23) (hr0 : vr.natAbs < 1000000 ^ 23) (hsb : 0 ≤ sb ∧ sb ≤ 48000) (hsr : 0 ≤ sr ∧ sr ≤ 48000) : pw_M rvI l D E yX1_rivalIsMore wsX1_rivalIsMore ({ frames := 2, cells := 0, slots := 0, locals := 65 } : Room) [.ref (c0)] (fun H => CH D E c0 gb gr vb sb vr sr H) (fun z H => (z = 0 ∨ z = 1) ∧ (z = 1 ↔ vb * sr < vr * sb) ∧ CH D E c0 gb gr vb sb vr sr H) (fun q => c0 + 7 ≤ q ∧ q ≤ c0 + 8) (0) (0) := by
  refine pw_of (cc := cX1_rivalIsMore) (maxL := 1) (ret := (some .boolean)) (by decide +kernel) rfl (Nat.le_of_ble_eq_true rfl) ?_
  intro p e s m args below meth c hx hb hr hml hts hown hlocks hini hK ⟨hO, hgg, ⟨hGb, hWb⟩, ⟨hGr, hWr⟩, w, hWg⟩ ls hl
  have hown : s.vm.findClass RX1 = some m.cls := hown
  have hl : lv_has ls 1 [(0, .ref (c0))] := hl
  have hS : va_S (fun q => c0 + 7 ≤ q ∧ q ≤ c0 + 8) s.heap s.heap [] := va_S.rf
  have lk_12 := hts (.fieldLink RX1 12 "PolicyWorks$Chooser" "best" "LPolicyWorks$Gain;") (by decide +kernel)
  have lk_18 := hts (.fieldLink RX1 18 "PolicyWorks$Chooser" "rival" "LPolicyWorks$Gain;") (by decide +kernel)
  have lk_26 := hts (.fieldLink RX1 26 "PolicyWorks$Chooser" "gap" "LPolicyWorks$Whole;") (by decide +kernel)
  have lk_51 := hts (.fieldLink RX1 51 "PolicyWorks$Gain" "above" "LPolicyWorks$Whole;") (by decide +kernel)
  have lk_54 := hts (.fieldLink RX1 54 "PolicyWorks$Gain" "scale" "I") (by decide +kernel)
  have lk_65 := hts (.fieldLink RX1 65 "PolicyWorks$Whole" "sign" "I") (by decide +kernel)
  have hin1 : ∀ w ∈ wsX10, w ∈ wsX1_rivalIsMore := by decide +kernel
  have hin4 : ∀ w ∈ wsX40, w ∈ wsX1_rivalIsMore := by decide +kernel
  have hin8 : ∀ w ∈ wsX80, w ∈ wsX1_rivalIsMore := by decide +kernel
  have hbnd : ((vr * sb + -sr * vb).natAbs) < 1000000 ^ 24 := by
    have h1 : (vr * sb).natAbs ≤ 1000000 ^ 23 * 48000 := by rw [Int.natAbs_mul]; exact Nat.mul_le_mul (by omega) (by omega)
    have h2 : (-sr * vb).natAbs ≤ 48000 * 1000000 ^ 23 := by rw [Int.natAbs_mul]; exact Nat.mul_le_mul (by omega) (by omega)
    have h3 : 1000000 ^ 24 = 1000000 * 1000000 ^ 23 := bp_s 23
    omega
  have hbi := int_lt hbnd
  have e23 := bp_mono (show 23 ≤ 24 by omega)
  obtain ⟨k0, hR⟩ := hWg.r
  have ewv : wv (fun j => (fun j => 0 + sb * wdig vr j) j + -sr * wdig vb j) 24 = vr * sb + -sr * vb := by
    rw [wv_lin, wv_lin, wv_zero, wv_wdig (Nat.lt_of_lt_of_le hr0 e23), wv_wdig (Nat.lt_of_lt_of_le hb0 e23), Int.mul_comm sb]
    omega
  have hfb : ∀ j, -9000000000000000000 ≤ (fun j => (fun j => 0 + sb * wdig vr j) j + -sr * wdig vb j) j ∧ (fun j => (fun j => 0 + sb * wdig vr j) j + -sr * wdig vb j) j ≤ 9000000000000000000 := fun j => by
    have h1 := dig_b (c := sb) (M := 48000) (by omega) vr j
    have h2 := dig_b (c := -sr) (M := 48000) (by omega) vb j
    dsimp only
    omega
  refine lv_aload_n hx hb dX1_rivalIsMore_0 rfl (lv_at hl 0 rfl) ?_
  refine pw_get (C := RX1) (T := TX1) (N := 3) hx hb hts hin1 hown hK hO rfl 2 (by decide) lk_26 rfl rfl dX1_rivalIsMore_1 ?_
  refine pw_callVv (As := []) (rest := []) ⟨hx, hb, hml, hown, hts⟩ (c_clear l D E (c0 + 7) 24 (wdig w) k0 w.sign (by omega)) (cwV 0 hts gX1_rivalIsMore_X8_clear rfl rfl rfl (by decide +kernel) ⟨Nat.le_of_ble_eq_true rfl, Nat.le_of_ble_eq_true rfl⟩) hK hR.1 rfl hR rfl hl.1 rfl (Nat.le_of_ble_eq_true rfl) dX1_rivalIsMore_4 ⟨Nat.zero_le _, Nat.zero_le _⟩ hS (fun q h => by (try dsimp only at h); (try dsimp only); omega) (fun H1 locs1 hR hz1 hk1 hS => ?_)
  have hO := hO.k (hk1 _ hO.lt (by (try dsimp only); omega))
  have hGb := hGb.k (hk1 _ hGb.lt (by (try dsimp only); omega))
  have hWb := hWb.k (hk1 _ (by have := hWb.lt; omega) (by (try dsimp only); omega)) (hk1 _ hWb.lt (by (try dsimp only); omega))
  have hGr := hGr.k (hk1 _ hGr.lt (by (try dsimp only); omega))
  have hWr := hWr.k (hk1 _ (by have := hWr.lt; omega) (by (try dsimp only); omega)) (hk1 _ hWr.lt (by (try dsimp only); omega))
  refine lv_aload_n hx hb dX1_rivalIsMore_7 rfl (lv_at hl 0 rfl) ?_
  refine pw_get (C := RX1) (T := TX1) (N := 3) hx hb hts hin1 hown hK hO rfl 2 (by decide) lk_26 rfl rfl dX1_rivalIsMore_8 ?_
  refine lv_aload_n hx hb dX1_rivalIsMore_11 rfl (lv_at hl 0 rfl) ?_
  refine pw_get (C := RX1) (T := TX1) (N := 3) hx hb hts hin1 hown hK hO rfl 1 (by decide) lk_18 rfl rfl dX1_rivalIsMore_12 ?_
  refine pw_get (C := RX4) (T := TX4) (N := 2) hx hb hts hin4 hown hK hGr rfl 0 (by decide) lk_51 rfl rfl dX1_rivalIsMore_15 ?_
  refine lv_aload_n hx hb dX1_rivalIsMore_18 rfl (lv_at hl 0 rfl) ?_
  refine pw_get (C := RX1) (T := TX1) (N := 3) hx hb hts hin1 hown hK hO rfl 0 (by decide) lk_12 rfl rfl dX1_rivalIsMore_19 ?_
  refine pw_get (C := RX4) (T := TX4) (N := 2) hx hb hts hin4 hown hK hGb rfl 1 (by decide) lk_54 rfl rfl dX1_rivalIsMore_22 ?_
  refine pw_i2l hx hb dX1_rivalIsMore_25 ?_
  refine pw_callVv (As := [.ref (gr + 1), .long (lI (sb))]) (rest := []) ⟨hx, hb, hml, hown, hts⟩ (c_add l D E (c0 + 7) 24 (gr + 1) 24 (fun _ => 0) 0 0 vr sb (by omega) (by omega) (by omega)) (cwV 2 hts gX1_rivalIsMore_X8_add rfl rfl rfl (by decide +kernel) ⟨Nat.le_of_ble_eq_true rfl, Nat.le_of_ble_eq_true rfl⟩) hK hR.1 rfl ⟨hR, hWr⟩ rfl hl.1 rfl (Nat.le_of_ble_eq_true rfl) dX1_rivalIsMore_26 ⟨Nat.zero_le _, Nat.zero_le _⟩ hS (fun q h => by (try dsimp only at h); (try dsimp only); omega) (fun H1 locs1 hR hz1 hk1 hS => ?_)
  have hO := hO.k (hk1 _ hO.lt (by (try dsimp only); omega))
  have hGb := hGb.k (hk1 _ hGb.lt (by (try dsimp only); omega))
  have hWb := hWb.k (hk1 _ (by have := hWb.lt; omega) (by (try dsimp only); omega)) (hk1 _ hWb.lt (by (try dsimp only); omega))
  have hGr := hGr.k (hk1 _ hGr.lt (by (try dsimp only); omega))
  have hWr := hWr.k (hk1 _ (by have := hWr.lt; omega) (by (try dsimp only); omega)) (hk1 _ hWr.lt (by (try dsimp only); omega))
  refine lv_aload_n hx hb dX1_rivalIsMore_29 rfl (lv_at hl 0 rfl) ?_
  refine pw_get (C := RX1) (T := TX1) (N := 3) hx hb hts hin1 hown hK hO rfl 2 (by decide) lk_26 rfl rfl dX1_rivalIsMore_30 ?_
  refine lv_aload_n hx hb dX1_rivalIsMore_33 rfl (lv_at hl 0 rfl) ?_
  refine pw_get (C := RX1) (T := TX1) (N := 3) hx hb hts hin1 hown hK hO rfl 0 (by decide) lk_12 rfl rfl dX1_rivalIsMore_34 ?_
  refine pw_get (C := RX4) (T := TX4) (N := 2) hx hb hts hin4 hown hK hGb rfl 0 (by decide) lk_51 rfl rfl dX1_rivalIsMore_37 ?_
  refine lv_aload_n hx hb dX1_rivalIsMore_40 rfl (lv_at hl 0 rfl) ?_
  refine pw_get (C := RX1) (T := TX1) (N := 3) hx hb hts hin1 hown hK hO rfl 1 (by decide) lk_18 rfl rfl dX1_rivalIsMore_41 ?_
  refine pw_get (C := RX4) (T := TX4) (N := 2) hx hb hts hin4 hown hK hGr rfl 1 (by decide) lk_54 rfl rfl dX1_rivalIsMore_44 ?_
  refine pw_ineg hx hb dX1_rivalIsMore_47 ?_
  refine pw_i2l hx hb dX1_rivalIsMore_48 ?_
  refine pw_callVv (As := [.ref (gb + 1), .long (lI (-(sr)))]) (rest := []) ⟨hx, hb, hml, hown, hts⟩ (c_add l D E (c0 + 7) 24 (gb + 1) 24 (fun j => 0 + sb * wdig vr j) 0 0 vb (-sr) (by omega) (by omega) (by omega)) (cwV 2 hts gX1_rivalIsMore_X8_add rfl rfl rfl (by decide +kernel) ⟨Nat.le_of_ble_eq_true rfl, Nat.le_of_ble_eq_true rfl⟩) hK hR.1 rfl ⟨hR, hWb⟩ rfl hl.1 rfl (Nat.le_of_ble_eq_true rfl) dX1_rivalIsMore_49 ⟨Nat.zero_le _, Nat.zero_le _⟩ hS (fun q h => by (try dsimp only at h); (try dsimp only); omega) (fun H1 locs1 hR hz1 hk1 hS => ?_)
  have hO := hO.k (hk1 _ hO.lt (by (try dsimp only); omega))
  have hGb := hGb.k (hk1 _ hGb.lt (by (try dsimp only); omega))
  have hWb := hWb.k (hk1 _ (by have := hWb.lt; omega) (by (try dsimp only); omega)) (hk1 _ hWb.lt (by (try dsimp only); omega))
  have hGr := hGr.k (hk1 _ hGr.lt (by (try dsimp only); omega))
  have hWr := hWr.k (hk1 _ (by have := hWr.lt; omega) (by (try dsimp only); omega)) (hk1 _ hWr.lt (by (try dsimp only); omega))
  refine lv_aload_n hx hb dX1_rivalIsMore_52 rfl (lv_at hl 0 rfl) ?_
  refine pw_get (C := RX1) (T := TX1) (N := 3) hx hb hts hin1 hown hK hO rfl 2 (by decide) lk_26 rfl rfl dX1_rivalIsMore_53 ?_
  refine pw_callVv (As := []) (rest := []) ⟨hx, hb, hml, hown, hts⟩ (c_settle l D E (c0 + 7) 24 (fun j => (fun j => 0 + sb * wdig vr j) j + -sr * wdig vb j) 0 0 (by omega) (fun j _ => hfb j) (by rw [ewv]; exact hbi.1) (by rw [ewv]; exact hbi.2)) (cwV 0 hts gX1_rivalIsMore_X8_settle rfl rfl rfl (by decide +kernel) ⟨Nat.le_of_ble_eq_true rfl, Nat.le_of_ble_eq_true rfl⟩) hK hR.1 rfl hR rfl hl.1 rfl (Nat.le_of_ble_eq_true rfl) dX1_rivalIsMore_56 ⟨Nat.zero_le _, Nat.zero_le _⟩ hS (fun q h => by (try dsimp only at h); (try dsimp only); omega) (fun H1 locs1 hW hz1 hk1 hS => ?_)
  have hO := hO.k (hk1 _ hO.lt (by (try dsimp only); omega))
  have hGb := hGb.k (hk1 _ hGb.lt (by (try dsimp only); omega))
  have hWb := hWb.k (hk1 _ (by have := hWb.lt; omega) (by (try dsimp only); omega)) (hk1 _ hWb.lt (by (try dsimp only); omega))
  have hGr := hGr.k (hk1 _ hGr.lt (by (try dsimp only); omega))
  have hWr := hWr.k (hk1 _ (by have := hWr.lt; omega) (by (try dsimp only); omega)) (hk1 _ hWr.lt (by (try dsimp only); omega))
  rw [ewv] at hW
  obtain ⟨kg, ⟨hOg, hLg⟩, hkg⟩ := hW
  have hsg := sgn_i (vr * sb + -sr * vb)
  refine lv_aload_n hx hb dX1_rivalIsMore_59 rfl (lv_at hl 0 rfl) ?_
  refine pw_get (C := RX1) (T := TX1) (N := 3) hx hb hts hin1 hown hK hO rfl 2 (by decide) lk_26 rfl rfl dX1_rivalIsMore_60 ?_
  refine pw_get (C := RX8) (T := TX8) (N := 3) hx hb hts hin8 hown hK hOg rfl 2 (by decide) lk_65 rfl rfl dX1_rivalIsMore_63 ?_
  refine pw_if_le (tgt := 73) hx hb dX1_rivalIsMore_66 (by decide) (fun c_66 => ?_) (fun c_66 => ?_) (by rw [hsg]; split <;> (try split) <;> omega) (by rw [hsg]; split <;> (try split) <;> omega)
  · refine pw_iconst hx hb dX1_rivalIsMore_73 ?_
    have hneg : -sr * vb = -(vb * sr) := by rw [Int.neg_mul, Int.mul_comm]
    have hiff : (0 = (1 : Int)) ↔ vb * sr < vr * sb := by
      rw [hsg] at c_66
      split at c_66 <;> (try split at c_66) <;> omega
    exact pw_zret hx hb hr hlocks hS (by omega) ⟨by omega, hiff, hO, hgg, ⟨hGb, hWb⟩, ⟨hGr, hWr⟩, _, ⟨kg, ⟨hOg, hLg⟩, hkg⟩⟩ dX1_rivalIsMore_74
  · refine pw_iconst hx hb dX1_rivalIsMore_69 ?_
    refine lv_goto (tgt := 74) hx hb dX1_rivalIsMore_70 (by decide) ?_
    have hneg : -sr * vb = -(vb * sr) := by rw [Int.neg_mul, Int.mul_comm]
    have hiff : (1 = (1 : Int)) ↔ vb * sr < vr * sb := by
      rw [hsg] at c_66
      split at c_66 <;> (try split at c_66) <;> omega
    exact pw_zret hx hb hr hlocks hS (by omega) ⟨by omega, hiff, hO, hgg, ⟨hGb, hWb⟩, ⟨hGr, hWr⟩, _, ⟨kg, ⟨hOg, hLg⟩, hkg⟩⟩ dX1_rivalIsMore_74
end
section
/-! the action with the greatest gain -/
abbrev gmore (σ : MS) (v : Nat → Int) (b : Int) (i j : Nat) : Prop := gnum σ j v b * gsc σ i < gnum σ i v b * gsc σ j
def gpick (σ : MS) (st beg : Nat) (v : Nat → Int) (b : Int) : Nat → Nat
  | 0 => beg
  | a + 1 => if a ≠ beg ∧ gmore σ v b (4 * st + a) (4 * st + gpick σ st beg v b a) then a else gpick σ st beg v b a
theorem gpick_lt {σ : MS} {st beg : Nat} {v : Nat → Int} {b : Int} {m : Nat} (hb : beg < m) : ∀ a, a ≤ m → gpick σ st beg v b a < m
  | 0, _ => hb
  | a + 1, h => by
    have ih := gpick_lt (σ := σ) (st := st) (v := v) (b := b) hb a (by omega)
    show (if _ then a else _) < m
    split
    · omega
    · exact ih
set_option maxHeartbeats 4000000 in
set_option maxRecDepth 100000 in
/-- greatest(model, state, begin, row) -/
theorem c_greatest (l : Launch) (D : va_G) (E : Nat → ClassId) (c0 gb gr m0 r n st beg : Nat) (σ : MS) (v : Nat → Int) (b vb0 sb0 vr0 sr0 : Int) (hok : mOK σ) (hst : st < mN σ) (hbeg : beg < mC σ st) (hn : n ≤ 24) (hcr : c0 + 8 < r ∨ r + 15 < c0) (hcm : c0 + 8 < m0 ∨ m0 + 50 < c0) (hbnd : ∀ k, k < mC σ st → (gnum σ (4 * st + k) v b).natAbs < 1000000 ^ 23) : pw_M rvI l D E yX1_greatest wsX1_greatest ({ frames := 3, cells := 0, slots := 0, locals := 89 } : Room) [.ref (c0), .ref (m0), .int (iI ((st : Int))), .int (iI ((beg : Int))), .ref (r)] (fun H => CH D E c0 gb gr vb0 sb0 vr0 sr0 H ∧ MO D E m0 σ H ∧ RW D E r n v b H) (fun z H => z = ((gpick σ st beg v b (mC σ st) : Nat) : Int) ∧ ∃ gb gr vr sr, CH D E c0 gb gr (gnum σ (4 * st + gpick σ st beg v b (mC σ st)) v b) (gsc σ (4 * st + gpick σ st beg v b (mC σ st))) vr sr H) (fun q => c0 ≤ q ∧ q ≤ c0 + 8) (0) (0) := by
  refine pw_of (cc := cX1_greatest) (maxL := 8) (ret := (some .int)) (by decide +kernel) rfl (Nat.le_of_ble_eq_true rfl) ?_
  intro p e s m args below meth c hx hb hr hml hts hown hlocks hini hK ⟨⟨hO, hgg, hGb, hGr, w, hWg⟩, hM, hRW⟩ ls hl
  have hown : s.vm.findClass RX1 = some m.cls := hown
  have hl : lv_has ls 8 [(0, .ref (c0)), (1, .ref (m0)), (2, .int (iI ((st : Int)))), (3, .int (iI ((beg : Int)))), (4, .ref (r))] := hl
  have hS : va_S (fun q => c0 ≤ q ∧ q ≤ c0 + 8) s.heap s.heap [] := va_S.rf
  have lk_12 := hts (.fieldLink RX1 12 "PolicyWorks$Chooser" "best" "LPolicyWorks$Gain;") (by decide +kernel)
  have lk_18 := hts (.fieldLink RX1 18 "PolicyWorks$Chooser" "rival" "LPolicyWorks$Gain;") (by decide +kernel)
  have lk_40 := hts (.fieldLink RX1 40 "PolicyWorks$Model" "actionCounts" "[I") (by decide +kernel)
  have hin1 : ∀ w ∈ wsX10, w ∈ wsX1_greatest := by decide +kernel
  have hin6 : ∀ w ∈ wsX60, w ∈ wsX1_greatest := by decide +kernel
  have hN6 := hok.1
  have hC4 := hok.2.1 st (by omega)
  have e23 := bp_mono (show 23 ≤ 24 by omega)
  have hbi := fun k hk => int_lt (Nat.lt_of_lt_of_le (hbnd k hk) e23)
  have hMO := hM.1
  have hC := hM.2.1
  have loop : ∀ (k a gb gr : Nat) (vr sr w : Int) (H : Heap) (locs : List Loc) (ls : Array Slot), a + k = mC σ st → OA D c0 1 [.ref (gb), .ref (gr), .ref (c0 + 7)] H → (gb = c0 + 1 ∧ gr = c0 + 4 ∨ gb = c0 + 4 ∧ gr = c0 + 1) → GN D E gb (gnum σ (4 * st + gpick σ st beg v b a) v b) (gsc σ (4 * st + gpick σ st beg v b a)) H → GN D E gr vr sr H → WH D E (c0 + 7) 24 w H → MO D E m0 σ H → RW D E r n v b H → va_S (fun q => c0 ≤ q ∧ q ≤ c0 + 8) s.heap H locs → lv_has ls 8 [(0, .ref (c0)), (1, .ref (m0)), (2, .int (iI ((st : Int)))), (3, .int (iI ((beg : Int)))), (4, .ref (r)), (5, .int (iI (((gpick σ st beg v b a : Nat) : Int)))), (6, .int (iI ((a : Int))))] → W p l e ({ frames := 3, cells := 0, slots := 0, locals := 89 } : Room) s m args below meth c H locs (0) (0) (MQ below (pw_Q rvI (fun z H => z = ((gpick σ st beg v b (mC σ st) : Nat) : Int) ∧ ∃ gb gr vr sr, CH D E c0 gb gr (gnum σ (4 * st + gpick σ st beg v b (mC σ st)) v b) (gsc σ (4 * st + gpick σ st beg v b (mC σ st))) vr sr H) (fun q => c0 ≤ q ∧ q ≤ c0 + 8)) args s (0) (0) (fun q => c0 ≤ q ∧ q ≤ c0 + 8)) (F0 m 22 ls []) := by
    intro k
    induction k with
    | zero =>
      intro a gb gr vr sr w H locs ls ha hO hgg hGb hGr hWg hM hRW hS hl
      have hMO := hM.1
      have hC := hM.2.1
      have hpk := gpick_lt (σ := σ) (st := st) (v := v) (b := b) hbeg a (by omega)
      have ea : a = mC σ st := by omega
      refine lv_iload hx hb dX1_greatest_22 (lv_at hl 6 rfl) ?_
      refine lv_aload_n hx hb dX1_greatest_24 rfl (lv_at hl 1 rfl) ?_
      refine pw_get (C := RX6) (T := TX6) (N := 5) hx hb hts hin6 hown hK hMO rfl 0 (by decide) lk_40 rfl rfl dX1_greatest_25 ?_
      refine lv_iload_n hx hb dX1_greatest_28 rfl (lv_at hl 2 rfl) ?_
      refine pw_iald hx hb hK hC (st) rfl (by omega) (by omega) dX1_greatest_29 ?_
      refine pw_asi ((mC σ (st) : Int)) rfl ?_
      refine pw_icmp_ge (tgt := 93) hx hb dX1_greatest_30 (by decide) (fun c_30 => ?_) (fun c_30 => absurd c_30 (by omega))
      refine lv_iload hx hb dX1_greatest_93 (lv_at hl 5 rfl) ?_
      subst ea
      exact pw_iret hx hb hr hlocks hS ⟨rfl, gb, gr, vr, sr, hO, hgg, hGb, hGr, _, hWg⟩ dX1_greatest_95
    | succ k ih =>
      intro a gb gr vr sr w H locs ls ha hO hgg hGb hGr hWg hM hRW hS hl
      have hMO := hM.1
      have hC := hM.2.1
      have hpk := gpick_lt (σ := σ) (st := st) (v := v) (b := b) hbeg a (by omega)
      refine lv_iload hx hb dX1_greatest_22 (lv_at hl 6 rfl) ?_
      refine lv_aload_n hx hb dX1_greatest_24 rfl (lv_at hl 1 rfl) ?_
      refine pw_get (C := RX6) (T := TX6) (N := 5) hx hb hts hin6 hown hK hMO rfl 0 (by decide) lk_40 rfl rfl dX1_greatest_25 ?_
      refine lv_iload_n hx hb dX1_greatest_28 rfl (lv_at hl 2 rfl) ?_
      refine pw_iald hx hb hK hC (st) rfl (by omega) (by omega) dX1_greatest_29 ?_
      refine pw_asi ((mC σ (st) : Int)) rfl ?_
      refine pw_icmp_ge (tgt := 93) hx hb dX1_greatest_30 (by decide) (fun c_30 => absurd c_30 (by omega)) (fun c_30 => ?_)
      refine lv_iload hx hb dX1_greatest_33 (lv_at hl 6 rfl) ?_
      refine lv_iload_n hx hb dX1_greatest_35 rfl (lv_at hl 3 rfl) ?_
      refine pw_icmp_eq (tgt := 87) hx hb dX1_greatest_36 (by decide) (fun c_36 => ?_) (fun c_36 => ?_)
      · refine lv_iinc (v := iI (((a + 1 : Nat) : Int))) (lv' := [(6, .int (iI (((a + 1 : Nat) : Int)))), (0, .ref (c0)), (1, .ref (m0)), (2, .int (iI ((st : Int)))), (3, .int (iI ((beg : Int)))), (4, .ref (r)), (5, .int (iI (((gpick σ st beg v b a : Nat) : Int))))]) hx hb dX1_greatest_87 hl (k := 6) rfl (by show iI _ + iI _ = _; exact (iI_add _ _).trans (by first | rfl | (congr 1; omega))) (by decide) rfl (fun ls hl => ?_)
        refine lv_goto (tgt := 22) hx hb dX1_greatest_90 (by decide) ?_
        have epk : gpick σ st beg v b (a + 1) = gpick σ st beg v b a := by show (if _ then a else _) = _; rw [if_neg (fun h => h.1 (by omega))]
        have hl : lv_has ls 8 [(0, .ref (c0)), (1, .ref (m0)), (2, .int (iI ((st : Int)))), (3, .int (iI ((beg : Int)))), (4, .ref (r)), (5, .int (iI (((gpick σ st beg v b (a + 1) : Nat) : Int)))), (6, .int (iI (((a + 1 : Nat) : Int))))] := by rw [epk]; exact lv_sub hl [1, 2, 3, 4, 5, 6, 0] rfl
        have hGb := hGb
        exact ih (a + 1) gb gr _ _ _ _ _ _ (by omega) hO hgg (by rw [epk]; exact hGb) hGr hWg hM hRW hS hl
      · refine lv_aload_n hx hb dX1_greatest_39 rfl (lv_at hl 0 rfl) ?_
        refine pw_get (C := RX1) (T := TX1) (N := 3) hx hb hts hin1 hown hK hO rfl 1 (by decide) lk_18 rfl rfl dX1_greatest_40 ?_
        refine lv_aload_n hx hb dX1_greatest_43 rfl (lv_at hl 1 rfl) ?_
        refine lv_aload_n hx hb dX1_greatest_44 rfl (lv_at hl 1 rfl) ?_
        refine lv_iload_n hx hb dX1_greatest_45 rfl (lv_at hl 2 rfl) ?_
        refine lv_iload hx hb dX1_greatest_46 (lv_at hl 6 rfl) ?_
        refine pw_callVr (As := [.int (iI ((st : Int))), .int (iI ((a : Int)))]) (rest := [.ref (m0), .ref (gr)]) ⟨hx, hb, hml, hown, hts⟩ (c_find l D E m0 σ st a (by omega) (by omega)) (cwV 2 hts gX1_greatest_X6_find rfl rfl rfl (by decide +kernel) ⟨Nat.le_of_ble_eq_true rfl, Nat.le_of_ble_eq_true rfl⟩) hK hMO rfl hM rfl hl.1 rfl (Nat.le_of_ble_eq_true rfl) dX1_greatest_48 ⟨Nat.zero_le _, Nat.zero_le _⟩ hS (fun q h => h.elim) (fun z H1 locs1 hz hz1 hk1 hS => ?_)
        have hO := hO.k (hk1 _ hO.lt (fun h => h))
        have hGb := hGb.k (fun q h1 h2 h3 => (hk1 _ h3 (fun h => h)))
        have hGr := hGr.k (fun q h1 h2 h3 => (hk1 _ h3 (fun h => h)))
        have hWg := hWg.k (hk1 _ (by have := hWg.lt; omega) (fun h => h)) (hk1 _ hWg.lt (fun h => h))
        have hM := hM.k (fun q h1 h2 h3 => (hk1 _ h3 (fun h => h)))
        have hRW := hRW.k (fun q h1 h2 h3 => (hk1 _ h3 (fun h => h)))
        have hMO := hMO.k (hk1 _ hMO.lt (fun h => h))
        have hC := hC.k (hk1 _ hC.lt (fun h => h))
        subst hz
        refine lv_aload hx hb dX1_greatest_51 (lv_at hl 4 rfl) ?_
        refine pw_callVv (As := [.ref (m0), .ref (m0 + 3 + 2 * (4 * st + a)), .ref (r)]) (rest := []) ⟨hx, hb, hml, hown, hts⟩ (c_weigh l D E gr m0 r n (4 * st + a) σ v b vr sr hok (by omega) hn (by omega) (by omega) (hbi a (by omega)).1 (hbi a (by omega)).2) (cwV 3 hts gX1_greatest_X4_weigh rfl rfl rfl (by decide +kernel) ⟨Nat.le_of_ble_eq_true rfl, Nat.le_of_ble_eq_true rfl⟩) hK hGr.1 rfl ⟨hGr, hM, hRW⟩ rfl hl.1 rfl (Nat.le_of_ble_eq_true rfl) dX1_greatest_53 ⟨Nat.zero_le _, Nat.zero_le _⟩ hS (fun q h => by (try dsimp only at h); (try dsimp only); omega) (fun H1 locs1 hGr hz1 hk1 hS => ?_)
        have hO := hO.k (hk1 _ hO.lt (by (try dsimp only); omega))
        have hGb := hGb.k (fun q h1 h2 h3 => (hk1 _ h3 (by (try dsimp only); omega)))
        have hWg := hWg.k (hk1 _ (by have := hWg.lt; omega) (by (try dsimp only); omega)) (hk1 _ hWg.lt (by (try dsimp only); omega))
        have hM := hM.k (fun q h1 h2 h3 => (hk1 _ h3 (by (try dsimp only); omega)))
        have hRW := hRW.k (fun q h1 h2 h3 => (hk1 _ h3 (by (try dsimp only); omega)))
        have hMO := hMO.k (hk1 _ hMO.lt (by (try dsimp only); omega))
        have hC := hC.k (hk1 _ hC.lt (by (try dsimp only); omega))
        refine lv_aload_n hx hb dX1_greatest_56 rfl (lv_at hl 0 rfl) ?_
        refine pw_callVi (As := []) (rest := []) ⟨hx, hb, hml, hown, hts⟩ (c_rivalIsMore l D E c0 gb gr _ _ _ _ (hbnd (gpick σ st beg v b a) (by omega)) (hbnd a (by omega)) (gsc_b hok (by omega)) (gsc_b hok (by omega))) (cwV 0 hts gX1_greatest_X1_rivalIsMore rfl rfl rfl (by decide +kernel) ⟨Nat.le_of_ble_eq_true rfl, Nat.le_of_ble_eq_true rfl⟩) hK hO rfl ⟨hO, hgg, hGb, hGr, _, hWg⟩ rfl hl.1 rfl (Nat.le_of_ble_eq_true rfl) dX1_greatest_57 ⟨Nat.zero_le _, Nat.zero_le _⟩ hS (fun q h => by (try dsimp only at h); (try dsimp only); omega) (fun z H1 locs1 ⟨hz, hzi, hO, _, hGb, hGr, w2, hWg⟩ hz1 hk1 hS => ?_)
        have hM := hM.k (fun q h1 h2 h3 => (hk1 _ h3 (by (try dsimp only); omega)))
        have hRW := hRW.k (fun q h1 h2 h3 => (hk1 _ h3 (by (try dsimp only); omega)))
        have hMO := hMO.k (hk1 _ hMO.lt (by (try dsimp only); omega))
        have hC := hC.k (hk1 _ hC.lt (by (try dsimp only); omega))
        refine pw_if_eq (tgt := 87) hx hb dX1_greatest_60 (by decide) (fun c_60 => ?_) (fun c_60 => ?_)
        · refine lv_iinc (v := iI (((a + 1 : Nat) : Int))) (lv' := [(6, .int (iI (((a + 1 : Nat) : Int)))), (0, .ref (c0)), (1, .ref (m0)), (2, .int (iI ((st : Int)))), (3, .int (iI ((beg : Int)))), (4, .ref (r)), (5, .int (iI (((gpick σ st beg v b a : Nat) : Int))))]) hx hb dX1_greatest_87 hl (k := 6) rfl (by show iI _ + iI _ = _; exact (iI_add _ _).trans (by first | rfl | (congr 1; omega))) (by decide) rfl (fun ls hl => ?_)
          refine lv_goto (tgt := 22) hx hb dX1_greatest_90 (by decide) ?_
          have epk : gpick σ st beg v b (a + 1) = gpick σ st beg v b a := by show (if _ then a else _) = _; rw [if_neg (fun h => by have := hzi.mpr h.2; omega)]
          have hl : lv_has ls 8 [(0, .ref (c0)), (1, .ref (m0)), (2, .int (iI ((st : Int)))), (3, .int (iI ((beg : Int)))), (4, .ref (r)), (5, .int (iI (((gpick σ st beg v b (a + 1) : Nat) : Int)))), (6, .int (iI (((a + 1 : Nat) : Int))))] := by rw [epk]; exact lv_sub hl [1, 2, 3, 4, 5, 6, 0] rfl
          have hGb := hGb
          exact ih (a + 1) gb gr _ _ _ _ _ _ (by omega) hO hgg (by rw [epk]; exact hGb) hGr hWg hM hRW hS hl
        · refine lv_aload_n hx hb dX1_greatest_63 rfl (lv_at hl 0 rfl) ?_
          refine pw_get (C := RX1) (T := TX1) (N := 3) hx hb hts hin1 hown hK hO rfl 0 (by decide) lk_12 rfl rfl dX1_greatest_64 ?_
          refine lv_astore (lv' := [(7, .ref (gb)), (0, .ref (c0)), (1, .ref (m0)), (2, .int (iI ((st : Int)))), (3, .int (iI ((beg : Int)))), (4, .ref (r)), (5, .int (iI (((gpick σ st beg v b a : Nat) : Int)))), (6, .int (iI ((a : Int))))]) hx hb dX1_greatest_67 hl (by decide) rfl (fun ls hl => ?_)
          refine lv_aload_n hx hb dX1_greatest_69 rfl (lv_at hl 1 rfl) ?_
          refine lv_aload_n hx hb dX1_greatest_70 rfl (lv_at hl 1 rfl) ?_
          refine pw_get (C := RX1) (T := TX1) (N := 3) hx hb hts hin1 hown hK hO rfl 1 (by decide) lk_18 rfl rfl dX1_greatest_71 ?_
          refine pw_put (C := RX1) (T := TX1) (N := 3) hx hb hts hin1 tyX1 tyX1_ok nmX1 hown hK hO hS (by (try dsimp only); omega) rfl 0 (by decide) lk_12 rfl rfl rfl rfl (by show _ < 3; decide) dX1_greatest_74 (fun H1 locs1 hnew hz1 oq hS => ?_)
          have hGb := hGb.k (fun q h1 h2 h3 => (oq _ (by omega)))
          have hGr := hGr.k (fun q h1 h2 h3 => (oq _ (by omega)))
          have hWg := hWg.k (oq _ (by omega)) (oq _ (by omega))
          have hM := hM.k (fun q h1 h2 h3 => (oq _ (by omega)))
          have hRW := hRW.k (fun q h1 h2 h3 => (oq _ (by omega)))
          have hMO := hMO.k (oq _ (by omega))
          have hC := hC.k (oq _ (by omega))
          have hO : OA D (c0) 1 [.ref (gr), .ref (gr), .ref (c0 + 7)] H1 := hnew
          clear hnew oq hz1
          refine lv_aload_n hx hb dX1_greatest_77 rfl (lv_at hl 1 rfl) ?_
          refine lv_aload hx hb dX1_greatest_78 (lv_at hl 0 rfl) ?_
          refine pw_put (C := RX1) (T := TX1) (N := 3) hx hb hts hin1 tyX1 tyX1_ok nmX1 hown hK hO hS (by (try dsimp only); omega) rfl 1 (by decide) lk_18 rfl rfl rfl rfl (by show _ < 3; decide) dX1_greatest_80 (fun H1 locs1 hnew hz1 oq hS => ?_)
          have hGb := hGb.k (fun q h1 h2 h3 => (oq _ (by omega)))
          have hGr := hGr.k (fun q h1 h2 h3 => (oq _ (by omega)))
          have hWg := hWg.k (oq _ (by omega)) (oq _ (by omega))
          have hM := hM.k (fun q h1 h2 h3 => (oq _ (by omega)))
          have hRW := hRW.k (fun q h1 h2 h3 => (oq _ (by omega)))
          have hMO := hMO.k (oq _ (by omega))
          have hC := hC.k (oq _ (by omega))
          have hO : OA D (c0) 1 [.ref (gr), .ref (gb), .ref (c0 + 7)] H1 := hnew
          clear hnew oq hz1
          refine lv_iload hx hb dX1_greatest_83 (lv_at hl 7 rfl) ?_
          refine lv_istore (lv' := [(5, .int (iI ((a : Int)))), (7, .ref (gb)), (0, .ref (c0)), (1, .ref (m0)), (2, .int (iI ((st : Int)))), (3, .int (iI ((beg : Int)))), (4, .ref (r)), (6, .int (iI ((a : Int))))]) hx hb dX1_greatest_85 hl (by decide) rfl (fun ls hl => ?_)
          refine lv_iinc (v := iI (((a + 1 : Nat) : Int))) (lv' := [(6, .int (iI (((a + 1 : Nat) : Int)))), (5, .int (iI ((a : Int)))), (7, .ref (gb)), (0, .ref (c0)), (1, .ref (m0)), (2, .int (iI ((st : Int)))), (3, .int (iI ((beg : Int)))), (4, .ref (r))]) hx hb dX1_greatest_87 hl (k := 7) rfl (by show iI _ + iI _ = _; exact (iI_add _ _).trans (by first | rfl | (congr 1; omega))) (by decide) rfl (fun ls hl => ?_)
          refine lv_goto (tgt := 22) hx hb dX1_greatest_90 (by decide) ?_
          have epk : gpick σ st beg v b (a + 1) = a := by show (if _ then a else _) = _; rw [if_pos ⟨(by omega), hzi.mp (by omega)⟩]
          have hl : lv_has ls 8 [(0, .ref (c0)), (1, .ref (m0)), (2, .int (iI ((st : Int)))), (3, .int (iI ((beg : Int)))), (4, .ref (r)), (5, .int (iI (((gpick σ st beg v b (a + 1) : Nat) : Int)))), (6, .int (iI (((a + 1 : Nat) : Int))))] := by rw [epk]; exact lv_sub hl [3, 4, 5, 6, 7, 1, 0] rfl
          rw [← epk] at hGr
          exact ih (a + 1) gr gb _ _ _ _ _ _ (by omega) hO (by omega) hGr hGb hWg hM hRW hS hl
  refine lv_iload_n hx hb dX1_greatest_0 rfl (lv_at hl 3 rfl) ?_
  refine lv_istore (lv' := [(5, .int (iI ((beg : Int)))), (0, .ref (c0)), (1, .ref (m0)), (2, .int (iI ((st : Int)))), (3, .int (iI ((beg : Int)))), (4, .ref (r))]) hx hb dX1_greatest_1 hl (by decide) rfl (fun ls hl => ?_)
  refine lv_aload_n hx hb dX1_greatest_3 rfl (lv_at hl 1 rfl) ?_
  refine pw_get (C := RX1) (T := TX1) (N := 3) hx hb hts hin1 hown hK hO rfl 0 (by decide) lk_12 rfl rfl dX1_greatest_4 ?_
  refine lv_aload_n hx hb dX1_greatest_7 rfl (lv_at hl 2 rfl) ?_
  refine lv_aload_n hx hb dX1_greatest_8 rfl (lv_at hl 2 rfl) ?_
  refine lv_iload_n hx hb dX1_greatest_9 rfl (lv_at hl 3 rfl) ?_
  refine lv_iload_n hx hb dX1_greatest_10 rfl (lv_at hl 4 rfl) ?_
  refine pw_callVr (As := [.int (iI ((st : Int))), .int (iI ((beg : Int)))]) (rest := [.ref (m0), .ref (gb)]) ⟨hx, hb, hml, hown, hts⟩ (c_find l D E m0 σ st beg (by omega) (by omega)) (cwV 2 hts gX1_greatest_X6_find rfl rfl rfl (by decide +kernel) ⟨Nat.le_of_ble_eq_true rfl, Nat.le_of_ble_eq_true rfl⟩) hK hMO rfl hM rfl hl.1 rfl (Nat.le_of_ble_eq_true rfl) dX1_greatest_11 ⟨Nat.zero_le _, Nat.zero_le _⟩ hS (fun q h => h.elim) (fun z H1 locs1 hz hz1 hk1 hS => ?_)
  have hO := hO.k (hk1 _ hO.lt (fun h => h))
  have hGb := hGb.k (fun q h1 h2 h3 => (hk1 _ h3 (fun h => h)))
  have hGr := hGr.k (fun q h1 h2 h3 => (hk1 _ h3 (fun h => h)))
  have hWg := hWg.k (hk1 _ (by have := hWg.lt; omega) (fun h => h)) (hk1 _ hWg.lt (fun h => h))
  have hM := hM.k (fun q h1 h2 h3 => (hk1 _ h3 (fun h => h)))
  have hRW := hRW.k (fun q h1 h2 h3 => (hk1 _ h3 (fun h => h)))
  have hMO := hMO.k (hk1 _ hMO.lt (fun h => h))
  have hC := hC.k (hk1 _ hC.lt (fun h => h))
  subst hz
  refine lv_aload hx hb dX1_greatest_14 (lv_at hl 5 rfl) ?_
  refine pw_callVv (As := [.ref (m0), .ref (m0 + 3 + 2 * (4 * st + beg)), .ref (r)]) (rest := []) ⟨hx, hb, hml, hown, hts⟩ (c_weigh l D E gb m0 r n (4 * st + beg) σ v b vb0 sb0 hok (by omega) hn (by omega) (by omega) (hbi beg (by omega)).1 (hbi beg (by omega)).2) (cwV 3 hts gX1_greatest_X4_weigh rfl rfl rfl (by decide +kernel) ⟨Nat.le_of_ble_eq_true rfl, Nat.le_of_ble_eq_true rfl⟩) hK hGb.1 rfl ⟨hGb, hM, hRW⟩ rfl hl.1 rfl (Nat.le_of_ble_eq_true rfl) dX1_greatest_16 ⟨Nat.zero_le _, Nat.zero_le _⟩ hS (fun q h => by (try dsimp only at h); (try dsimp only); omega) (fun H1 locs1 hGb hz1 hk1 hS => ?_)
  have hO := hO.k (hk1 _ hO.lt (by (try dsimp only); omega))
  have hGr := hGr.k (fun q h1 h2 h3 => (hk1 _ h3 (by (try dsimp only); omega)))
  have hWg := hWg.k (hk1 _ (by have := hWg.lt; omega) (by (try dsimp only); omega)) (hk1 _ hWg.lt (by (try dsimp only); omega))
  have hM := hM.k (fun q h1 h2 h3 => (hk1 _ h3 (by (try dsimp only); omega)))
  have hRW := hRW.k (fun q h1 h2 h3 => (hk1 _ h3 (by (try dsimp only); omega)))
  have hMO := hMO.k (hk1 _ hMO.lt (by (try dsimp only); omega))
  have hC := hC.k (hk1 _ hC.lt (by (try dsimp only); omega))
  refine pw_iconst hx hb dX1_greatest_19 ?_
  refine lv_istore (lv' := [(6, .int (iI (0))), (5, .int (iI ((beg : Int)))), (0, .ref (c0)), (1, .ref (m0)), (2, .int (iI ((st : Int)))), (3, .int (iI ((beg : Int)))), (4, .ref (r))]) hx hb dX1_greatest_20 hl (by decide) rfl (fun ls hl => ?_)
  exact loop (mC σ st) 0 gb gr _ _ _ _ _ _ (by omega) hO hgg hGb hGr hWg hM hRW hS (lv_sub hl [2, 3, 4, 5, 6, 1, 0] rfl)
theorem nat_dvd_tm (a d : Nat) : ((a : Int).tmod (d : Int) = 0) ↔ d ∣ a := by
  rw [nat_tm]
  constructor
  · intro h
    exact Nat.dvd_of_mod_eq_zero (by omega)
  · intro h
    rw [Nat.mod_eq_zero_of_dvd h]
    rfl
theorem gcd_at {a b d : Nat} (h1 : d ∣ a) (h2 : d ∣ b) (hb : 0 < b) (h : ∀ e, d < e → e ≤ b → ¬ (e ∣ a ∧ e ∣ b)) : d = Nat.gcd a b := by
  have g1 := Nat.gcd_dvd_left a b
  have g2 := Nat.gcd_dvd_right a b
  have g3 := Nat.dvd_gcd h1 h2
  have g4 := Nat.gcd_pos_of_pos_right a hb
  have g5 := Nat.le_of_dvd g4 g3
  have g6 := Nat.le_of_dvd hb g2
  rcases Nat.lt_or_ge d (Nat.gcd a b) with g7 | g7
  · exact absurd ⟨g1, g2⟩ (h _ g7 g6)
  · omega
theorem dvd_L : ∀ b, 1 ≤ b → b ≤ 20 → b ∣ 232792560 := by
  intro b h1 h2
  have : ∀ b : Fin 21, 1 ≤ b.val → b.val ∣ 232792560 := by decide +kernel
  exact this ⟨b, by omega⟩ h1
set_option maxHeartbeats 4000000 in
set_option maxRecDepth 100000 in
/-- commonDivisor(x, y) -/
theorem c_cdSmall (l : Launch) (D : va_G) (E : Nat → ClassId) (x y : Nat) (hx1 : 1 ≤ x) (hx2 : x ≤ 2147483647) (hy1 : 1 ≤ y) (hy2 : y ≤ 1000) : pw_M rvI l D E yX6_commonDivisor wsX6_commonDivisor ({ frames := 1, cells := 0, slots := 0, locals := 40 } : Room) [.int (iI ((x : Int))), .int (iI ((y : Int)))] (fun H => True) (fun z H => z = ((Nat.gcd x y : Nat) : Int)) (fun _ => False) (0) (0) := by
  refine pw_of (cc := cX6_commonDivisor) (maxL := 3) (ret := (some .int)) (by decide +kernel) rfl (Nat.le_of_ble_eq_true rfl) ?_
  intro p e s m args below meth c hx hb hr hml hts hown hlocks hini hK hPre ls hl
  have hown : s.vm.findClass RX6 = some m.cls := hown
  have hl : lv_has ls 3 [(0, .int (iI ((x : Int)))), (1, .int (iI ((y : Int))))] := hl
  have hS : va_S (fun _ => False) s.heap s.heap [] := va_S.rf
  have loop : ∀ (d : Nat) (H : Heap) (locs : List Loc) (ls : Array Slot), 1 ≤ d → d ≤ y → (∀ e, d < e → e ≤ y → ¬ (e ∣ x ∧ e ∣ y)) → va_S (fun _ => False) s.heap H locs → lv_has ls 3 [(0, .int (iI ((x : Int)))), (1, .int (iI ((y : Int)))), (2, .int (iI ((d : Int))))] → W p l e ({ frames := 1, cells := 0, slots := 0, locals := 40 } : Room) s m args below meth c H locs (0) (0) (MQ below (pw_Q rvI (fun z H => z = ((Nat.gcd x y : Nat) : Int)) (fun _ => False)) args s (0) (0) (fun _ => False)) (F0 m 2 ls []) := by
    intro d
    induction d with
    | zero => intro H locs ls h1; exact absurd h1 (by omega)
    | succ d ih =>
      intro H locs ls h1 h2 h3 hS hl
      have r1 := nat_dvd_tm x (d + 1)
      have r2 := nat_dvd_tm y (d + 1)
      have b1 : (x : Int).tmod ((d + 1 : Nat) : Int) = ((x % (d + 1) : Nat) : Int) := nat_tm _ _
      have b2 : (y : Int).tmod ((d + 1 : Nat) : Int) = ((y % (d + 1) : Nat) : Int) := nat_tm _ _
      have b3 := Nat.mod_lt x (show 0 < d + 1 by omega)
      have b4 := Nat.mod_lt y (show 0 < d + 1 by omega)
      refine lv_iload_n hx hb dX6_commonDivisor_2 rfl (lv_at hl 2 rfl) ?_
      refine pw_iconst hx hb dX6_commonDivisor_3 ?_
      refine pw_icmp_le (tgt := 25) hx hb dX6_commonDivisor_4 (by decide) (fun c_4 => ?_) (fun c_4 => ?_)
      · refine lv_iload_n hx hb dX6_commonDivisor_25 rfl (lv_at hl 2 rfl) ?_
        refine pw_iconst hx hb dX6_commonDivisor_26 ?_
        refine pw_mmax hx hb (hml.trans hl.1.symm) hown hts (by decide +kernel) (Nat.le_of_ble_eq_true rfl) (Nat.le_of_ble_eq_true rfl) (Nat.le_of_ble_eq_true rfl) (Nat.le_of_ble_eq_true rfl) dX6_commonDivisor_27 ?_
        have eg := (gcd_at (d := d + 1) (by rw [show d + 1 = 1 by omega]; exact Nat.one_dvd x) (by rw [show d + 1 = 1 by omega]; exact Nat.one_dvd y) (by omega) h3)
        exact pw_iret hx hb hr hlocks hS (by rw [← eg]; omega) dX6_commonDivisor_30
      · refine lv_iload_n hx hb dX6_commonDivisor_7 rfl (lv_at hl 0 rfl) ?_
        refine lv_iload_n hx hb dX6_commonDivisor_8 rfl (lv_at hl 2 rfl) ?_
        refine pw_irem hx hb dX6_commonDivisor_9 (by omega) ?_
        refine pw_if_ne (tgt := 19) hx hb dX6_commonDivisor_10 (by decide) (fun c_10 => ?_) (fun c_10 => ?_) (by rw [b1]; omega) (by rw [b1]; omega)
        · refine lv_iinc (v := iI ((d : Int))) (lv' := [(2, .int (iI ((d : Int)))), (0, .int (iI ((x : Int)))), (1, .int (iI ((y : Int))))]) hx hb dX6_commonDivisor_19 hl (k := 2) rfl (by show iI _ + iI _ = _; exact (iI_add _ _).trans (by first | rfl | (congr 1; omega))) (by decide) rfl (fun ls hl => ?_)
          refine lv_goto (tgt := 2) hx hb dX6_commonDivisor_22 (by decide) ?_
          refine ih _ _ _ (by omega) (by omega) (fun e a1 a2 a3 => ?_) hS (lv_sub hl [1, 2, 0] rfl)
          by_cases e1 : e = d + 1
          · subst e1
            exact c_10 (r1.mpr a3.1)
          · exact h3 e (by omega) a2 a3
        · refine lv_iload_n hx hb dX6_commonDivisor_13 rfl (lv_at hl 1 rfl) ?_
          refine lv_iload_n hx hb dX6_commonDivisor_14 rfl (lv_at hl 2 rfl) ?_
          refine pw_irem hx hb dX6_commonDivisor_15 (by omega) ?_
          refine pw_if_eq (tgt := 25) hx hb dX6_commonDivisor_16 (by decide) (fun c_16 => ?_) (fun c_16 => ?_) (by rw [b2]; omega) (by rw [b2]; omega)
          · refine lv_iload_n hx hb dX6_commonDivisor_25 rfl (lv_at hl 2 rfl) ?_
            refine pw_iconst hx hb dX6_commonDivisor_26 ?_
            refine pw_mmax hx hb (hml.trans hl.1.symm) hown hts (by decide +kernel) (Nat.le_of_ble_eq_true rfl) (Nat.le_of_ble_eq_true rfl) (Nat.le_of_ble_eq_true rfl) (Nat.le_of_ble_eq_true rfl) dX6_commonDivisor_27 ?_
            have eg := (gcd_at (d := d + 1) (r1.mp c_10) (r2.mp c_16) (by omega) h3)
            exact pw_iret hx hb hr hlocks hS (by rw [← eg]; omega) dX6_commonDivisor_30
          · refine lv_iinc (v := iI ((d : Int))) (lv' := [(2, .int (iI ((d : Int)))), (0, .int (iI ((x : Int)))), (1, .int (iI ((y : Int))))]) hx hb dX6_commonDivisor_19 hl (k := 2) rfl (by show iI _ + iI _ = _; exact (iI_add _ _).trans (by first | rfl | (congr 1; omega))) (by decide) rfl (fun ls hl => ?_)
            refine lv_goto (tgt := 2) hx hb dX6_commonDivisor_22 (by decide) ?_
            refine ih _ _ _ (by omega) (by omega) (fun e a1 a2 a3 => ?_) hS (lv_sub hl [1, 2, 0] rfl)
            by_cases e1 : e = d + 1
            · subst e1
              exact c_16 (r2.mpr a3.2)
            · exact h3 e (by omega) a2 a3
  refine lv_iload_n hx hb dX6_commonDivisor_0 rfl (lv_at hl 1 rfl) ?_
  refine lv_istore_n (lv' := [(2, .int (iI ((y : Int)))), (0, .int (iI ((x : Int)))), (1, .int (iI ((y : Int))))]) hx hb dX6_commonDivisor_1 rfl hl (by decide) rfl (fun ls hl => ?_)
  exact loop y _ _ _ hy1 (Nat.le_refl y) (fun e h1 h2 => by omega) hS (lv_sub hl [1, 2, 0] rfl)
end
section
/-! the common lower part of all rewards -/
theorem lcm_step {c b : Nat} (hb : 0 < b) : c * (b / Nat.gcd c b) = Nat.lcm c b := by
  unfold Nat.lcm
  rw [Nat.mul_div_assoc _ (Nat.gcd_dvd_right c b)]
theorem dvd_lcm_all {c b : Nat} (hc : c ∣ 232792560) (hb : b ∣ 232792560) : Nat.lcm c b ∣ 232792560 := Nat.lcm_dvd hc hb
set_option maxHeartbeats 4000000 in
set_option maxRecDepth 100000 in
/-- commonRewardBelow() -/
theorem c_commonBelow (l : Launch) (D : va_G) (E : Nat → ClassId) (a : Nat) (σ : MS) (hok : mOK σ) : pw_M rvI l D E yX6_commonRewardBelow wsX6_commonRewardBelow ({ frames := 2, cells := 0, slots := 0, locals := 62 } : Room) [.ref (a)] (fun H => MO D E a σ H) (fun z H => ∃ cm : Nat, z = (cm : Int) ∧ 0 < cm ∧ cm ∣ 232792560 ∧ ∀ s k, s < mN σ → k < mC σ s → mD σ (4 * s + k) ∣ cm) (fun _ => False) (0) (0) := by
  refine pw_of (cc := cX6_commonRewardBelow) (maxL := 5) (ret := (some .int)) (by decide +kernel) rfl (Nat.le_of_ble_eq_true rfl) ?_
  intro p e s m args below meth c hx hb hr hml hts hown hlocks hini hK hM ls hl
  have hown : s.vm.findClass RX6 = some m.cls := hown
  have hl : lv_has ls 5 [(0, .ref (a))] := hl
  have hS : va_S (fun _ => False) s.heap s.heap [] := va_S.rf
  have lk_9 := hts (.fieldLink RX6 9 "PolicyWorks$Model" "actionCounts" "[I") (by decide +kernel)
  have lk_22 := hts (.fieldLink RX6 22 "PolicyWorks$Model" "states" "I") (by decide +kernel)
  have lk_47 := hts (.fieldLink RX6 47 "PolicyWorks$Action" "below" "I") (by decide +kernel)
  have hin0 : ∀ w ∈ wsX00, w ∈ wsX6_commonRewardBelow := by decide +kernel
  have hin6 : ∀ w ∈ wsX60, w ∈ wsX6_commonRewardBelow := by decide +kernel
  have hO := hM.1
  have hC := hM.2.1
  have hQ := hM.2.2.1
  have hN6 := hok.1
  have hC4 := hok.2.1
  have inner : ∀ (i : Nat), i < mN σ → (∀ (cm : Nat) (H : Heap) (locs : List Loc) (ls : Array Slot), 0 < cm → cm ∣ 232792560 → (∀ s k, s < i + 1 → k < mC σ s → mD σ (4 * s + k) ∣ cm) → MO D E a σ H → va_S (fun _ => False) s.heap H locs → lv_has ls 5 [(0, .ref (a)), (1, .int (iI ((cm : Int)))), (2, .int (iI (((i + 1 : Nat) : Int))))] → W p l e ({ frames := 2, cells := 0, slots := 0, locals := 62 } : Room) s m args below meth c H locs (0) (0) (MQ below (pw_Q rvI (fun z H => ∃ cm : Nat, z = (cm : Int) ∧ 0 < cm ∧ cm ∣ 232792560 ∧ ∀ s k, s < mN σ → k < mC σ s → mD σ (4 * s + k) ∣ cm) (fun _ => False)) args s (0) (0) (fun _ => False)) (F0 m 4 ls [])) → ∀ (k j cm : Nat) (H : Heap) (locs : List Loc) (ls : Array Slot), j + k = mC σ i → 0 < cm → cm ∣ 232792560 → (∀ s k, s < i → k < mC σ s → mD σ (4 * s + k) ∣ cm) → (∀ k, k < j → mD σ (4 * i + k) ∣ cm) → MO D E a σ H → va_S (fun _ => False) s.heap H locs → lv_has ls 5 [(0, .ref (a)), (1, .int (iI ((cm : Int)))), (2, .int (iI ((i : Int)))), (3, .int (iI ((j : Int))))] → W p l e ({ frames := 2, cells := 0, slots := 0, locals := 62 } : Room) s m args below meth c H locs (0) (0) (MQ below (pw_Q rvI (fun z H => ∃ cm : Nat, z = (cm : Int) ∧ 0 < cm ∧ cm ∣ 232792560 ∧ ∀ s k, s < mN σ → k < mC σ s → mD σ (4 * s + k) ∣ cm) (fun _ => False)) args s (0) (0) (fun _ => False)) (F0 m 14 ls []) := by
    intro i hi next k
    have hc := hC4 i (by omega)
    induction k with
    | zero =>
      intro j cm H locs ls hj hc0 hcL h1 h2 hM hS hl
      have hO := hM.1
      have hC := hM.2.1
      have hQ := hM.2.2.1
      refine lv_iload_n hx hb dX6_commonRewardBelow_14 rfl (lv_at hl 3 rfl) ?_
      refine lv_aload_n hx hb dX6_commonRewardBelow_15 rfl (lv_at hl 0 rfl) ?_
      refine pw_get (C := RX6) (T := TX6) (N := 5) hx hb hts hin6 hown hK hO rfl 0 (by decide) lk_9 rfl rfl dX6_commonRewardBelow_16 ?_
      refine lv_iload_n hx hb dX6_commonRewardBelow_19 rfl (lv_at hl 2 rfl) ?_
      refine pw_iald hx hb hK hC (i) rfl (by omega) (by omega) dX6_commonRewardBelow_20 ?_
      refine pw_asi ((mC σ (i) : Int)) rfl ?_
      refine pw_icmp_ge (tgt := 53) hx hb dX6_commonRewardBelow_21 (by decide) (fun c_21 => ?_) (fun c_21 => absurd c_21 (by omega))
      refine lv_iinc (v := iI (((i + 1 : Nat) : Int))) (lv' := [(2, .int (iI (((i + 1 : Nat) : Int)))), (0, .ref (a)), (1, .int (iI ((cm : Int)))), (3, .int (iI ((j : Int))))]) hx hb dX6_commonRewardBelow_53 hl (k := 2) rfl (by show iI _ + iI _ = _; exact (iI_add _ _).trans (by first | rfl | (congr 1; omega))) (by decide) rfl (fun ls hl => ?_)
      refine lv_goto (tgt := 4) hx hb dX6_commonRewardBelow_56 (by decide) ?_
      exact next cm _ _ _ hc0 hcL (fun s k a1 a2 => by
        by_cases e : s = i
        · subst e; exact h2 k (by omega)
        · exact h1 s k (by omega) a2) hM hS (lv_sub hl [1, 2, 0] rfl)
    | succ k ih =>
      intro j cm H locs ls hj hc0 hcL h1 h2 hM hS hl
      have hO := hM.1
      have hC := hM.2.1
      have hQ := hM.2.2.1
      have hok1 := hok.2.2.1 (4 * i + j) (by omega)
      have hcle := Nat.le_of_dvd (by omega) hcL
      have hgp := Nat.gcd_pos_of_pos_left (mD σ (4 * i + j)) hc0
      have hgd := Nat.gcd_dvd_right cm (mD σ (4 * i + j))
      have hgle := Nat.le_of_dvd (by omega) hgd
      have hlc := lcm_step (c := cm) (b := mD σ (4 * i + j)) (by omega)
      have hlL := dvd_lcm_all hcL (dvd_L (mD σ (4 * i + j)) (by omega) (by omega))
      have hlle := Nat.le_of_dvd (by omega) hlL
      have hlp : 0 < Nat.lcm cm (mD σ (4 * i + j)) := Nat.lcm_pos hc0 (by omega)
      refine lv_iload_n hx hb dX6_commonRewardBelow_14 rfl (lv_at hl 3 rfl) ?_
      refine lv_aload_n hx hb dX6_commonRewardBelow_15 rfl (lv_at hl 0 rfl) ?_
      refine pw_get (C := RX6) (T := TX6) (N := 5) hx hb hts hin6 hown hK hO rfl 0 (by decide) lk_9 rfl rfl dX6_commonRewardBelow_16 ?_
      refine lv_iload_n hx hb dX6_commonRewardBelow_19 rfl (lv_at hl 2 rfl) ?_
      refine pw_iald hx hb hK hC (i) rfl (by omega) (by omega) dX6_commonRewardBelow_20 ?_
      refine pw_asi ((mC σ (i) : Int)) rfl ?_
      refine pw_icmp_ge (tgt := 53) hx hb dX6_commonRewardBelow_21 (by decide) (fun c_21 => absurd c_21 (by omega)) (fun c_21 => ?_)
      refine lv_aload_n hx hb dX6_commonRewardBelow_24 rfl (lv_at hl 0 rfl) ?_
      refine lv_iload_n hx hb dX6_commonRewardBelow_25 rfl (lv_at hl 2 rfl) ?_
      refine lv_iload_n hx hb dX6_commonRewardBelow_26 rfl (lv_at hl 3 rfl) ?_
      refine pw_callVr (As := [.int (iI ((i : Int))), .int (iI ((j : Int)))]) (rest := []) ⟨hx, hb, hml, hown, hts⟩ (c_find l D E a σ i j (by omega) (by omega)) (cwV 2 hts gX6_commonRewardBelow_X6_find rfl rfl rfl (by decide +kernel) ⟨Nat.le_of_ble_eq_true rfl, Nat.le_of_ble_eq_true rfl⟩) hK hO rfl hM rfl hl.1 rfl (Nat.le_of_ble_eq_true rfl) dX6_commonRewardBelow_27 ⟨Nat.zero_le _, Nat.zero_le _⟩ hS (fun q h => h.elim) (fun z H1 locs1 hz hz1 hk1 hS => ?_)
      have hO := hO.k (hk1 _ hO.lt (fun h => h))
      have hC := hC.k (hk1 _ hC.lt (fun h => h))
      have hQ := hQ.k (hk1 _ hQ.lt (fun h => h))
      have hM := hM.k (fun q _ _ hlt => hk1 q hlt (fun h => h))
      subst hz
      have hAO := (hM.2.2.2 (4 * i + j) (by omega)).1
      refine pw_get (C := RX0) (T := TX0) (N := 4) hx hb hts hin0 hown hK hAO rfl 2 (by decide) lk_47 rfl rfl dX6_commonRewardBelow_30 ?_
      refine lv_istore (lv' := [(4, .int (iI ((mD σ (4 * i + j) : Int)))), (0, .ref (a)), (1, .int (iI ((cm : Int)))), (2, .int (iI ((i : Int)))), (3, .int (iI ((j : Int))))]) hx hb dX6_commonRewardBelow_33 hl (by decide) rfl (fun ls hl => ?_)
      refine lv_iload_n hx hb dX6_commonRewardBelow_35 rfl (lv_at hl 2 rfl) ?_
      refine lv_iload hx hb dX6_commonRewardBelow_36 (lv_at hl 0 rfl) ?_
      refine lv_iload_n hx hb dX6_commonRewardBelow_38 rfl (lv_at hl 2 rfl) ?_
      refine lv_iload hx hb dX6_commonRewardBelow_39 (lv_at hl 0 rfl) ?_
      refine pw_callSi (As := [.int (iI ((cm : Int))), .int (iI ((mD σ (4 * i + j) : Int)))]) (rest := [.int (iI ((mD σ (4 * i + j) : Int))), .int (iI ((cm : Int)))]) ⟨hx, hb, hml, hown, hts⟩ (c_cdSmall l D E cm (mD σ (4 * i + j)) (by omega) (by omega) (by omega) (by omega)) (va_cwS 2 hts gX6_commonRewardBelow_X6_commonDivisor rfl rfl rfl (by decide +kernel) ⟨Nat.le_of_ble_eq_true rfl, Nat.le_of_ble_eq_true rfl⟩) hK trivial rfl hl.1 rfl (Nat.le_of_ble_eq_true rfl) dX6_commonRewardBelow_41 ⟨Nat.zero_le _, Nat.zero_le _⟩ hS (fun q h => h.elim) (fun z H1 locs1 hz hz1 hk1 hS => ?_)
      have hO := hO.k (hk1 _ hO.lt (fun h => h))
      have hC := hC.k (hk1 _ hC.lt (fun h => h))
      have hQ := hQ.k (hk1 _ hQ.lt (fun h => h))
      have hM := hM.k (fun q _ _ hlt => hk1 q hlt (fun h => h))
      have hAO := hAO.k (hk1 _ hAO.lt (fun h => h))
      subst hz
      refine pw_idiv hx hb dX6_commonRewardBelow_44 (by omega) ?_
      refine pw_asi (((mD σ (4 * i + j) / Nat.gcd cm (mD σ (4 * i + j)) : Nat) : Int)) (nat_td _ _) ?_
      refine pw_imul hx hb dX6_commonRewardBelow_45 ?_
      refine pw_asi (((Nat.lcm cm (mD σ (4 * i + j)) : Nat) : Int)) (by rw [← Int.natCast_mul, hlc]) ?_
      refine lv_istore_n (lv' := [(1, .int (iI (((Nat.lcm cm (mD σ (4 * i + j)) : Nat) : Int)))), (4, .int (iI ((mD σ (4 * i + j) : Int)))), (0, .ref (a)), (2, .int (iI ((i : Int)))), (3, .int (iI ((j : Int))))]) hx hb dX6_commonRewardBelow_46 rfl hl (by decide) rfl (fun ls hl => ?_)
      refine lv_iinc (v := iI (((j + 1 : Nat) : Int))) (lv' := [(3, .int (iI (((j + 1 : Nat) : Int)))), (1, .int (iI (((Nat.lcm cm (mD σ (4 * i + j)) : Nat) : Int)))), (4, .int (iI ((mD σ (4 * i + j) : Int)))), (0, .ref (a)), (2, .int (iI ((i : Int))))]) hx hb dX6_commonRewardBelow_47 hl (k := 4) rfl (by show iI _ + iI _ = _; exact (iI_add _ _).trans (by first | rfl | (congr 1; omega))) (by decide) rfl (fun ls hl => ?_)
      refine lv_goto (tgt := 14) hx hb dX6_commonRewardBelow_50 (by decide) ?_
      exact ih (j + 1) _ _ _ _ (by omega) hlp hlL (fun s k a1 a2 => Nat.dvd_trans (h1 s k a1 a2) (Nat.dvd_lcm_left _ _)) (fun k a1 => by
        by_cases e : k = j
        · subst e; exact Nat.dvd_lcm_right _ _
        · exact Nat.dvd_trans (h2 k (by omega)) (Nat.dvd_lcm_left _ _)) hM hS (lv_sub hl [3, 1, 4, 0] rfl)
  have outer : ∀ (k i cm : Nat) (H : Heap) (locs : List Loc) (ls : Array Slot), i + k = mN σ → 0 < cm → cm ∣ 232792560 → (∀ s k, s < i → k < mC σ s → mD σ (4 * s + k) ∣ cm) → MO D E a σ H → va_S (fun _ => False) s.heap H locs → lv_has ls 5 [(0, .ref (a)), (1, .int (iI ((cm : Int)))), (2, .int (iI ((i : Int))))] → W p l e ({ frames := 2, cells := 0, slots := 0, locals := 62 } : Room) s m args below meth c H locs (0) (0) (MQ below (pw_Q rvI (fun z H => ∃ cm : Nat, z = (cm : Int) ∧ 0 < cm ∧ cm ∣ 232792560 ∧ ∀ s k, s < mN σ → k < mC σ s → mD σ (4 * s + k) ∣ cm) (fun _ => False)) args s (0) (0) (fun _ => False)) (F0 m 4 ls []) := by
    intro k
    induction k with
    | zero =>
      intro i cm H locs ls hi hc0 hcL h1 hM hS hl
      have hO := hM.1
      have hC := hM.2.1
      have hQ := hM.2.2.1
      refine lv_iload_n hx hb dX6_commonRewardBelow_4 rfl (lv_at hl 2 rfl) ?_
      refine lv_aload_n hx hb dX6_commonRewardBelow_5 rfl (lv_at hl 0 rfl) ?_
      refine pw_get (C := RX6) (T := TX6) (N := 5) hx hb hts hin6 hown hK hO rfl 2 (by decide) lk_22 rfl rfl dX6_commonRewardBelow_6 ?_
      refine pw_icmp_ge (tgt := 59) hx hb dX6_commonRewardBelow_9 (by decide) (fun c_9 => ?_) (fun c_9 => absurd c_9 (by omega))
      refine lv_iload_n hx hb dX6_commonRewardBelow_59 rfl (lv_at hl 1 rfl) ?_
      exact pw_iret hx hb hr hlocks hS ⟨cm, rfl, hc0, hcL, fun s k a1 a2 => h1 s k (by omega) a2⟩ dX6_commonRewardBelow_60
    | succ k ih =>
      intro i cm H locs ls hi hc0 hcL h1 hM hS hl
      have hO := hM.1
      have hC := hM.2.1
      have hQ := hM.2.2.1
      refine lv_iload_n hx hb dX6_commonRewardBelow_4 rfl (lv_at hl 2 rfl) ?_
      refine lv_aload_n hx hb dX6_commonRewardBelow_5 rfl (lv_at hl 0 rfl) ?_
      refine pw_get (C := RX6) (T := TX6) (N := 5) hx hb hts hin6 hown hK hO rfl 2 (by decide) lk_22 rfl rfl dX6_commonRewardBelow_6 ?_
      refine pw_icmp_ge (tgt := 59) hx hb dX6_commonRewardBelow_9 (by decide) (fun c_9 => absurd c_9 (by omega)) (fun c_9 => ?_)
      refine pw_iconst hx hb dX6_commonRewardBelow_12 ?_
      refine lv_istore_n (lv' := [(3, .int (iI (0))), (0, .ref (a)), (1, .int (iI ((cm : Int)))), (2, .int (iI ((i : Int))))]) hx hb dX6_commonRewardBelow_13 rfl hl (by decide) rfl (fun ls hl => ?_)
      exact inner i (by omega) (fun cm H locs ls a1 a2 a3 hM hS hl => ih (i + 1) cm H locs ls (by omega) a1 a2 a3 hM hS hl) (mC σ i) 0 cm _ _ _ (by omega) hc0 hcL h1 (fun k h => by omega) hM hS (lv_sub hl [1, 2, 3, 0] rfl)
  refine pw_iconst hx hb dX6_commonRewardBelow_0 ?_
  refine lv_istore_n (lv' := [(1, .int (iI (1))), (0, .ref (a))]) hx hb dX6_commonRewardBelow_1 rfl hl (by decide) rfl (fun ls hl => ?_)
  refine pw_iconst hx hb dX6_commonRewardBelow_2 ?_
  refine lv_istore_n (lv' := [(2, .int (iI (0))), (1, .int (iI (1))), (0, .ref (a))]) hx hb dX6_commonRewardBelow_3 rfl hl (by decide) rfl (fun ls hl => ?_)
  exact outer (mN σ) 0 1 _ _ _ (by omega) (by omega) (Nat.one_dvd _) (fun s k h => by omega) hM hS (lv_sub hl [2, 1, 0] rfl)
end
section
/-! minors by their last rows, and the equations of a policy -/
def sI (f : Nat → Int) : Nat → Int
  | 0 => 0
  | k + 1 => sI f k + f k
theorem sI_congr {f g : Nat → Int} : ∀ {k : Nat}, (∀ j, j < k → f j = g j) → sI f k = sI g k
  | 0, _ => rfl
  | k + 1, h => by
    show sI f k + f k = sI g k + g k
    rw [sI_congr (fun j hj => h j (by omega)), h k (by omega)]
theorem sI_lin (f g : Nat → Int) (a b : Int) : ∀ k : Nat, sI (fun j => a * f j + b * g j) k = a * sI f k + b * sI g k
  | 0 => by simp [sI]
  | k + 1 => by
    show sI _ k + (a * f k + b * g k) = a * (sI f k + f k) + b * (sI g k + g k)
    rw [sI_lin f g a b k, Int.mul_add, Int.mul_add]
    omega
theorem sI_le {f g : Nat → Int} : ∀ {k : Nat}, (∀ j, j < k → f j ≤ g j) → sI f k ≤ sI g k
  | 0, _ => Int.le_refl 0
  | k + 1, h => Int.add_le_add (sI_le (fun j hj => h j (by omega))) (h k (by omega))
theorem sI_zero : ∀ k : Nat, sI (fun _ => 0) k = 0
  | 0 => rfl
  | k + 1 => by
    show sI _ k + 0 = 0
    rw [sI_zero k]
    rfl
theorem sI_dec {f : Nat → Int} {k : Nat} : ∀ {n : Nat}, k ≤ n → (∀ j, k ≤ j → j < n → f j ≤ 0) → sI f n ≤ sI f k
  | 0, h, _ => by rw [show k = 0 by omega]; exact Int.le_refl _
  | n + 1, h, hf => by
    by_cases e : k = n + 1
    · rw [e]; exact Int.le_refl _
    · have h1 := sI_dec (f := f) (k := k) (n := n) (by omega) (fun j a b => hf j a (by omega))
      have h2 := hf n (by omega) (by omega)
      show sI f n + f n ≤ _
      omega
theorem least_at (y : Nat → Int) : ∀ k : Nat, ∃ i, i ≤ k ∧ ∀ j, j ≤ k → y i ≤ y j
  | 0 => ⟨0, Nat.le_refl 0, fun j hj => by rw [show j = 0 by omega]; exact Int.le_refl _⟩
  | k + 1 => by
    obtain ⟨i, h1, h2⟩ := least_at y k
    by_cases h : y (k + 1) < y i
    · refine ⟨k + 1, Nat.le_refl _, fun j hj => ?_⟩
      by_cases e : j = k + 1
      · rw [e]; exact Int.le_refl _
      · have := h2 j (by omega); omega
    · refine ⟨i, by omega, fun j hj => ?_⟩
      by_cases e : j = k + 1
      · rw [e]; omega
      · exact h2 j (by omega)
/-- a row whose places beside i are not above 0: under values that are least at i, it gives no more than the least one by its sum -/
theorem row_min {a y : Nat → Int} {i k : Nat} (ha : ∀ j, j < k → j ≠ i → a j ≤ 0) (hy : ∀ j, j < k → y i ≤ y j) : sI (fun j => a j * y j) k ≤ y i * sI a k := by
  have h : sI (fun j => a j * y j) k ≤ sI (fun j => y i * a j + 0 * a j) k := sI_le (fun j hj => by
    by_cases e : j = i
    · subst e
      rw [Int.mul_comm]
      omega
    · have h1 := ha j hj e
      have h2 := hy j hj
      have h3 : a j * (y j - y i) ≤ 0 := Int.mul_nonpos_of_nonpos_of_nonneg h1 (by omega)
      rw [Int.mul_sub] at h3
      rw [Int.mul_comm (y i)]
      omega)
  rw [sI_lin] at h
  omega
theorem row_max {a y : Nat → Int} {i k : Nat} (ha : ∀ j, j < k → j ≠ i → a j ≤ 0) (hy : ∀ j, j < k → y j ≤ y i) : y i * sI a k ≤ sI (fun j => a j * y j) k := by
  have h := row_min (a := a) (y := fun j => - y j) (i := i) (k := k) ha (fun j hj => by have := hy j hj; omega)
  have e : sI (fun j => a j * - y j) k = - sI (fun j => a j * y j) k := by
    have := sI_lin (fun j => a j * y j) (fun _ => 0) (-1) 0 k
    rw [sI_congr (g := fun j => a j * - y j) (fun j _ => by rw [Int.mul_neg]; omega)] at this
    omega
  rw [e] at h
  rw [Int.neg_mul] at h
  omega
/-- rows as a policy's equations are: below 0 at the most beside the own place, their sums above 0 -/
def zrow (R : Nat → Nat → Int) (n : Nat) : Prop := ∀ i, i < n → (∀ j, j < n → j ≠ i → R i j ≤ 0) ∧ 0 < sI (R i) n
theorem zrow_pre {R : Nat → Nat → Int} {n k i : Nat} (h : zrow R n) (hi : i < k) (hk : k ≤ n) : 0 < sI (R i) k := by
  obtain ⟨h1, h2⟩ := h i (by omega)
  have := sI_dec (f := R i) (k := k) (n := n) hk (fun j a b => h1 j b (by omega))
  omega
/-- only 0 is sent to 0 -/
theorem zrow_inj {R : Nat → Nat → Int} {n : Nat} (h : zrow R n) {y : Nat → Int} (h0 : ∀ i, i < n → sI (fun j => R i j * y j) n = 0) : ∀ i, i < n → y i = 0 := by
  intro i hi
  obtain ⟨k, rfl⟩ : ∃ k, n = k + 1 := ⟨n - 1, by omega⟩
  obtain ⟨a, a1, a2⟩ := least_at y k
  obtain ⟨b, b1, b2⟩ := least_at (fun j => - y j) k
  have ha := row_min (a := R a) (y := y) (i := a) (k := k + 1) (h a (by omega)).1 (fun j hj => a2 j (by omega))
  have hb := row_max (a := R b) (y := y) (i := b) (k := k + 1) (h b (by omega)).1 (fun j hj => by have := b2 j (by omega); omega)
  rw [h0 a (by omega)] at ha
  rw [h0 b (by omega)] at hb
  have pa := (h a (by omega)).2
  have pb := (h b (by omega)).2
  have e1 : 0 ≤ y a := by
    rcases Int.lt_or_le (y a) 0 with hh | hh
    · have := Int.mul_neg_of_neg_of_pos hh pa
      omega
    · exact hh
  have e2 : y b ≤ 0 := by
    rcases Int.lt_or_le 0 (y b) with hh | hh
    · have := Int.mul_pos hh pb
      omega
    · exact hh
  have e3 := a2 i (by omega)
  have e4 := b2 i (by omega)
  omega
-- the alternating sum along a list of columns
def alt (w : Nat → Int) : List Nat → (List Nat → Int) → Int
  | [], _ => 0
  | c :: cs, F => w c * F cs - alt w cs (fun M => F (c :: M))
theorem alt_lin (w : Nat → Int) (a b : Int) : ∀ (L : List Nat) (F G : List Nat → Int), alt w L (fun M => a * F M + b * G M) = a * alt w L F + b * alt w L G
  | [], F, G => by simp [alt]
  | c :: cs, F, G => by
    have ih := alt_lin w a b cs (fun M => F (c :: M)) (fun M => G (c :: M))
    show w c * (a * F cs + b * G cs) - alt w cs (fun M => a * F (c :: M) + b * G (c :: M)) = a * (w c * F cs - alt w cs _) + b * (w c * G cs - alt w cs _)
    rw [ih, Int.mul_add, Int.mul_sub, Int.mul_sub, Int.mul_left_comm (w c) a, Int.mul_left_comm (w c) b]
    omega
theorem alt_zero (w : Nat → Int) (L : List Nat) {F : List Nat → Int} (h : ∀ M, F M = 0) : alt w L F = 0 := by
  have e : F = fun M => 0 * F M + 0 * F M := by
    funext M
    rw [h M]
    rfl
  rw [e, alt_lin]
  omega
theorem alt_anti (w u : Nat → Int) : ∀ (L : List Nat) (F : List Nat → Int), alt w L (fun M => alt u M F) = - alt u L (fun M => alt w M F)
  | [], F => by simp [alt]
  | c :: cs, F => by
    have ih := alt_anti w u cs (fun M => F (c :: M))
    have e1 : alt w cs (fun M => alt u (c :: M) F) = u c * alt w cs F + (-1) * alt w cs (fun M => alt u M (fun N => F (c :: N))) := by
      rw [← alt_lin w (u c) (-1) cs F (fun M => alt u M (fun N => F (c :: N)))]
      congr 1
      funext M
      show u c * F M - alt u M _ = _
      omega
    have e2 : alt u cs (fun M => alt w (c :: M) F) = w c * alt u cs F + (-1) * alt u cs (fun M => alt w M (fun N => F (c :: N))) := by
      rw [← alt_lin u (w c) (-1) cs F (fun M => alt w M (fun N => F (c :: N)))]
      congr 1
      funext M
      show w c * F M - alt w M _ = _
      omega
    show w c * alt u cs F - alt w cs (fun M => alt u (c :: M) F) = - (u c * alt w cs F - alt u cs (fun M => alt w (c :: M) F))
    rw [e1, e2]
    omega
/-- the minor of the first k rows on these columns, by its last row -/
def dl (R : Nat → Nat → Int) : Nat → List Nat → Int
  | 0, _ => 1
  | k + 1, L => alt (R k) L (dl R k)
theorem dl_kill (R : Nat → Nat → Int) : ∀ (k i : Nat), i < k → ∀ L, alt (R i) L (dl R k) = 0
  | 0, i, h, _ => absurd h (Nat.not_lt_zero i)
  | k + 1, i, h, L => by
    have e : dl R (k + 1) = fun M => alt (R k) M (dl R k) := by funext M; rfl
    rw [e]
    have h1 := alt_anti (R i) (R k) L (dl R k)
    by_cases hi : i = k
    · subst hi
      omega
    · rw [h1, alt_zero (R k) L (fun M => dl_kill R k i (by omega) M)]
      rfl
theorem alt_b {w : Nat → Int} {W B : Nat} (hw : ∀ c, (w c).natAbs ≤ W) : ∀ (L : List Nat) (F : List Nat → Int) (N : Nat), (∀ M, M.length + 1 ≤ N → (F M).natAbs ≤ B) → L.length ≤ N → (alt w L F).natAbs ≤ L.length * (W * B)
  | [], _, _, _, _ => by simp [alt]
  | c :: cs, F, N, hF, hL => by
    have hL' : cs.length + 1 ≤ N := hL
    have ih := alt_b hw cs (fun M => F (c :: M)) (N - 1) (fun M hM => hF (c :: M) (by rw [List.length_cons]; omega)) (by omega)
    have h1 : (w c * F cs).natAbs ≤ W * B := by rw [Int.natAbs_mul]; exact Nat.mul_le_mul (hw c) (hF cs hL')
    show (w c * F cs - alt w cs _).natAbs ≤ (cs.length + 1) * (W * B)
    rw [Nat.add_mul, Nat.one_mul]
    omega
theorem dl_b {R : Nat → Nat → Int} (hR : ∀ i c, (R i c).natAbs ≤ 2400000) : ∀ (k : Nat) (L : List Nat), L.length ≤ 7 → (dl R k L).natAbs ≤ 16800000 ^ k
  | 0, _, _ => by simp [dl]
  | k + 1, L, hL => by
    have h := alt_b (hR k) L (dl R k) 7 (fun M hM => dl_b hR k M (by omega)) hL
    show (alt (R k) L (dl R k)).natAbs ≤ _
    rw [Nat.pow_succ]
    have h2 : L.length * (2400000 * 16800000 ^ k) ≤ 7 * (2400000 * 16800000 ^ k) := Nat.mul_le_mul_right _ hL
    omega
-- columns from the top down, and cofactors
def ds : Nat → List Nat
  | 0 => []
  | k + 1 => k :: ds k
def cf : (List Nat → Int) → Nat → Nat → Int
  | _, 0, _ => 0
  | F, k + 1, j => if j = k then F (ds k) else - cf (fun M => F (k :: M)) k j
theorem alt_cf (w : Nat → Int) : ∀ (k : Nat) (F : List Nat → Int), alt w (ds k) F = sI (fun j => w j * cf F k j) k
  | 0, _ => rfl
  | k + 1, F => by
    have ih := alt_cf w k (fun M => F (k :: M))
    show w k * F (ds k) - alt w (ds k) (fun M => F (k :: M)) = sI (fun j => w j * cf F (k + 1) j) k + w k * cf F (k + 1) k
    have e1 : cf F (k + 1) k = F (ds k) := by show (if k = k then _ else _) = _; rw [if_pos rfl]
    have e2 : sI (fun j => w j * cf F (k + 1) j) k = - sI (fun j => w j * cf (fun M => F (k :: M)) k j) k := by
      have h := sI_lin (fun j => w j * cf (fun M => F (k :: M)) k j) (fun _ => 0) (-1) 0 k
      rw [sI_congr (g := fun j => w j * cf F (k + 1) j) (fun j hj => by
        show _ = w j * (if j = k then _ else _)
        rw [if_neg (by omega), Int.mul_neg]
        omega)] at h
      omega
    rw [e1, e2, ih]
    omega
/-- the determinant is above 0 -/
theorem det_pos {R : Nat → Nat → Int} {n : Nat} (h : zrow R n) : ∀ k, k ≤ n → 0 < dl R k (ds k)
  | 0, _ => by show (0 : Int) < 1; omega
  | k + 1, hk => by
    have ih := det_pos h k (by omega)
    have ek : cf (dl R k) (k + 1) k = dl R k (ds k) := by show (if k = k then _ else _) = _; rw [if_pos rfl]
    have e0 : dl R (k + 1) (ds (k + 1)) = sI (fun j => R k j * cf (dl R k) (k + 1) j) (k + 1) := alt_cf (R k) (k + 1) (dl R k)
    have e1 : ∀ i, i < k → sI (fun j => R i j * cf (dl R k) (k + 1) j) (k + 1) = 0 := fun i hi => by
      rw [← alt_cf]
      exact dl_kill R k i hi _
    generalize cf (dl R k) (k + 1) = y at *
    have hz : ∀ i, i < k + 1 → ∀ j, j < k + 1 → j ≠ i → R i j ≤ 0 := fun i hi j hj hne => (h i (by omega)).1 j (by omega) hne
    have hs : ∀ i, i < k + 1 → 0 < sI (R i) (k + 1) := fun i hi => zrow_pre h hi hk
    obtain ⟨a, a1, a2⟩ := least_at (fun j => - y j) k
    have hmax : ∀ j, j < k + 1 → y j ≤ y k := by
      intro j hj
      by_cases hak : a = k
      · have := a2 j (by omega)
        rw [hak] at this
        omega
      · have hb := row_max (a := R a) (y := y) (i := a) (k := k + 1) (hz a (by omega)) (fun j hj => by have := a2 j (by omega); omega)
        rw [e1 a (by omega)] at hb
        have hle : y a ≤ 0 := by
          rcases Int.lt_or_le 0 (y a) with hh | hh
          · have := Int.mul_pos hh (hs a (by omega))
            omega
          · exact hh
        have h1 := a2 j (by omega)
        omega
    have hb := row_max (a := R k) (y := y) (i := k) (k := k + 1) (hz k (by omega)) hmax
    rw [e0]
    have := Int.mul_pos (show 0 < y k by omega) (hs k (by omega))
    omega
end
section
/-! bits of columns; the equations' rows and minors -/
section PB
variable {p : Program} {l : Launch} {e : Env} {R : Room} {s : State} {m : MethodId} {args : Array Value} {below : List Frame} {meth : Method} {c : Code} {H : Heap} {locs : List Loc} {cells slots : Nat} {Q : State → Prop}
variable {cc : ByteArray} {pc : Nat} {ls : Array Slot} {rest : List Value} {D : va_G} {E : Nat → ClassId} {n : Nat}
theorem pw_eqi {X : Int32} (z : Int) (h : X = iI z) (k : W p l e R s m args below meth c H locs cells slots Q (F0 m pc ls (.int (iI z) :: rest))) : W p l e R s m args below meth c H locs cells slots Q (F0 m pc ls (.int X :: rest)) := by rw [h]; exact k
theorem pw_eql {X : Int64} (z : Int) (h : X = lI z) (k : W p l e R s m args below meth c H locs cells slots Q (F0 m pc ls (.long (lI z) :: rest))) : W p l e R s m args below meth c H locs cells slots Q (F0 m pc ls (.long X :: rest)) := by rw [h]; exact k
theorem pw_qalda (hx : p.tables.exec = Jvm.exec) (hb : c.code = cc) (hK : KK D E s) {a : Nat} {f : Nat → Option Nat} (hA : QA E 6 a n f H) {i : Int} (j : Nat) (hi : i = (j : Int)) (hj : j < n) (hn : n < 2147483648) {b : Nat} (hv : f j = some b) (d : decode cc pc = .ok (.aaload, 1)) (k : W p l e R s m args below meth c H locs cells slots Q (F0 m (pc + 1) ls (.ref b :: rest))) : W p l e R s m args below meth c H locs cells slots Q (F0 m pc ls (.int (iI i) :: .ref a :: rest)) := by
  obtain ⟨h1, h2⟩ := iI_in hi hj hn
  have hK0 : va_K D vwCl (pw_tys E) s := hK
  refine W.aald (v := .ref b) (ty := .array .int) hx hb hA ((hK0.2 6 _ rfl).1 n (fun j => va_rf (f j))) rfl (fun q => by cases q) (by show ¬ (iI i < 0 ∨ (arrV _ _ _).slots.size ≤ _); rw [arrV_size]; exact h1) (by show (arrV _ _ _).slots[_]? = _; rw [h2, arrV_read _ _ hj, hv]; rfl) rfl rfl d k
end PB
def pop (x : Nat) : Nat := x % 2 + x / 2 % 2 + x / 4 % 2 + x / 8 % 2 + x / 16 % 2 + x / 32 % 2 + x / 64 % 2
/-- the columns below c that are set, from the top down -/
def bl (m : Nat) : Nat → List Nat
  | 0 => []
  | c + 1 => if m / 2 ^ c % 2 = 1 then c :: bl m c else bl m c
/-- those from c on -/
def hi (m c : Nat) : List Nat := (bl m 7).filter (fun x => decide (c ≤ x))
theorem bit_all {P : Nat → Nat → Prop} (h : ∀ m : Fin 128, ∀ c : Fin 8, P m.val c.val) {m c : Nat} (hm : m < 128) (hc : c < 8) : P m c := h ⟨m, hm⟩ ⟨c, hc⟩
theorem bl_split {m c : Nat} (hm : m < 128) (hc : c < 8) : bl m 7 = hi m c ++ bl m c := bit_all (P := fun m c => bl m 7 = hi m c ++ bl m c) (by decide +kernel) hm hc
theorem hi_s {m c : Nat} (hm : m < 128) (hc : c < 7) (hb : m / 2 ^ c % 2 = 1) : hi m c = hi m (c + 1) ++ [c] := bit_all (P := fun m c => c < 7 → m / 2 ^ c % 2 = 1 → hi m c = hi m (c + 1) ++ [c]) (by decide +kernel) hm (by omega) hc hb
theorem hi_n {m c : Nat} (hm : m < 128) (hc : c < 7) (hb : ¬ m / 2 ^ c % 2 = 1) : hi m c = hi m (c + 1) := bit_all (P := fun m c => c < 7 → ¬ m / 2 ^ c % 2 = 1 → hi m c = hi m (c + 1)) (by decide +kernel) hm (by omega) hc hb
theorem bl_x {m c : Nat} (hm : m < 128) (hc : c < 7) (hb : m / 2 ^ c % 2 = 1) : bl (m ^^^ 2 ^ c) 7 = hi m (c + 1) ++ bl m c ∧ m ^^^ 2 ^ c < m ∧ pop (m ^^^ 2 ^ c) + 1 = pop m := bit_all (P := fun m c => c < 7 → m / 2 ^ c % 2 = 1 → bl (m ^^^ 2 ^ c) 7 = hi m (c + 1) ++ bl m c ∧ m ^^^ 2 ^ c < m ∧ pop (m ^^^ 2 ^ c) + 1 = pop m) (by decide +kernel) hm (by omega) hc hb
theorem hi_top {m n : Nat} (hn : n < 7) (hm : m < 2 ^ (n + 1)) : hi m (n + 1) = [] := by
  have hp : 2 ^ (n + 1) ≤ 2 ^ 7 := Nat.pow_le_pow_right (by omega) (by omega)
  exact bit_all (P := fun m n => n < 7 → m < 2 ^ (n + 1) → hi m (n + 1) = []) (by decide +kernel) (by omega) (by omega) hn hm
theorem pop_b {m n : Nat} (hn : n < 7) (hm : m + 1 < 2 ^ (n + 1)) (h0 : 0 < m) : 0 < pop m ∧ pop m ≤ n := by
  have hp : 2 ^ (n + 1) ≤ 2 ^ 7 := Nat.pow_le_pow_right (by omega) (by omega)
  exact bit_all (P := fun m n => n < 7 → m + 1 < 2 ^ (n + 1) → 0 < m → 0 < pop m ∧ pop m ≤ n) (by decide +kernel) (by omega) (by omega) hn hm h0
theorem bl_len {m : Nat} (hm : m < 128) : (bl m 7).length ≤ 7 := bit_all (P := fun m _ => (bl m 7).length ≤ 7) (by decide +kernel) hm (show 0 < 8 by omega)
theorem bl_mem {m n c : Nat} (hn : n < 7) (hm : m < 2 ^ (n + 1)) (hc : c ∈ bl m 7) : c ≤ n := by
  have hp : 2 ^ (n + 1) ≤ 2 ^ 7 := Nat.pow_le_pow_right (by omega) (by omega)
  exact bit_all (P := fun m n => n < 7 → m < 2 ^ (n + 1) → ∀ c ∈ bl m 7, c ≤ n) (by decide +kernel) (by omega) (by omega) hn hm c hc
theorem j_bit {m c : Nat} (hm : m < 128) (hc : c < 7) : (iI (m : Int) >>> (iI (c : Int) &&& 31)) = iI ((m / 2 ^ c : Nat) : Int) ∧ (iI ((m / 2 ^ c : Nat) : Int) &&& iI 1) = iI ((m / 2 ^ c % 2 : Nat) : Int) ∧ (iI 1 <<< (iI (c : Int) &&& 31)) = iI ((2 ^ c : Nat) : Int) ∧ (iI (m : Int) ^^^ iI ((2 ^ c : Nat) : Int)) = iI ((m ^^^ 2 ^ c : Nat) : Int) := bit_all (P := fun m c => c < 7 → (iI (m : Int) >>> (iI (c : Int) &&& 31)) = iI ((m / 2 ^ c : Nat) : Int) ∧ (iI ((m / 2 ^ c : Nat) : Int) &&& iI 1) = iI ((m / 2 ^ c % 2 : Nat) : Int) ∧ (iI 1 <<< (iI (c : Int) &&& 31)) = iI ((2 ^ c : Nat) : Int) ∧ (iI (m : Int) ^^^ iI ((2 ^ c : Nat) : Int)) = iI ((m ^^^ 2 ^ c : Nat) : Int)) (by decide +kernel) hm (by omega) hc
def us (x y : Int32) : Int32 := (x.toUInt32 >>> (y.toUInt32 &&& Int32.toUInt32 31)).toInt32
def bcA (x : Int32) : Int32 := x - (us x (iI 1) &&& 1431655765)
def bcB (x : Int32) : Int32 := (x &&& 858993459) + (us x (iI 2) &&& 858993459)
def bcC (x : Int32) : Int32 := (x + us x (iI 4)) &&& 252645135
def bcD (x : Int32) : Int32 := x + us x (iI 8)
def bcE (x : Int32) : Int32 := x + us x (iI 16)
theorem bc_all {m : Nat} (hm : m < 128) : (bcE (bcD (bcC (bcB (bcA (iI (m : Int)))))) &&& iI 63) = iI ((pop m : Nat) : Int) := bit_all (P := fun m _ => (bcE (bcD (bcC (bcB (bcA (iI (m : Int)))))) &&& iI 63) = iI ((pop m : Nat) : Int)) (by decide +kernel) hm (show 0 < 8 by omega)
set_option maxHeartbeats 4000000 in
set_option maxRecDepth 100000 in
/-- bitCount(x), x below 128 -/
theorem c_bitCount (l : Launch) (D : va_G) (E : Nat → ClassId) (x : Nat) (hx0 : x < 128) : pw_M rvI l D E yJ6_bitCount_0f7a4 wsJ6_bitCount_0f7a4 ({ frames := 0, cells := 0, slots := 0, locals := 0 } : Room) [.int (iI ((x : Int)))] (fun H => True) (fun z H => z = ((pop x : Nat) : Int)) (fun _ => False) (0) (0) := by
  refine pw_of (cc := cJ6_bitCount_0f7a4) (maxL := 1) (ret := (some .int)) (by decide +kernel) rfl (Nat.le_of_ble_eq_true rfl) ?_
  intro p e s m args below meth c hx hb hr hml hts hown hlocks hini hK hPre ls hl
  have hown : s.vm.findClass RJ6 = some m.cls := hown
  have hl : lv_has ls 1 [(0, .int (iI ((x : Int))))] := hl
  have hS : va_S (fun _ => False) s.heap s.heap [] := va_S.rf
  have kc_265 := hts (.constant RJ6 265 (1431655765)) (by decide +kernel)
  have kc_266 := hts (.constant RJ6 266 (858993459)) (by decide +kernel)
  have kc_267 := hts (.constant RJ6 267 (252645135)) (by decide +kernel)
  refine lv_iload_n hx hb dJ6_bitCount_0f7a4_0 rfl (lv_at hl 0 rfl) ?_
  refine lv_iload_n hx hb dJ6_bitCount_0f7a4_1 rfl (lv_at hl 0 rfl) ?_
  refine pw_iconst hx hb dJ6_bitCount_0f7a4_2 ?_
  refine lv_iushr hx hb dJ6_bitCount_0f7a4_3 rfl ?_
  refine lv_ldcw hx hb hown kc_265 dJ6_bitCount_0f7a4_4 ?_
  refine lv_iand hx hb dJ6_bitCount_0f7a4_7 ?_
  refine lv_isub hx hb dJ6_bitCount_0f7a4_8 ?_
  refine lv_topi (fun y1 ey1 => ?_)
  have ey1 : y1 = bcA (iI (x : Int)) := ey1
  refine lv_istore_n (lv' := [(0, .int y1)]) hx hb dJ6_bitCount_0f7a4_9 rfl hl (by decide) rfl (fun ls hl => ?_)
  refine lv_iload_n hx hb dJ6_bitCount_0f7a4_10 rfl (lv_at hl 0 rfl) ?_
  refine lv_ldcw hx hb hown kc_266 dJ6_bitCount_0f7a4_11 ?_
  refine lv_iand hx hb dJ6_bitCount_0f7a4_14 ?_
  refine lv_iload_n hx hb dJ6_bitCount_0f7a4_15 rfl (lv_at hl 0 rfl) ?_
  refine pw_iconst hx hb dJ6_bitCount_0f7a4_16 ?_
  refine lv_iushr hx hb dJ6_bitCount_0f7a4_17 rfl ?_
  refine lv_ldcw hx hb hown kc_266 dJ6_bitCount_0f7a4_18 ?_
  refine lv_iand hx hb dJ6_bitCount_0f7a4_21 ?_
  refine lv_iadd hx hb dJ6_bitCount_0f7a4_22 ?_
  refine lv_topi (fun y2 ey2 => ?_)
  have ey2 : y2 = bcB y1 := ey2
  refine lv_istore_n (lv' := [(0, .int y2)]) hx hb dJ6_bitCount_0f7a4_23 rfl hl (by decide) rfl (fun ls hl => ?_)
  refine lv_iload_n hx hb dJ6_bitCount_0f7a4_24 rfl (lv_at hl 0 rfl) ?_
  refine lv_iload_n hx hb dJ6_bitCount_0f7a4_25 rfl (lv_at hl 0 rfl) ?_
  refine pw_iconst hx hb dJ6_bitCount_0f7a4_26 ?_
  refine lv_iushr hx hb dJ6_bitCount_0f7a4_27 rfl ?_
  refine lv_iadd hx hb dJ6_bitCount_0f7a4_28 ?_
  refine lv_ldcw hx hb hown kc_267 dJ6_bitCount_0f7a4_29 ?_
  refine lv_iand hx hb dJ6_bitCount_0f7a4_32 ?_
  refine lv_topi (fun y3 ey3 => ?_)
  have ey3 : y3 = bcC y2 := ey3
  refine lv_istore_n (lv' := [(0, .int y3)]) hx hb dJ6_bitCount_0f7a4_33 rfl hl (by decide) rfl (fun ls hl => ?_)
  refine lv_iload_n hx hb dJ6_bitCount_0f7a4_34 rfl (lv_at hl 0 rfl) ?_
  refine lv_iload_n hx hb dJ6_bitCount_0f7a4_35 rfl (lv_at hl 0 rfl) ?_
  refine pw_bipush hx hb dJ6_bitCount_0f7a4_36 ?_
  refine lv_iushr hx hb dJ6_bitCount_0f7a4_38 rfl ?_
  refine lv_iadd hx hb dJ6_bitCount_0f7a4_39 ?_
  refine lv_topi (fun y4 ey4 => ?_)
  have ey4 : y4 = bcD y3 := ey4
  refine lv_istore_n (lv' := [(0, .int y4)]) hx hb dJ6_bitCount_0f7a4_40 rfl hl (by decide) rfl (fun ls hl => ?_)
  refine lv_iload_n hx hb dJ6_bitCount_0f7a4_41 rfl (lv_at hl 0 rfl) ?_
  refine lv_iload_n hx hb dJ6_bitCount_0f7a4_42 rfl (lv_at hl 0 rfl) ?_
  refine pw_bipush hx hb dJ6_bitCount_0f7a4_43 ?_
  refine lv_iushr hx hb dJ6_bitCount_0f7a4_45 rfl ?_
  refine lv_iadd hx hb dJ6_bitCount_0f7a4_46 ?_
  refine lv_topi (fun y5 ey5 => ?_)
  have ey5 : y5 = bcE y4 := ey5
  refine lv_istore_n (lv' := [(0, .int y5)]) hx hb dJ6_bitCount_0f7a4_47 rfl hl (by decide) rfl (fun ls hl => ?_)
  refine lv_iload_n hx hb dJ6_bitCount_0f7a4_48 rfl (lv_at hl 0 rfl) ?_
  refine pw_bipush hx hb dJ6_bitCount_0f7a4_49 ?_
  refine lv_iand hx hb dJ6_bitCount_0f7a4_51 ?_
  refine pw_eqi ((pop x : Nat) : Int) (by rw [ey5, ey4, ey3, ey2, ey1]; exact bc_all hx0) ?_
  exact pw_iret hx hb hr hlocks hS rfl dJ6_bitCount_0f7a4_52
end
section
/-! the equations: writeRow, expand -/
def RS (E : Nat → ClassId) (e0 : Nat) (R : Nat → Nat → Int) (H : Heap) : Prop := ∀ i, i < 6 → IA E (e0 + 2 + i) 7 (R i) H
def MN (D : va_G) (E : Nat → ClassId) (e0 x : Nat) (mn : Nat → Int) (H : Heap) : Prop := ∀ i, i < 128 → i ≠ x → WH D E (e0 + 9 + 2 * i) 8 (mn i) H
def EQ (D : va_G) (E : Nat → ClassId) (e0 : Nat) (R : Nat → Nat → Int) (mn : Nat → Int) (H : Heap) : Prop := OA D e0 2 [.ref (e0 + 1), .ref (e0 + 8)] H ∧ QA E 6 (e0 + 1) 6 (fun i => some (e0 + 2 + i)) H ∧ RS E e0 R H ∧ QA E 5 (e0 + 8) 128 (fun i => some (e0 + 9 + 2 * i)) H ∧ MN D E e0 128 mn H
theorem RS.k {E : Nat → ClassId} {e0 : Nat} {R : Nat → Nat → Int} {H H1 : Heap} (h : RS E e0 R H) (hq : ∀ q, e0 + 2 ≤ q → q ≤ e0 + 7 → q < H.size → H1[q]? = H[q]?) : RS E e0 R H1 := fun i hi => (h i hi).k (hq _ (by omega) (by omega) (h i hi).lt)
theorem MN.k {D : va_G} {E : Nat → ClassId} {e0 x : Nat} {mn : Nat → Int} {H H1 : Heap} (h : MN D E e0 x mn H) (hq : ∀ q, e0 + 9 ≤ q → q ≤ e0 + 264 ∧ q ≠ e0 + 9 + 2 * x ∧ q ≠ e0 + 10 + 2 * x → q < H.size → H1[q]? = H[q]?) : MN D E e0 x mn H1 := fun i hi hne => by
  have hl := (h i hi hne).lt
  exact (h i hi hne).k (hq _ (by omega) (by omega) (by omega)) (hq _ (by omega) (by omega) (by omega))
theorem EQ.lt {D : va_G} {E : Nat → ClassId} {e0 : Nat} {R : Nat → Nat → Int} {mn : Nat → Int} {H : Heap} (h : EQ D E e0 R mn H) : e0 + 264 < H.size := by
  have := (h.2.2.2.2 127 (by omega) (by omega)).lt
  omega
theorem EQ.k {D : va_G} {E : Nat → ClassId} {e0 : Nat} {R : Nat → Nat → Int} {mn : Nat → Int} {H H1 : Heap} (h : EQ D E e0 R mn H) (hq : ∀ q, e0 ≤ q → q ≤ e0 + 264 → q < H.size → H1[q]? = H[q]?) : EQ D E e0 R mn H1 := by
  have hl := h.lt
  obtain ⟨h0, h1, h2, h3, h4⟩ := h
  exact ⟨h0.k (hq _ (by omega) (by omega) (by omega)), h1.k (hq _ (by omega) (by omega) (by omega)), h2.k (fun q a b c => hq q (by omega) (by omega) c), h3.k (hq _ (by omega) (by omega) (by omega)), h4.k (fun q a b c => hq q (by omega) (by omega) c)⟩
theorem MN.up {D : va_G} {E : Nat → ClassId} {e0 x : Nat} {mn : Nat → Int} {v : Int} {H : Heap} (h : MN D E e0 x mn H) (hw : WH D E (e0 + 9 + 2 * x) 8 v H) : MN D E e0 128 (ud mn x v) H := fun i hi _ => by
  by_cases e : i = x
  · subst e; rw [ud_s]; exact hw
  · rw [ud_n _ _ e]; exact h i hi e
/-- an equation's row: the place of each state, and the right side behind -/
def eqr (σ : MS) (i st t : Nat) : Int := if t = mN σ then gc0 σ i else - gct σ i t + (if t = st then gsc σ i else 0)
def uR (R : Nat → Nat → Int) (st : Nat) (row : Nat → Int) : Nat → Nat → Int := fun q => if q = st then row else R q
set_option maxHeartbeats 4000000 in
set_option maxRecDepth 100000 in
/-- writeRow(model, state, action) -/
theorem c_writeRow (l : Launch) (D : va_G) (E : Nat → ClassId) (e0 m0 st i : Nat) (σ : MS) (R : Nat → Nat → Int) (mn : Nat → Int) (hok : mOK σ) (hi : i < 24) (hst : st < mN σ) (hem : e0 + 264 < m0 ∨ m0 + 50 < e0) : pw_M rvV l D E yX2_writeRow wsX2_writeRow ({ frames := 0, cells := 0, slots := 0, locals := 0 } : Room) [.ref (e0), .ref (m0), .int (iI ((st : Int))), .ref (m0 + 3 + 2 * i)] (fun H => EQ D E e0 R mn H ∧ MO D E m0 σ H) (fun _ H => ∃ row, (∀ t, t ≤ mN σ → row t = eqr σ i st t) ∧ EQ D E e0 (uR R st row) mn H) (fun q => q = e0 + 2 + st) (0) (0) := by
  refine pw_of (cc := cX2_writeRow) (maxL := 6) (ret := none) (by decide +kernel) rfl (Nat.le_of_ble_eq_true rfl) ?_
  intro p e s m args below meth c hx hb hr hml hts hown hlocks hini hK ⟨⟨hEO, hEQ, hRS, hEM, hMN⟩, hM⟩ ls hl
  have hown : s.vm.findClass RX2 = some m.cls := hown
  have hl : lv_has ls 6 [(0, .ref (e0)), (1, .ref (m0)), (2, .int (iI ((st : Int)))), (3, .ref (m0 + 3 + 2 * i))] := hl
  have hS : va_S (fun q => q = e0 + 2 + st) s.heap s.heap [] := va_S.rf
  have lk_11 := hts (.fieldLink RX2 11 "PolicyWorks$Equations" "rows" "[[I") (by decide +kernel)
  have lk_25 := hts (.fieldLink RX2 25 "PolicyWorks$Model" "states" "I") (by decide +kernel)
  have lk_65 := hts (.fieldLink RX2 65 "PolicyWorks$Action" "below" "I") (by decide +kernel)
  have lk_69 := hts (.fieldLink RX2 69 "PolicyWorks$Model" "discountAbove" "I") (by decide +kernel)
  have lk_72 := hts (.fieldLink RX2 72 "PolicyWorks$Action" "weights" "[I") (by decide +kernel)
  have lk_76 := hts (.fieldLink RX2 76 "PolicyWorks$Model" "discountBelow" "I") (by decide +kernel)
  have lk_79 := hts (.fieldLink RX2 79 "PolicyWorks$Action" "total" "I") (by decide +kernel)
  have lk_82 := hts (.fieldLink RX2 82 "PolicyWorks$Action" "above" "I") (by decide +kernel)
  have hin0 : ∀ w ∈ wsX00, w ∈ wsX2_writeRow := by decide +kernel
  have hin2 : ∀ w ∈ wsX20, w ∈ wsX2_writeRow := by decide +kernel
  have hin6 : ∀ w ∈ wsX60, w ∈ wsX2_writeRow := by decide +kernel
  have hN6 := hok.1
  have hMO := hM.1
  have hAO := (hM.2.2.2 i hi).1
  have hAW := (hM.2.2.2 i hi).2
  have hrow := hRS st (by omega)
  have hRX : ∀ i, i < 6 → i ≠ st → IA E (e0 + 2 + i) 7 (R i) s.heap := fun i h1 _ => hRS i h1
  have loop : ∀ (k t : Nat) (g : Nat → Int) (H : Heap) (locs : List Loc) (ls : Array Slot), t + k = mN σ → (∀ j, j < t → g j = - gct σ i j) → OA D (e0) 2 [.ref (e0 + 1), .ref (e0 + 8)] H → QA E 6 (e0 + 1) 6 (fun i => some (e0 + 2 + i)) H → QA E 5 (e0 + 8) 128 (fun i => some (e0 + 9 + 2 * i)) H → MN D E e0 128 mn H → IA E (e0 + 2 + st) 7 g H → (∀ i, i < 6 → i ≠ st → IA E (e0 + 2 + i) 7 (R i) H) → MO D E m0 σ H → va_S (fun q => q = e0 + 2 + st) s.heap H locs → lv_has ls 6 [(0, .ref (e0)), (1, .ref (m0)), (2, .int (iI ((st : Int)))), (3, .ref (m0 + 3 + 2 * i)), (4, .ref (e0 + 2 + st)), (5, .int (iI ((t : Int))))] → W p l e ({ frames := 0, cells := 0, slots := 0, locals := 0 } : Room) s m args below meth c H locs (0) (0) (MQ below (pw_Q rvV (fun _ H => ∃ row, (∀ t, t ≤ mN σ → row t = eqr σ i st t) ∧ EQ D E e0 (uR R st row) mn H) (fun q => q = e0 + 2 + st)) args s (0) (0) (fun q => q = e0 + 2 + st)) (F0 m 11 ls []) := by
    intro k
    induction k with
    | zero =>
      intro t g H locs ls ht h0 hEO hEQ hEM hMN hrow hRX hM hS hl
      have hMO := hM.1
      have hAO := (hM.2.2.2 i hi).1
      have hAW := (hM.2.2.2 i hi).2
      have et : t = mN σ := by omega
      refine lv_iload hx hb dX2_writeRow_11 (lv_at hl 5 rfl) ?_
      refine lv_aload_n hx hb dX2_writeRow_13 rfl (lv_at hl 1 rfl) ?_
      refine pw_get (C := RX6) (T := TX6) (N := 5) hx hb hts hin6 hown hK hMO rfl 2 (by decide) lk_25 rfl rfl dX2_writeRow_14 ?_
      refine pw_icmp_ge (tgt := 49) hx hb dX2_writeRow_17 (by decide) (fun c_17 => ?_) (fun c_17 => absurd c_17 (by omega))
      refine lv_aload hx hb dX2_writeRow_49 (lv_at hl 4 rfl) ?_
      refine lv_iload_n hx hb dX2_writeRow_51 rfl (lv_at hl 2 rfl) ?_
      refine lv_dup2_11 hx hb dX2_writeRow_52 rfl rfl ?_
      refine pw_iald hx hb hK hrow (st) rfl (by omega) (by omega) dX2_writeRow_53 ?_
      refine lv_aload_n hx hb dX2_writeRow_54 rfl (lv_at hl 3 rfl) ?_
      refine pw_get (C := RX0) (T := TX0) (N := 4) hx hb hts hin0 hown hK hAO rfl 2 (by decide) lk_65 rfl rfl dX2_writeRow_55 ?_
      refine lv_aload_n hx hb dX2_writeRow_58 rfl (lv_at hl 1 rfl) ?_
      refine pw_get (C := RX6) (T := TX6) (N := 5) hx hb hts hin6 hown hK hMO rfl 4 (by decide) lk_76 rfl rfl dX2_writeRow_59 ?_
      refine pw_imul hx hb dX2_writeRow_62 ?_
      refine lv_aload_n hx hb dX2_writeRow_63 rfl (lv_at hl 3 rfl) ?_
      refine pw_get (C := RX0) (T := TX0) (N := 4) hx hb hts hin0 hown hK hAO rfl 3 (by decide) lk_79 rfl rfl dX2_writeRow_64 ?_
      refine pw_imul hx hb dX2_writeRow_67 ?_
      refine pw_asi (gsc σ i) rfl ?_
      refine pw_iadd hx hb dX2_writeRow_68 ?_
      refine pw_iast hx hb hK hrow hS rfl (st) rfl (by omega) (by omega) dX2_writeRow_69 (fun H1 locs1 hnew hz1 oq hS => ?_)
      have hEO := hEO.k (oq _ (by omega))
      have hEQ := hEQ.k (oq _ (by omega))
      have hEM := hEM.k (oq _ (by omega))
      have hMN := hMN.k (fun q h1 h2 h3 => (oq _ (by omega)))
      have hRX : ∀ i, i < 6 → i ≠ st → IA E (e0 + 2 + i) 7 (R i) _ := fun i h1 h2 => (hRX i h1 h2).k (oq _ (by omega))
      have hMO := hMO.k (oq _ (by omega))
      have hM := hM.k (fun q h1 h2 h3 => (oq _ (by omega)))
      have hAO := hAO.k (oq _ (by omega))
      have hAW := hAW.k (oq _ (by omega))
      have hrow := hnew
      clear hnew oq hz1
      refine lv_aload hx hb dX2_writeRow_70 (lv_at hl 4 rfl) ?_
      refine lv_aload_n hx hb dX2_writeRow_72 rfl (lv_at hl 1 rfl) ?_
      refine pw_get (C := RX6) (T := TX6) (N := 5) hx hb hts hin6 hown hK hMO rfl 2 (by decide) lk_25 rfl rfl dX2_writeRow_73 ?_
      refine lv_aload_n hx hb dX2_writeRow_76 rfl (lv_at hl 3 rfl) ?_
      refine pw_get (C := RX0) (T := TX0) (N := 4) hx hb hts hin0 hown hK hAO rfl 1 (by decide) lk_82 rfl rfl dX2_writeRow_77 ?_
      refine lv_aload_n hx hb dX2_writeRow_80 rfl (lv_at hl 1 rfl) ?_
      refine pw_get (C := RX6) (T := TX6) (N := 5) hx hb hts hin6 hown hK hMO rfl 4 (by decide) lk_76 rfl rfl dX2_writeRow_81 ?_
      refine pw_imul hx hb dX2_writeRow_84 ?_
      refine lv_aload_n hx hb dX2_writeRow_85 rfl (lv_at hl 3 rfl) ?_
      refine pw_get (C := RX0) (T := TX0) (N := 4) hx hb hts hin0 hown hK hAO rfl 3 (by decide) lk_79 rfl rfl dX2_writeRow_86 ?_
      refine pw_imul hx hb dX2_writeRow_89 ?_
      refine pw_asi (gc0 σ i) rfl ?_
      refine pw_iast hx hb hK hrow hS rfl (mN σ) rfl (by omega) (by omega) dX2_writeRow_90 (fun H1 locs1 hnew hz1 oq hS => ?_)
      have hEO := hEO.k (oq _ (by omega))
      have hEQ := hEQ.k (oq _ (by omega))
      have hEM := hEM.k (oq _ (by omega))
      have hMN := hMN.k (fun q h1 h2 h3 => (oq _ (by omega)))
      have hRX : ∀ i, i < 6 → i ≠ st → IA E (e0 + 2 + i) 7 (R i) _ := fun i h1 h2 => (hRX i h1 h2).k (oq _ (by omega))
      have hMO := hMO.k (oq _ (by omega))
      have hM := hM.k (fun q h1 h2 h3 => (oq _ (by omega)))
      have hAO := hAO.k (oq _ (by omega))
      have hAW := hAW.k (oq _ (by omega))
      have hrow := hnew
      clear hnew oq hz1
      refine pw_vret hx hb hr hlocks hS ⟨ud (ud g st (g st + gsc σ i)) (mN σ) (gc0 σ i), fun u hu => ?_, hEO, hEQ, ?_, hEM, hMN⟩ dX2_writeRow_91
      · unfold eqr
        by_cases e1 : u = mN σ
        · rw [if_pos e1, e1, ud_s]
        · rw [if_neg e1, ud_n _ _ e1]
          by_cases e2 : u = st
          · rw [if_pos e2, e2, ud_s, h0 st (by omega)]
          · rw [if_neg e2, ud_n _ _ e2, h0 u (by omega)]; omega
      · intro q hq
        by_cases e1 : q = st
        · subst e1; unfold uR; rw [if_pos rfl]; exact hrow
        · unfold uR; rw [if_neg e1]; exact hRX q hq e1
    | succ k ih =>
      intro t g H locs ls ht h0 hEO hEQ hEM hMN hrow hRX hM hS hl
      have hMO := hM.1
      have hAO := (hM.2.2.2 i hi).1
      have hAW := (hM.2.2.2 i hi).2
      refine lv_iload hx hb dX2_writeRow_11 (lv_at hl 5 rfl) ?_
      refine lv_aload_n hx hb dX2_writeRow_13 rfl (lv_at hl 1 rfl) ?_
      refine pw_get (C := RX6) (T := TX6) (N := 5) hx hb hts hin6 hown hK hMO rfl 2 (by decide) lk_25 rfl rfl dX2_writeRow_14 ?_
      refine pw_icmp_ge (tgt := 49) hx hb dX2_writeRow_17 (by decide) (fun c_17 => absurd c_17 (by omega)) (fun c_17 => ?_)
      refine lv_aload hx hb dX2_writeRow_20 (lv_at hl 4 rfl) ?_
      refine lv_iload hx hb dX2_writeRow_22 (lv_at hl 5 rfl) ?_
      refine lv_aload_n hx hb dX2_writeRow_24 rfl (lv_at hl 3 rfl) ?_
      refine pw_get (C := RX0) (T := TX0) (N := 4) hx hb hts hin0 hown hK hAO rfl 2 (by decide) lk_65 rfl rfl dX2_writeRow_25 ?_
      refine pw_ineg hx hb dX2_writeRow_28 ?_
      refine lv_aload_n hx hb dX2_writeRow_29 rfl (lv_at hl 1 rfl) ?_
      refine pw_get (C := RX6) (T := TX6) (N := 5) hx hb hts hin6 hown hK hMO rfl 3 (by decide) lk_69 rfl rfl dX2_writeRow_30 ?_
      refine pw_imul hx hb dX2_writeRow_33 ?_
      refine lv_aload_n hx hb dX2_writeRow_34 rfl (lv_at hl 3 rfl) ?_
      refine pw_get (C := RX0) (T := TX0) (N := 4) hx hb hts hin0 hown hK hAO rfl 0 (by decide) lk_72 rfl rfl dX2_writeRow_35 ?_
      refine lv_iload hx hb dX2_writeRow_38 (lv_at hl 5 rfl) ?_
      refine pw_iald hx hb hK hAW (t) rfl (by omega) (by omega) dX2_writeRow_40 ?_
      refine pw_asi ((mW σ i (t) : Int)) rfl ?_
      refine pw_imul hx hb dX2_writeRow_41 ?_
      refine pw_asi (- gct σ i t) (by unfold gct; rw [Int.neg_mul, Int.neg_mul]) ?_
      refine pw_iast hx hb hK hrow hS rfl (t) rfl (by omega) (by omega) dX2_writeRow_42 (fun H1 locs1 hnew hz1 oq hS => ?_)
      have hEO := hEO.k (oq _ (by omega))
      have hEQ := hEQ.k (oq _ (by omega))
      have hEM := hEM.k (oq _ (by omega))
      have hMN := hMN.k (fun q h1 h2 h3 => (oq _ (by omega)))
      have hRX : ∀ i, i < 6 → i ≠ st → IA E (e0 + 2 + i) 7 (R i) _ := fun i h1 h2 => (hRX i h1 h2).k (oq _ (by omega))
      have hMO := hMO.k (oq _ (by omega))
      have hM := hM.k (fun q h1 h2 h3 => (oq _ (by omega)))
      have hAO := hAO.k (oq _ (by omega))
      have hAW := hAW.k (oq _ (by omega))
      have hrow := hnew
      clear hnew oq hz1
      refine lv_iinc (v := iI (((t + 1 : Nat) : Int))) (lv' := [(5, .int (iI (((t + 1 : Nat) : Int)))), (0, .ref (e0)), (1, .ref (m0)), (2, .int (iI ((st : Int)))), (3, .ref (m0 + 3 + 2 * i)), (4, .ref (e0 + 2 + st))]) hx hb dX2_writeRow_43 hl (k := 5) rfl (by show iI _ + iI _ = _; exact (iI_add _ _).trans (by first | rfl | (congr 1; omega))) (by decide) rfl (fun ls hl => ?_)
      refine lv_goto (tgt := 11) hx hb dX2_writeRow_46 (by decide) ?_
      exact ih (t + 1) _ _ _ _ (by omega) (fun j hj => ud_ext h0 rfl j hj) hEO hEQ hEM hMN hrow hRX hM hS (lv_sub hl [1, 2, 3, 4, 5, 0] rfl)
  refine lv_aload_n hx hb dX2_writeRow_0 rfl (lv_at hl 0 rfl) ?_
  refine pw_get (C := RX2) (T := TX2) (N := 2) hx hb hts hin2 hown hK hEO rfl 0 (by decide) lk_11 rfl rfl dX2_writeRow_1 ?_
  refine lv_iload_n hx hb dX2_writeRow_4 rfl (lv_at hl 2 rfl) ?_
  refine pw_qalda hx hb hK hEQ (st) rfl (by omega) (by omega) rfl dX2_writeRow_5 ?_
  refine lv_astore (lv' := [(4, .ref (e0 + 2 + st)), (0, .ref (e0)), (1, .ref (m0)), (2, .int (iI ((st : Int)))), (3, .ref (m0 + 3 + 2 * i))]) hx hb dX2_writeRow_6 hl (by decide) rfl (fun ls hl => ?_)
  refine pw_iconst hx hb dX2_writeRow_8 ?_
  refine lv_istore (lv' := [(5, .int (iI (0))), (4, .ref (e0 + 2 + st)), (0, .ref (e0)), (1, .ref (m0)), (2, .int (iI ((st : Int)))), (3, .ref (m0 + 3 + 2 * i))]) hx hb dX2_writeRow_9 hl (by decide) rfl (fun ls hl => ?_)
  exact loop (mN σ) 0 _ _ _ _ (by omega) (fun j hj => by omega) hEO hEQ hEM hMN hrow hRX hM hS (lv_sub hl [2, 3, 4, 5, 1, 0] rfl)
theorem p168 {k : Nat} (h : k ≤ 6) : 16800000 ^ k < 1000000 ^ 8 := by
  have h1 : 16800000 ^ k ≤ 16800000 ^ 6 := Nat.pow_le_pow_right (by omega) h
  have h2 : 16800000 ^ 6 < 1000000 ^ 8 := by decide +kernel
  omega
theorem alt_s {w : Nat → Int} {k : Nat} {cs : List Nat} {F : List Nat → Int} : alt w (k :: cs) F = w k * F cs - alt w cs (fun M => F (k :: M)) := rfl
theorem bl_s {m c : Nat} (h : m / 2 ^ c % 2 = 1) : bl m (c + 1) = c :: bl m c := by show (if _ then _ else _) = _; rw [if_pos h]
theorem bl_n {m c : Nat} (h : ¬ m / 2 ^ c % 2 = 1) : bl m (c + 1) = bl m c := by show (if _ then _ else _) = _; rw [if_neg h]
theorem p2_mono {a b : Nat} (h : a ≤ b) : 2 ^ a ≤ 2 ^ b := Nat.pow_le_pow_right (by omega) h
/-- one column of an expansion -/
theorem exp_set {M : Nat → Nat → Int} {p cols k : Nat} (hm : cols < 128) (hk : k < 7) (hb : cols / 2 ^ k % 2 = 1) : alt (M p) (bl cols (k + 1)) (fun L => dl M p (hi cols (k + 1) ++ L)) = M p k * dl M p (bl (cols ^^^ 2 ^ k) 7) - alt (M p) (bl cols k) (fun L => dl M p (hi cols k ++ L)) := by
  rw [bl_s hb, alt_s, (bl_x hm hk hb).1, hi_s hm hk hb]
  congr 2
  funext L
  rw [List.append_assoc]
  rfl
theorem exp_no {M : Nat → Nat → Int} {p cols k : Nat} (hm : cols < 128) (hk : k < 7) (hb : ¬ cols / 2 ^ k % 2 = 1) : alt (M p) (bl cols (k + 1)) (fun L => dl M p (hi cols (k + 1) ++ L)) = alt (M p) (bl cols k) (fun L => dl M p (hi cols k ++ L)) := by
  rw [bl_n hb, hi_n hm hk hb]
set_option maxHeartbeats 4000000 in
set_option maxRecDepth 100000 in
/-- expand(columns, n) -/
theorem c_expand (l : Launch) (D : va_G) (E : Nat → ClassId) (e0 n cols : Nat) (R Mx : Nat → Nat → Int) (mn : Nat → Int) (hn : n ≤ 6) (hc1 : 0 < cols) (hc2 : cols + 1 < 2 ^ (n + 1)) (hRM : ∀ i c, i < n → c ≤ n → R i c = Mx i c) (hMb : ∀ i c, (Mx i c).natAbs ≤ 2400000) (hmn : ∀ j, j < cols → mn j = dl Mx (pop j) (bl j 7)) : pw_M rvV l D E yX2_expand wsX2_expand ({ frames := 2, cells := 0, slots := 0, locals := 65 } : Room) [.ref (e0), .int (iI ((cols : Int))), .int (iI ((n : Int)))] (fun H => EQ D E e0 R mn H) (fun _ H => EQ D E e0 R (ud mn cols (dl Mx (pop cols) (bl cols 7))) H) (fun q => q = e0 + 9 + 2 * cols ∨ q = e0 + 9 + 2 * cols + 1) (0) (0) := by
  refine pw_of (cc := cX2_expand) (maxL := 7) (ret := none) (by decide +kernel) rfl (Nat.le_of_ble_eq_true rfl) ?_
  intro p e s m args below meth c hx hb hr hml hts hown hlocks hini hK ⟨hEO, hEQ, hRS, hEM, hMN⟩ ls hl
  have hown : s.vm.findClass RX2 = some m.cls := hown
  have hl : lv_has ls 7 [(0, .ref (e0)), (1, .int (iI ((cols : Int)))), (2, .int (iI ((n : Int))))] := hl
  have hS : va_S (fun q => q = e0 + 9 + 2 * cols ∨ q = e0 + 9 + 2 * cols + 1) s.heap s.heap [] := va_S.rf
  have lk_11 := hts (.fieldLink RX2 11 "PolicyWorks$Equations" "rows" "[[I") (by decide +kernel)
  have lk_18 := hts (.fieldLink RX2 18 "PolicyWorks$Equations" "minors" "[LPolicyWorks$Whole;") (by decide +kernel)
  have hin2 : ∀ w ∈ wsX20, w ∈ wsX2_expand := by decide +kernel
  have hp7 : 2 ^ (n + 1) ≤ 128 := p2_mono (show n + 1 ≤ 7 by omega)
  have hcl : cols < 128 := by omega
  obtain ⟨hpp, hpn⟩ := pop_b (show n < 7 by omega) hc2 hc1
  obtain ⟨pm, hpm⟩ : ∃ pm, pop cols = pm + 1 := ⟨pop cols - 1, by omega⟩
  have hrow := hRS pm (by omega)
  have hMX : MN D E e0 cols mn s.heap := fun i h1 h2 => hMN i h1 (by omega)
  obtain ⟨kz, hR⟩ := (hMN cols hcl (by omega)).r
  have hT := dl_b hMb (pop cols) (bl cols 7) (bl_len hcl)
  have hTb := int_lt (Nat.lt_of_le_of_lt hT (p168 (show pop cols ≤ 6 by omega)))
  have hTe : dl Mx (pop cols) (bl cols 7) = alt (Mx pm) (bl cols 7) (dl Mx pm) := by rw [hpm]; rfl
  have loop : ∀ (k : Nat) (sg : Int) (f : Nat → Int) (H : Heap) (locs : List Loc) (ls : Array Slot), k ≤ n + 1 → (sg = 1 ∨ sg = -1) → wv f 8 + sg * alt (Mx pm) (bl cols k) (fun L => dl Mx pm (hi cols k ++ L)) = dl Mx (pop cols) (bl cols 7) → (∀ j, (f j).natAbs ≤ (7 - k) * 2400000000000) → OA D (e0) 2 [.ref (e0 + 1), .ref (e0 + 8)] H → QA E 6 (e0 + 1) 6 (fun i => some (e0 + 2 + i)) H → QA E 5 (e0 + 8) 128 (fun i => some (e0 + 9 + 2 * i)) H → RS E e0 R H → MN D E e0 cols mn H → WR D E (e0 + 9 + 2 * cols) 8 f 0 0 H → va_S (fun q => q = e0 + 9 + 2 * cols ∨ q = e0 + 9 + 2 * cols + 1) s.heap H locs → lv_has ls 7 [(0, .ref (e0)), (1, .int (iI ((cols : Int)))), (2, .int (iI ((n : Int)))), (3, .ref (e0 + 2 + pm)), (4, .ref (e0 + 9 + 2 * cols)), (5, .int (iI (sg))), (6, .int (iI ((k : Int) - 1)))] → W p l e ({ frames := 2, cells := 0, slots := 0, locals := 65 } : Room) s m args below meth c H locs (0) (0) (MQ below (pw_Q rvV (fun _ H => EQ D E e0 R (ud mn cols (dl Mx (pop cols) (bl cols 7))) H) (fun q => q = e0 + 9 + 2 * cols ∨ q = e0 + 9 + 2 * cols + 1)) args s (0) (0) (fun q => q = e0 + 9 + 2 * cols ∨ q = e0 + 9 + 2 * cols + 1)) (F0 m 31 ls []) := by
    intro k
    induction k with
    | zero =>
      intro sg f H locs ls hk hsg hinv hfb hEO hEQ hEM hRS hMX hR hS hl
      have hrow := hRS pm (by omega)
      have hinv : wv f 8 + sg * 0 = dl Mx (pop cols) (bl cols 7) := hinv
      have hwv : wv f 8 = dl Mx (pop cols) (bl cols 7) := by omega
      refine lv_iload hx hb dX2_expand_31 (lv_at hl 6 rfl) ?_
      refine pw_if_lt (tgt := 88) hx hb dX2_expand_33 (by decide) (fun c_33 => ?_) (fun c_33 => absurd c_33 (by omega))
      refine lv_aload hx hb dX2_expand_88 (lv_at hl 4 rfl) ?_
      refine pw_callVv (As := []) (rest := []) ⟨hx, hb, hml, hown, hts⟩ (c_settle l D E (e0 + 9 + 2 * cols) 8 f 0 0 (by omega) (fun j _ => by have := hfb j; omega) (by rw [hwv]; exact hTb.1) (by rw [hwv]; exact hTb.2)) (cwV 0 hts gX2_expand_X8_settle rfl rfl rfl (by decide +kernel) ⟨Nat.le_of_ble_eq_true rfl, Nat.le_of_ble_eq_true rfl⟩) hK hR.1 rfl hR rfl hl.1 rfl (Nat.le_of_ble_eq_true rfl) dX2_expand_90 ⟨Nat.zero_le _, Nat.zero_le _⟩ hS (fun q h => h) (fun H1 locs1 hW hz1 hk1 hS => ?_)
      have hEO := hEO.k (hk1 _ hEO.lt (by (try dsimp only); omega))
      have hEQ := hEQ.k (hk1 _ hEQ.lt (by (try dsimp only); omega))
      have hEM := hEM.k (hk1 _ hEM.lt (by (try dsimp only); omega))
      have hRS := hRS.k (fun q h1 h2 h3 => (hk1 _ h3 (by (try dsimp only); omega)))
      have hrow := hrow.k (hk1 _ hrow.lt (by (try dsimp only); omega))
      have hMX := hMX.k (fun q h1 h2 h3 => (hk1 _ h3 (by (try dsimp only); omega)))
      rw [hwv] at hW
      exact pw_vret hx hb hr hlocks hS ⟨hEO, hEQ, hRS, hEM, hMX.up hW⟩ dX2_expand_93
    | succ k ih =>
      intro sg f H locs ls hk hsg hinv hfb hEO hEQ hEM hRS hMX hR hS hl
      have hrow := hRS pm (by omega)
      have ek : ((k + 1 : Nat) : Int) - 1 = (k : Int) := by omega
      obtain ⟨jb1, jb2, jb3, jb4⟩ := j_bit hcl (show k < 7 by omega)
      have hMk := hMb pm k
      have hRk := hRM pm k (by omega) (by omega)
      have hm2 : cols / 2 ^ k % 2 = 0 ∨ cols / 2 ^ k % 2 = 1 := by omega
      refine lv_iload hx hb dX2_expand_31 (lv_at hl 6 rfl) ?_
      refine pw_if_lt (tgt := 88) hx hb dX2_expand_33 (by decide) (fun c_33 => absurd c_33 (by omega)) (fun c_33 => ?_)
      refine lv_iload_n hx hb dX2_expand_36 rfl (lv_at hl 1 rfl) ?_
      refine lv_iload hx hb dX2_expand_37 (lv_at hl 6 rfl) ?_
      refine pw_asi (k : Int) ek ?_
      refine lv_ishr hx hb dX2_expand_39 ?_
      refine pw_eqi (((cols / 2 ^ k : Nat) : Int)) jb1 ?_
      refine pw_iconst hx hb dX2_expand_40 ?_
      refine lv_iand hx hb dX2_expand_41 ?_
      refine pw_eqi (((cols / 2 ^ k % 2 : Nat) : Int)) jb2 ?_
      refine pw_if_eq (tgt := 82) hx hb dX2_expand_42 (by decide) (fun c_42 => ?_) (fun c_42 => ?_)
      · refine lv_iinc (v := iI ((k : Int) - 1)) (lv' := [(6, .int (iI ((k : Int) - 1))), (0, .ref (e0)), (1, .int (iI ((cols : Int)))), (2, .int (iI ((n : Int)))), (3, .ref (e0 + 2 + pm)), (4, .ref (e0 + 9 + 2 * cols)), (5, .int (iI (sg)))]) hx hb dX2_expand_82 hl (k := 6) rfl (by show iI _ + iI _ = _; exact (iI_add _ _).trans (by first | rfl | (congr 1; omega))) (by decide) rfl (fun ls hl => ?_)
        refine lv_goto (tgt := 31) hx hb dX2_expand_85 (by decide) ?_
        have hbs : ¬ cols / 2 ^ k % 2 = 1 := by omega
        rw [exp_no hcl (show k < 7 by omega) hbs] at hinv
        exact ih sg f _ _ _ (by omega) hsg hinv (fun j => Nat.le_trans (hfb j) (Nat.mul_le_mul_right _ (by omega))) hEO hEQ hEM hRS hMX hR hS (lv_sub hl [1, 2, 3, 4, 5, 6, 0] rfl)
      · have hbs : cols / 2 ^ k % 2 = 1 := by omega
        obtain ⟨bx1, bx2, bx3⟩ := bl_x hcl (show k < 7 by omega) hbs
        have hmk := hmn (cols ^^^ 2 ^ k) bx2
        have hpk : pop (cols ^^^ 2 ^ k) = pm := by omega
        rw [hpk] at hmk
        have hex := exp_set (M := Mx) (p := pm) hcl (show k < 7 by omega) hbs
        rw [hex, Int.mul_sub] at hinv
        refine lv_aload_n hx hb dX2_expand_45 rfl (lv_at hl 3 rfl) ?_
        refine lv_iload hx hb dX2_expand_46 (lv_at hl 6 rfl) ?_
        refine pw_iald hx hb hK hrow (k) (by omega) (by omega) (by omega) dX2_expand_48 ?_
        refine pw_if_eq (tgt := 77) hx hb dX2_expand_49 (by decide) (fun c_49 => ?_) (fun c_49 => ?_) (by rw [hRk]; omega) (by rw [hRk]; omega)
        · refine lv_iload hx hb dX2_expand_77 (lv_at hl 5 rfl) ?_
          refine pw_ineg hx hb dX2_expand_79 ?_
          refine lv_istore (lv' := [(5, .int (iI (-(sg)))), (0, .ref (e0)), (1, .int (iI ((cols : Int)))), (2, .int (iI ((n : Int)))), (3, .ref (e0 + 2 + pm)), (4, .ref (e0 + 9 + 2 * cols)), (6, .int (iI (((k + 1 : Nat) : Int) - 1)))]) hx hb dX2_expand_80 hl (by decide) rfl (fun ls hl => ?_)
          refine lv_iinc (v := iI ((k : Int) - 1)) (lv' := [(6, .int (iI ((k : Int) - 1))), (5, .int (iI (-(sg)))), (0, .ref (e0)), (1, .int (iI ((cols : Int)))), (2, .int (iI ((n : Int)))), (3, .ref (e0 + 2 + pm)), (4, .ref (e0 + 9 + 2 * cols))]) hx hb dX2_expand_82 hl (k := 6) rfl (by show iI _ + iI _ = _; exact (iI_add _ _).trans (by first | rfl | (congr 1; omega))) (by decide) rfl (fun ls hl => ?_)
          refine lv_goto (tgt := 31) hx hb dX2_expand_85 (by decide) ?_
          have hz : Mx pm k = 0 := by rw [← hRk]; exact c_49
          rw [hz, Int.zero_mul, Int.mul_zero] at hinv
          exact ih (-sg) f _ _ _ (by omega) (by omega) (by rw [Int.neg_mul]; omega) (fun j => Nat.le_trans (hfb j) (Nat.mul_le_mul_right _ (by omega))) hEO hEQ hEM hRS hMX hR hS (lv_sub hl [2, 3, 4, 5, 6, 1, 0] rfl)
        · refine lv_aload hx hb dX2_expand_52 (lv_at hl 4 rfl) ?_
          refine lv_aload_n hx hb dX2_expand_54 rfl (lv_at hl 0 rfl) ?_
          refine pw_get (C := RX2) (T := TX2) (N := 2) hx hb hts hin2 hown hK hEO rfl 1 (by decide) lk_18 rfl rfl dX2_expand_55 ?_
          refine lv_iload_n hx hb dX2_expand_58 rfl (lv_at hl 1 rfl) ?_
          refine pw_iconst hx hb dX2_expand_59 ?_
          refine lv_iload hx hb dX2_expand_60 (lv_at hl 6 rfl) ?_
          refine pw_asi (k : Int) ek ?_
          refine lv_ishl hx hb dX2_expand_62 ?_
          refine pw_eqi (((2 ^ k : Nat) : Int)) jb3 ?_
          refine lv_ixor hx hb dX2_expand_63 ?_
          refine pw_eqi ((((cols ^^^ 2 ^ k) : Nat) : Int)) jb4 ?_
          refine pw_qald hx hb hK hEM rfl ((cols ^^^ 2 ^ k)) rfl (by omega) (by omega) rfl dX2_expand_64 ?_
          refine lv_iload hx hb dX2_expand_65 (lv_at hl 5 rfl) ?_
          refine pw_i2l hx hb dX2_expand_67 ?_
          refine lv_aload_n hx hb dX2_expand_68 rfl (lv_at hl 3 rfl) ?_
          refine lv_iload hx hb dX2_expand_69 (lv_at hl 6 rfl) ?_
          refine pw_iald hx hb hK hrow (k) (by omega) (by omega) (by omega) dX2_expand_71 ?_
          have hrr : -2147483648 ≤ R pm k ∧ R pm k ≤ 2147483647 := by rw [hRk]; omega
          refine pw_i2l hx hb dX2_expand_72 ?_
          refine pw_lmul hx hb dX2_expand_73 ?_
          refine pw_callVv (As := [.ref (e0 + 9 + 2 * (cols ^^^ 2 ^ k)), .long (lI ((sg) * ((R pm) (k))))]) (rest := []) ⟨hx, hb, hml, hown, hts⟩ (c_add l D E (e0 + 9 + 2 * cols) 8 (e0 + 9 + 2 * (cols ^^^ 2 ^ k)) 8 f 0 0 (mn (cols ^^^ 2 ^ k)) (sg * R pm k) (by omega) (by omega) (by omega)) (cwV 2 hts gX2_expand_X8_add rfl rfl rfl (by decide +kernel) ⟨Nat.le_of_ble_eq_true rfl, Nat.le_of_ble_eq_true rfl⟩) hK hR.1 rfl ⟨hR, hMX (cols ^^^ 2 ^ k) (by omega) (by omega)⟩ rfl hl.1 rfl (Nat.le_of_ble_eq_true rfl) dX2_expand_74 ⟨Nat.zero_le _, Nat.zero_le _⟩ hS (fun q h => h) (fun H1 locs1 hR hz1 hk1 hS => ?_)
          have hEO := hEO.k (hk1 _ hEO.lt (by (try dsimp only); omega))
          have hEQ := hEQ.k (hk1 _ hEQ.lt (by (try dsimp only); omega))
          have hEM := hEM.k (hk1 _ hEM.lt (by (try dsimp only); omega))
          have hRS := hRS.k (fun q h1 h2 h3 => (hk1 _ h3 (by (try dsimp only); omega)))
          have hrow := hrow.k (hk1 _ hrow.lt (by (try dsimp only); omega))
          have hMX := hMX.k (fun q h1 h2 h3 => (hk1 _ h3 (by (try dsimp only); omega)))
          refine lv_iload hx hb dX2_expand_77 (lv_at hl 5 rfl) ?_
          refine pw_ineg hx hb dX2_expand_79 ?_
          refine lv_istore (lv' := [(5, .int (iI (-(sg)))), (0, .ref (e0)), (1, .int (iI ((cols : Int)))), (2, .int (iI ((n : Int)))), (3, .ref (e0 + 2 + pm)), (4, .ref (e0 + 9 + 2 * cols)), (6, .int (iI (((k + 1 : Nat) : Int) - 1)))]) hx hb dX2_expand_80 hl (by decide) rfl (fun ls hl => ?_)
          refine lv_iinc (v := iI ((k : Int) - 1)) (lv' := [(6, .int (iI ((k : Int) - 1))), (5, .int (iI (-(sg)))), (0, .ref (e0)), (1, .int (iI ((cols : Int)))), (2, .int (iI ((n : Int)))), (3, .ref (e0 + 2 + pm)), (4, .ref (e0 + 9 + 2 * cols))]) hx hb dX2_expand_82 hl (k := 6) rfl (by show iI _ + iI _ = _; exact (iI_add _ _).trans (by first | rfl | (congr 1; omega))) (by decide) rfl (fun ls hl => ?_)
          refine lv_goto (tgt := 31) hx hb dX2_expand_85 (by decide) ?_
          have hvb := (hMX (cols ^^^ 2 ^ k) (by omega) (by omega)).b
          have hsb : (sg * R pm k).natAbs ≤ 2400000 := by rw [hRk, Int.natAbs_mul]; rcases hsg with h | h <;> rw [h] <;> simp <;> exact hMk
          refine ih (-sg) _ _ _ _ (by omega) (by omega) ?_ (fun j => by have h1 := hfb j; have h2 := dig_b hsb (mn (cols ^^^ 2 ^ k)) j; omega) hEO hEQ hEM hRS hMX hR hS (lv_sub hl [2, 3, 4, 5, 6, 1, 0] rfl)
          rw [wv_lin, wv_wdig hvb, Int.neg_mul, hRk, hmk, Int.mul_assoc]
          omega
  refine lv_aload_n hx hb dX2_expand_0 rfl (lv_at hl 0 rfl) ?_
  refine pw_get (C := RX2) (T := TX2) (N := 2) hx hb hts hin2 hown hK hEO rfl 0 (by decide) lk_11 rfl rfl dX2_expand_1 ?_
  refine lv_iload_n hx hb dX2_expand_4 rfl (lv_at hl 1 rfl) ?_
  refine pw_callSi (As := [.int (iI ((cols : Int)))]) (rest := [.ref (e0 + 1)]) ⟨hx, hb, hml, hown, hts⟩ (c_bitCount l D E cols hcl) (va_cwS 1 hts gX2_expand_J6_bitCount_0f7a4 rfl rfl rfl (by decide +kernel) ⟨Nat.le_of_ble_eq_true rfl, Nat.le_of_ble_eq_true rfl⟩) hK trivial rfl hl.1 rfl (Nat.le_of_ble_eq_true rfl) dX2_expand_5 ⟨Nat.zero_le _, Nat.zero_le _⟩ hS (fun q h => h.elim) (fun z H1 locs1 hz hz1 hk1 hS => ?_)
  have hEO := hEO.k (hk1 _ hEO.lt (fun h => h))
  have hEQ := hEQ.k (hk1 _ hEQ.lt (fun h => h))
  have hEM := hEM.k (hk1 _ hEM.lt (fun h => h))
  have hRS := hRS.k (fun q h1 h2 h3 => (hk1 _ h3 (fun h => h)))
  have hrow := hrow.k (hk1 _ hrow.lt (fun h => h))
  have hMX := hMX.k (fun q h1 h2 h3 => (hk1 _ h3 (fun h => h)))
  have hR := hR.k (hk1 _ hR.1.lt (fun h => h)) (hk1 _ hR.2.lt (fun h => h))
  rw [hpm] at hz
  subst hz
  refine pw_iconst hx hb dX2_expand_8 ?_
  refine pw_isub hx hb dX2_expand_9 ?_
  refine pw_qalda hx hb hK hEQ (pm) (by omega) (by omega) (by omega) rfl dX2_expand_10 ?_
  refine lv_astore_n (lv' := [(3, .ref (e0 + 2 + pm)), (0, .ref (e0)), (1, .int (iI ((cols : Int)))), (2, .int (iI ((n : Int))))]) hx hb dX2_expand_11 rfl hl (by decide) rfl (fun ls hl => ?_)
  refine lv_aload_n hx hb dX2_expand_12 rfl (lv_at hl 1 rfl) ?_
  refine pw_get (C := RX2) (T := TX2) (N := 2) hx hb hts hin2 hown hK hEO rfl 1 (by decide) lk_18 rfl rfl dX2_expand_13 ?_
  refine lv_iload_n hx hb dX2_expand_16 rfl (lv_at hl 2 rfl) ?_
  refine pw_qald hx hb hK hEM rfl (cols) rfl (by omega) (by omega) rfl dX2_expand_17 ?_
  refine lv_astore (lv' := [(4, .ref (e0 + 9 + 2 * cols)), (3, .ref (e0 + 2 + pm)), (0, .ref (e0)), (1, .int (iI ((cols : Int)))), (2, .int (iI ((n : Int))))]) hx hb dX2_expand_18 hl (by decide) rfl (fun ls hl => ?_)
  refine lv_aload hx hb dX2_expand_20 (lv_at hl 0 rfl) ?_
  refine pw_callVv (As := []) (rest := []) ⟨hx, hb, hml, hown, hts⟩ (c_clear l D E (e0 + 9 + 2 * cols) 8 (wdig (mn cols)) kz (mn cols).sign (by omega)) (cwV 0 hts gX2_expand_X8_clear rfl rfl rfl (by decide +kernel) ⟨Nat.le_of_ble_eq_true rfl, Nat.le_of_ble_eq_true rfl⟩) hK hR.1 rfl hR rfl hl.1 rfl (Nat.le_of_ble_eq_true rfl) dX2_expand_22 ⟨Nat.zero_le _, Nat.zero_le _⟩ hS (fun q h => h) (fun H1 locs1 hR hz1 hk1 hS => ?_)
  have hEO := hEO.k (hk1 _ hEO.lt (by (try dsimp only); omega))
  have hEQ := hEQ.k (hk1 _ hEQ.lt (by (try dsimp only); omega))
  have hEM := hEM.k (hk1 _ hEM.lt (by (try dsimp only); omega))
  have hRS := hRS.k (fun q h1 h2 h3 => (hk1 _ h3 (by (try dsimp only); omega)))
  have hrow := hrow.k (hk1 _ hrow.lt (by (try dsimp only); omega))
  have hMX := hMX.k (fun q h1 h2 h3 => (hk1 _ h3 (by (try dsimp only); omega)))
  refine pw_iconst hx hb dX2_expand_25 ?_
  refine lv_istore (lv' := [(5, .int (iI (1))), (4, .ref (e0 + 9 + 2 * cols)), (3, .ref (e0 + 2 + pm)), (0, .ref (e0)), (1, .int (iI ((cols : Int)))), (2, .int (iI ((n : Int))))]) hx hb dX2_expand_26 hl (by decide) rfl (fun ls hl => ?_)
  refine lv_iload_n hx hb dX2_expand_28 rfl (lv_at hl 5 rfl) ?_
  refine lv_istore (lv' := [(6, .int (iI ((n : Int)))), (5, .int (iI (1))), (4, .ref (e0 + 9 + 2 * cols)), (3, .ref (e0 + 2 + pm)), (0, .ref (e0)), (1, .int (iI ((cols : Int)))), (2, .int (iI ((n : Int))))]) hx hb dX2_expand_29 hl (by decide) rfl (fun ls hl => ?_)
  have hl : lv_has ls 7 [(0, .ref (e0)), (1, .int (iI ((cols : Int)))), (2, .int (iI ((n : Int)))), (3, .ref (e0 + 2 + pm)), (4, .ref (e0 + 9 + 2 * cols)), (5, .int (iI (1))), (6, .int (iI (((n + 1 : Nat) : Int) - 1)))] := by rw [show ((n + 1 : Nat) : Int) - 1 = (n : Int) by omega]; exact lv_sub hl [4, 5, 6, 3, 2, 1, 0] rfl
  have ht0 := hi_top (show n < 7 by omega) (show cols < 2 ^ (n + 1) by omega)
  have hsp := bl_split hcl (show n + 1 < 8 by omega)
  rw [ht0, List.nil_append] at hsp
  refine loop (n + 1) 1 _ _ _ _ (Nat.le_refl _) (Or.inl rfl) ?_ (fun j => by simp) hEO hEQ hEM hRS hMX hR hS hl
  rw [wv_zero, ht0, hTe, hsp]
  simp
end
section
/-! the values of a policy -/
/-- v over b are the values of the policy π -/
def PV (σ : MS) (π : Nat → Nat) (v : Nat → Int) (b : Int) : Prop := 0 < b ∧ b.natAbs ≤ 16800000 ^ 6 ∧ ∀ s, s < mN σ → v s * gsc σ (4 * s + π s) = gnum σ (4 * s + π s) v b ∧ (v s).natAbs ≤ 16800000 ^ 6
def pm (σ : MS) (π : Nat → Nat) (i c : Nat) : Int := if i < mN σ ∧ c ≤ mN σ then eqr σ (4 * i + π i) i c else 0
theorem sI_tail0 {f : Nat → Int} {k : Nat} : ∀ {n : Nat}, k ≤ n → (∀ j, k ≤ j → j < n → f j = 0) → sI f n = sI f k
  | 0, h, _ => by rw [show k = 0 by omega]
  | n + 1, h, hf => by
    by_cases e : k = n + 1
    · rw [e]
    · have h1 := sI_tail0 (f := f) (k := k) (n := n) (by omega) (fun j a b => hf j a (by omega))
      have h2 := hf n (by omega) (by omega)
      show sI f n + f n = _
      omega
theorem sumW {σ : MS} (h : mOK σ) {i : Nat} (hi : i < 24) : sI (fun t => (mW σ i t : Int)) (mN σ) = (mT σ i : Int) := by
  have h6 := sI_tail0 (f := fun t => (mW σ i t : Int)) (k := mN σ) (n := 6) h.1 (fun j a b => by have := h.2.2.2.2.2.2.2 i j hi a b; simp [this])
  rw [← h6]
  unfold mT
  simp [sI]
theorem gsum_sI (σ : MS) (i : Nat) (v : Nat → Int) : ∀ k, gsum σ i v k = sI (fun t => gct σ i t * v t) k
  | 0 => rfl
  | k + 1 => by
    show gsum σ i v k + v k * gct σ i k = sI _ k + gct σ i k * v k
    rw [gsum_sI σ i v k, Int.mul_comm]
theorem gct_nn (σ : MS) (i t : Nat) : 0 ≤ gct σ i t := Int.mul_nonneg (Int.mul_nonneg (by omega) (by omega)) (by omega)
theorem pm_row {σ : MS} {π : Nat → Nat} {i : Nat} (hi : i < mN σ) (y : Nat → Int) : ∀ k, k ≤ mN σ → sI (fun j => pm σ π i j * y j) k = - sI (fun t => gct σ (4 * i + π i) t * y t) k + (if i < k then gsc σ (4 * i + π i) * y i else 0)
  | 0, _ => by simp [sI]
  | k + 1, hk => by
    have ih := pm_row (π := π) hi y k (by omega)
    have e : pm σ π i k = - gct σ (4 * i + π i) k + (if k = i then gsc σ (4 * i + π i) else 0) := by
      unfold pm eqr
      rw [if_pos ⟨hi, by omega⟩, if_neg (by omega)]
    show sI _ k + pm σ π i k * y k = - (sI _ k + gct σ (4 * i + π i) k * y k) + _
    rw [ih, e, Int.add_mul, Int.neg_mul]
    by_cases h1 : i < k
    · rw [if_pos h1, if_neg (by omega), if_pos (by omega), Int.zero_mul]
      omega
    · by_cases h2 : k = i
      · rw [if_neg h1, if_pos h2, if_pos (by omega), h2]
        omega
      · rw [if_neg h1, if_neg h2, if_neg (by omega), Int.zero_mul]
        omega
theorem pm_b {σ : MS} {π : Nat → Nat} (h : mOK σ) (hπ : ∀ s, s < mN σ → π s < mC σ s) (i c : Nat) : (pm σ π i c).natAbs ≤ 2400000 := by
  unfold pm
  by_cases e : i < mN σ ∧ c ≤ mN σ
  · rw [if_pos e]
    have hN := h.1
    have hC := h.2.1 i (by omega)
    have hp := hπ i e.1
    have hi : 4 * i + π i < 24 := by omega
    have h1 := gc0_b h hi
    have h3 := gsc_b h hi
    unfold eqr
    by_cases e1 : c = mN σ
    · rw [if_pos e1]; exact h1
    · have h2 := gct_b h hi (show c < 6 by omega)
      rw [if_neg e1]
      split <;> omega
  · rw [if_neg e]
    decide
theorem pm_z {σ : MS} {π : Nat → Nat} (h : mOK σ) (hr : rdy σ) (hπ : ∀ s, s < mN σ → π s < mC σ s) : zrow (pm σ π) (mN σ) := by
  intro i hi
  have hN := h.1
  have hC := h.2.1 i (by omega)
  have hp := hπ i hi
  have hi24 : 4 * i + π i < 24 := by omega
  refine ⟨fun j hj hne => ?_, ?_⟩
  · have := gct_nn σ (4 * i + π i) j
    unfold pm eqr
    rw [if_pos ⟨hi, by omega⟩, if_neg (by omega), if_neg hne]
    omega
  · have e := pm_row (π := π) hi (fun _ => 1) (mN σ) (Nat.le_refl _)
    rw [sI_congr (g := pm σ π i) (fun j _ => by omega), if_pos hi] at e
    have e2 : sI (fun t => gct σ (4 * i + π i) t * 1) (mN σ) = (mD σ (4 * i + π i) : Int) * (mA σ : Int) * (mT σ (4 * i + π i) : Int) := by
      have h1 := sI_lin (fun t => (mW σ (4 * i + π i) t : Int)) (fun _ => 0) ((mD σ (4 * i + π i) : Int) * (mA σ : Int)) 0 (mN σ)
      rw [sumW h hi24] at h1
      rw [sI_congr (g := fun t => (mD σ (4 * i + π i) : Int) * (mA σ : Int) * (mW σ (4 * i + π i) t : Int) + 0 * 0) (fun t _ => by unfold gct; omega), h1]
      omega
    rw [e2] at e
    rw [e]
    unfold gsc
    have hd := (h.2.2.1 _ hi24).2.2.1
    have hAB := h.2.2.2.1
    have hT := (hr.2 i hi).2 (π i) hp
    have h3 : (mD σ (4 * i + π i) : Int) * (mA σ : Int) * (mT σ (4 * i + π i) : Int) < (mD σ (4 * i + π i) : Int) * (mB σ : Int) * (mT σ (4 * i + π i) : Int) :=
      Int.mul_lt_mul_of_pos_right (Int.mul_lt_mul_of_pos_left (by omega) (by omega)) (by omega)
    omega
theorem dl_congr {R M : Nat → Nat → Int} {n : Nat} (h : ∀ i c, i < n → c ≤ n → R i c = M i c) : ∀ (k : Nat), k ≤ n → ∀ L : List Nat, (∀ c ∈ L, c ≤ n) → dl R k L = dl M k L := by
  have ha : ∀ (w u : Nat → Int) (L : List Nat) (F G : List Nat → Int), (∀ c ∈ L, w c = u c) → (∀ N : List Nat, (∀ c ∈ N, c ∈ L) → F N = G N) → alt w L F = alt u L G := by
    intro w u L
    induction L with
    | nil => intro F G _ _; rfl
    | cons c cs ih =>
      intro F G hw hF
      rw [alt_s, alt_s, hw c List.mem_cons_self, hF cs (fun x hx => List.mem_cons_of_mem _ hx), ih (fun M => F (c :: M)) (fun M => G (c :: M)) (fun x hx => hw x (List.mem_cons_of_mem _ hx)) (fun N hN => hF (c :: N) (fun x hx => by
        rcases List.mem_cons.mp hx with rfl | hx
        · exact List.mem_cons_self
        · exact List.mem_cons_of_mem _ (hN x hx)))]
  intro k
  induction k with
  | zero => intro _ L _; rfl
  | succ k ih =>
    intro hk L hL
    exact ha _ _ L _ _ (fun c hc => h k c (by omega) (hL c hc)) (fun N hN => ih (by omega) N (fun c hc => hL c (hN c hc)))
-- the lists of columns that are read at the end
def rm : Nat → Nat → List Nat
  | 0, _ => []
  | k + 1, j => if j = k then ds k else k :: rm k j
theorem cf_rm : ∀ (k : Nat) (F : List Nat → Int) (j : Nat), j < k → cf F k j = (if (k - 1 - j) % 2 = 0 then 1 else -1) * F (rm k j)
  | 0, _, j, h => absurd h (Nat.not_lt_zero j)
  | k + 1, F, j, h => by
    show (if j = k then F (ds k) else - cf (fun M => F (k :: M)) k j) = _ * F (if j = k then ds k else k :: rm k j)
    by_cases e : j = k
    · rw [if_pos e, if_pos e, if_pos (by omega)]
      omega
    · have ih := cf_rm k (fun M => F (k :: M)) j (by omega)
      rw [if_neg e, if_neg e, ih]
      by_cases h2 : (k - 1 - j) % 2 = 0
      · rw [if_pos h2, if_neg (by omega)]
        omega
      · rw [if_neg h2, if_pos (by omega)]
        omega
theorem col_fin {n s : Nat} (hn : n < 7) (hs : s < n) : bl ((2 ^ (n + 1) - 1) ^^^ 2 ^ s) 7 = rm (n + 1) s ∧ pop ((2 ^ (n + 1) - 1) ^^^ 2 ^ s) = n ∧ (2 ^ (n + 1) - 1) ^^^ 2 ^ s < 2 ^ (n + 1) - 1 ∧ 0 < (2 ^ (n + 1) - 1) ^^^ 2 ^ s := bit_all (P := fun n s => n < 7 → s < n → bl ((2 ^ (n + 1) - 1) ^^^ 2 ^ s) 7 = rm (n + 1) s ∧ pop ((2 ^ (n + 1) - 1) ^^^ 2 ^ s) = n ∧ (2 ^ (n + 1) - 1) ^^^ 2 ^ s < 2 ^ (n + 1) - 1 ∧ 0 < (2 ^ (n + 1) - 1) ^^^ 2 ^ s) (fun m c h1 h2 => (show ∀ n : Fin 7, ∀ s : Fin 7, s.val < n.val → bl ((2 ^ (n.val + 1) - 1) ^^^ 2 ^ s.val) 7 = rm (n.val + 1) s.val ∧ pop ((2 ^ (n.val + 1) - 1) ^^^ 2 ^ s.val) = n.val ∧ (2 ^ (n.val + 1) - 1) ^^^ 2 ^ s.val < 2 ^ (n.val + 1) - 1 ∧ 0 < (2 ^ (n.val + 1) - 1) ^^^ 2 ^ s.val by decide +kernel) ⟨m.val, h1⟩ ⟨c.val, by omega⟩ h2) (show n < 128 by omega) (show s < 8 by omega) hn hs
theorem col_det {n : Nat} (hn : n < 7) : bl (2 ^ n - 1) 7 = ds n ∧ pop (2 ^ n - 1) = n := (show ∀ n : Fin 7, bl (2 ^ n.val - 1) 7 = ds n.val ∧ pop (2 ^ n.val - 1) = n.val by decide +kernel) ⟨n, hn⟩
theorem j_all {n : Nat} (hn : n < 7) : (iI 1 <<< (iI ((n + 1 : Nat) : Int) &&& 31)) = iI ((2 ^ (n + 1) : Nat) : Int) ∧ (iI ((2 ^ (n + 1) - 1 : Nat) : Int) >>> (iI 1 &&& 31)) = iI ((2 ^ n - 1 : Nat) : Int) := (show ∀ n : Fin 7, (iI 1 <<< (iI ((n.val + 1 : Nat) : Int) &&& 31)) = iI ((2 ^ (n.val + 1) : Nat) : Int) ∧ (iI ((2 ^ (n.val + 1) - 1 : Nat) : Int) >>> (iI 1 &&& 31)) = iI ((2 ^ n.val - 1 : Nat) : Int) by decide +kernel) ⟨n, hn⟩
/-- what the minors give is a policy's values -/
theorem pv_of {σ : MS} {π : Nat → Nat} (h : mOK σ) (hr : rdy σ) (hπ : ∀ s, s < mN σ → π s < mC σ s) {v : Nat → Int} (hv : ∀ s, s < mN σ → v s = (if (mN σ - 1 - s) % 2 = 0 then 1 else -1) * dl (pm σ π) (mN σ) (rm (mN σ + 1) s)) : PV σ π v (dl (pm σ π) (mN σ) (ds (mN σ))) := by
  have hb := pm_b h hπ
  have hN := h.1
  have hlen : ∀ k, (ds k).length = k := by
    intro k
    induction k with
    | zero => rfl
    | succ k ih => show (ds k).length + 1 = k + 1; rw [ih]
  have hlr : ∀ k j, (rm k j).length ≤ k := by
    intro k j
    induction k with
    | zero => exact Nat.le_refl 0
    | succ k ih =>
      show (if j = k then ds k else k :: rm k j).length ≤ k + 1
      split
      · rw [hlen]; omega
      · show (rm k j).length + 1 ≤ k + 1; omega
  have hpw : 16800000 ^ mN σ ≤ 16800000 ^ 6 := Nat.pow_le_pow_right (by omega) hN
  have hcf : ∀ s, s < mN σ → cf (dl (pm σ π) (mN σ)) (mN σ + 1) s = - v s := fun s hs => by
    rw [cf_rm _ _ _ (by omega), hv s hs]
    by_cases e : (mN σ - 1 - s) % 2 = 0
    · rw [if_pos e, if_neg (by omega)]
      omega
    · rw [if_neg e, if_pos (by omega)]
      omega
  refine ⟨det_pos (pm_z h hr hπ) _ (Nat.le_refl _), Nat.le_trans (dl_b hb _ _ (by rw [hlen]; omega)) hpw, fun s hs => ⟨?_, ?_⟩⟩
  · have hk := dl_kill (pm σ π) (mN σ) s hs (ds (mN σ + 1))
    rw [alt_cf] at hk
    have hk : sI (fun j => pm σ π s j * cf (dl (pm σ π) (mN σ)) (mN σ + 1) j) (mN σ) + pm σ π s (mN σ) * cf (dl (pm σ π) (mN σ)) (mN σ + 1) (mN σ) = 0 := hk
    have e1 : cf (dl (pm σ π) (mN σ)) (mN σ + 1) (mN σ) = dl (pm σ π) (mN σ) (ds (mN σ)) := by show (if _ then _ else _) = _; rw [if_pos rfl]
    have e2 : pm σ π s (mN σ) = gc0 σ (4 * s + π s) := by unfold pm eqr; rw [if_pos ⟨hs, Nat.le_refl _⟩, if_pos rfl]
    have e3 := pm_row (π := π) hs v (mN σ) (Nat.le_refl _)
    have e4 : sI (fun j => pm σ π s j * cf (dl (pm σ π) (mN σ)) (mN σ + 1) j) (mN σ) = - sI (fun j => pm σ π s j * v j) (mN σ) := by
      have h1 := sI_lin (fun j => pm σ π s j * v j) (fun _ => 0) (-1) 0 (mN σ)
      rw [sI_congr (g := fun j => pm σ π s j * cf (dl (pm σ π) (mN σ)) (mN σ + 1) j) (fun j hj => by rw [hcf j hj, Int.mul_neg]; omega)] at h1
      omega
    rw [if_pos hs] at e3
    rw [e4, e1, e2, e3] at hk
    unfold gnum
    rw [gsum_sI, Int.mul_comm (v s), Int.mul_comm _ (gc0 σ (4 * s + π s))]
    omega
  · rw [hv s hs, Int.natAbs_mul]
    have h1 := dl_b hb (mN σ) (rm (mN σ + 1) s) (by have := hlr (mN σ + 1) s; omega)
    split <;> (simp; omega)
def RV (D : va_G) (E : Nat → ClassId) (r n x : Nat) (v : Nat → Int) (H : Heap) : Prop := ∀ s, s < 6 → s ≠ x → WH D E (r + 2 + 2 * s) n (v s) H
theorem RV.k {D : va_G} {E : Nat → ClassId} {r n x : Nat} {v : Nat → Int} {H H1 : Heap} (h : RV D E r n x v H) (hq : ∀ q, r + 2 ≤ q → q ≤ r + 13 ∧ q ≠ r + 2 + 2 * x ∧ q ≠ r + 3 + 2 * x → q < H.size → H1[q]? = H[q]?) : RV D E r n x v H1 := fun i hi hne => by
  have hl := (h i hi hne).lt
  exact (h i hi hne).k (hq _ (by omega) (by omega) (by omega)) (hq _ (by omega) (by omega) (by omega))
theorem RV.up {D : va_G} {E : Nat → ClassId} {r n x : Nat} {v : Nat → Int} {u : Int} {H : Heap} (h : RV D E r n x v H) (hw : WH D E (r + 2 + 2 * x) n u H) : RV D E r n 6 (ud v x u) H := fun i hi _ => by
  by_cases e : i = x
  · subst e; rw [ud_s]; exact hw
  · rw [ud_n _ _ e]; exact h i hi e
end
section
/-! the values of a policy: findValues -/
set_option maxHeartbeats 4000000 in
set_option maxRecDepth 100000 in
/-- findValues(model, policy, values) -/
theorem c_findValues (l : Launch) (D : va_G) (E : Nat → ClassId) (e0 m0 pa r : Nat) (σ : MS) (π : Nat → Nat) (R : Nat → Nat → Int) (mn v0 : Nat → Int) (b0 : Int) (hok : mOK σ) (hrd : rdy σ) (hπ : ∀ s, s < mN σ → π s < mC σ s) (hem : e0 + 264 < m0 ∨ m0 + 50 < e0) (her : e0 + 264 < r ∨ r + 15 < e0) (hmr : m0 + 50 < r ∨ r + 15 < m0) (hpe : pa < e0 ∨ e0 + 264 < pa) (hpr : pa < r ∨ r + 15 < pa) : pw_M rvV l D E yX2_findValues wsX2_findValues ({ frames := 3, cells := 0, slots := 0, locals := 91 } : Room) [.ref (e0), .ref (m0), .ref (pa), .ref (r)] (fun H => EQ D E e0 R mn H ∧ MO D E m0 σ H ∧ IA E pa 6 (fun s => (π s : Int)) H ∧ RW D E r 8 v0 b0 H) (fun _ H => ∃ R mn v b, EQ D E e0 R mn H ∧ RW D E r 8 v b H ∧ PV σ π v b) (fun q => (e0 ≤ q ∧ q ≤ e0 + 264) ∨ (r + 2 ≤ q ∧ q ≤ r + 15)) (0) (0) := by
  refine pw_of (cc := cX2_findValues) (maxL := 8) (ret := none) (by decide +kernel) rfl (Nat.le_of_ble_eq_true rfl) ?_
  intro p e s m args below meth c hx hb hr hml hts hown hlocks hini hK ⟨hEQ, hM, hpa, hRW⟩ ls hl
  have hown : s.vm.findClass RX2 = some m.cls := hown
  have hl : lv_has ls 8 [(0, .ref (e0)), (1, .ref (m0)), (2, .ref (pa)), (3, .ref (r))] := hl
  have hS : va_S (fun q => (e0 ≤ q ∧ q ≤ e0 + 264) ∨ (r + 2 ≤ q ∧ q ≤ r + 15)) s.heap s.heap [] := va_S.rf
  have lk_18 := hts (.fieldLink RX2 18 "PolicyWorks$Equations" "minors" "[LPolicyWorks$Whole;") (by decide +kernel)
  have lk_25 := hts (.fieldLink RX2 25 "PolicyWorks$Model" "states" "I") (by decide +kernel)
  have lk_47 := hts (.fieldLink RX2 47 "PolicyWorks$Row" "below" "LPolicyWorks$Whole;") (by decide +kernel)
  have lk_57 := hts (.fieldLink RX2 57 "PolicyWorks$Row" "above" "[LPolicyWorks$Whole;") (by decide +kernel)
  have kc_60 := hts (.constantLong RX2 60 (-1)) (by decide +kernel)
  have hin2 : ∀ w ∈ wsX20, w ∈ wsX2_findValues := by decide +kernel
  have hin6 : ∀ w ∈ wsX60, w ∈ wsX2_findValues := by decide +kernel
  have hin7 : ∀ w ∈ wsX70, w ∈ wsX2_findValues := by decide +kernel
  have hN6 := hok.1
  have hC4 := hok.2.1
  have hN0 := hrd.1
  have hMO := hM.1
  obtain ⟨ja1, ja2⟩ := j_all (show mN σ < 7 by omega)
  have hp7 : 2 ^ (mN σ + 1) ≤ 128 := p2_mono (show mN σ + 1 ≤ 7 by omega)
  have hp1 : 2 ≤ 2 ^ (mN σ + 1) := by rw [Nat.pow_succ]; have : 0 < 2 ^ mN σ := Nat.pow_pos (by omega); omega
  obtain ⟨cd1, cd2⟩ := col_det (show mN σ < 7 by omega)
  have hpn : 2 ^ (mN σ + 1) = 2 * 2 ^ mN σ := by rw [Nat.pow_succ, Nat.mul_comm]
  have hpp : 0 < 2 ^ mN σ := Nat.pow_pos (by omega)
  have loop3 : ∀ (R : Nat → Nat → Int) (mn : Nat → Int), (∀ j, j < 2 ^ (mN σ + 1) - 1 → mn j = dl (pm σ π) (pop j) (bl j 7)) → ∀ (kk k : Nat) (vv : Nat → Int) (H : Heap) (locs : List Loc) (ls : Array Slot), k + kk = mN σ → (∀ s, s < k → vv s = (if (mN σ - 1 - s) % 2 = 0 then 1 else -1) * dl (pm σ π) (mN σ) (rm (mN σ + 1) s)) → EQ D E e0 R mn H → OA D r 7 [.ref (r + 1), .ref (r + 14)] H → QA E 5 (r + 1) 6 (fun s => some (r + 2 + 2 * s)) H → RV D E r 8 6 vv H → WH D E (r + 14) 8 (dl (pm σ π) (mN σ) (ds (mN σ))) H → va_S (fun q => (e0 ≤ q ∧ q ≤ e0 + 264) ∨ (r + 2 ≤ q ∧ q ≤ r + 15)) s.heap H locs → lv_has ls 8 [(0, .ref (e0)), (1, .ref (m0)), (2, .ref (pa)), (3, .ref (r)), (4, .int (iI ((mN σ : Int)))), (5, .int (iI (((2 ^ (mN σ + 1) - 1 : Nat) : Int)))), (6, .int (iI ((k : Int))))] → W p l e ({ frames := 3, cells := 0, slots := 0, locals := 91 } : Room) s m args below meth c H locs (0) (0) (MQ below (pw_Q rvV (fun _ H => ∃ R mn v b, EQ D E e0 R mn H ∧ RW D E r 8 v b H ∧ PV σ π v b) (fun q => (e0 ≤ q ∧ q ≤ e0 + 264) ∨ (r + 2 ≤ q ∧ q ≤ r + 15))) args s (0) (0) (fun q => (e0 ≤ q ∧ q ≤ e0 + 264) ∨ (r + 2 ≤ q ∧ q ≤ r + 15))) (F0 m 102 ls []) := by
    intro R mn hmn kk
    induction kk with
    | zero =>
      intro k vv H locs ls hk h0 hEQ hRO hRQ hRV hRB hS hl
      refine lv_iload hx hb dX2_findValues_102 (lv_at hl 6 rfl) ?_
      refine lv_iload hx hb dX2_findValues_104 (lv_at hl 4 rfl) ?_
      refine pw_icmp_ge (tgt := 161) hx hb dX2_findValues_106 (by decide) (fun c_106 => ?_) (fun c_106 => absurd c_106 (by omega))
      exact pw_vret hx hb hr hlocks hS ⟨_, _, vv, _, hEQ, ⟨hRO, hRQ, fun s hs => hRV s hs (by omega), hRB⟩, pv_of hok hrd hπ (fun s hs => h0 s (by omega))⟩ dX2_findValues_161
    | succ kk ih =>
      intro k vv H locs ls hk h0 hEQ hRO hRQ hRV hRB hS hl
      obtain ⟨cf1, cf2, cf3, cf4⟩ := col_fin (show mN σ < 7 by omega) (show k < mN σ by omega)
      obtain ⟨_, _, jb3, jb4⟩ := j_bit (m := 2 ^ (mN σ + 1) - 1) (c := k) (by omega) (by omega)
      have hmk := hmn _ cf3
      rw [cf2, cf1] at hmk
      obtain ⟨kz, hVR⟩ := (hRV k (by omega) (by omega)).r
      have hRVx : RV D E r 8 k vv H := fun i h1 _ => hRV i h1 (by omega)
      have hEO := hEQ.1
      have hEM := hEQ.2.2.2.1
      refine lv_iload hx hb dX2_findValues_102 (lv_at hl 6 rfl) ?_
      refine lv_iload hx hb dX2_findValues_104 (lv_at hl 4 rfl) ?_
      refine pw_icmp_ge (tgt := 161) hx hb dX2_findValues_106 (by decide) (fun c_106 => absurd c_106 (by omega)) (fun c_106 => ?_)
      refine lv_aload_n hx hb dX2_findValues_109 rfl (lv_at hl 3 rfl) ?_
      refine pw_get (C := RX7) (T := TX7) (N := 2) hx hb hts hin7 hown hK hRO rfl 0 (by decide) lk_57 rfl rfl dX2_findValues_110 ?_
      refine lv_iload hx hb dX2_findValues_113 (lv_at hl 6 rfl) ?_
      refine pw_qald hx hb hK hRQ rfl (k) rfl (by omega) (by omega) rfl dX2_findValues_115 ?_
      refine lv_astore (lv' := [(7, .ref (r + 2 + 2 * k)), (0, .ref (e0)), (1, .ref (m0)), (2, .ref (pa)), (3, .ref (r)), (4, .int (iI ((mN σ : Int)))), (5, .int (iI (((2 ^ (mN σ + 1) - 1 : Nat) : Int)))), (6, .int (iI ((k : Int))))]) hx hb dX2_findValues_116 hl (by decide) rfl (fun ls hl => ?_)
      refine lv_aload hx hb dX2_findValues_118 (lv_at hl 0 rfl) ?_
      refine lv_aload_n hx hb dX2_findValues_120 rfl (lv_at hl 1 rfl) ?_
      refine pw_get (C := RX2) (T := TX2) (N := 2) hx hb hts hin2 hown hK hEO rfl 1 (by decide) lk_18 rfl rfl dX2_findValues_121 ?_
      refine lv_iload hx hb dX2_findValues_124 (lv_at hl 6 rfl) ?_
      refine pw_iconst hx hb dX2_findValues_126 ?_
      refine lv_iload hx hb dX2_findValues_127 (lv_at hl 7 rfl) ?_
      refine lv_ishl hx hb dX2_findValues_129 ?_
      refine pw_eqi (((2 ^ k : Nat) : Int)) jb3 ?_
      refine lv_ixor hx hb dX2_findValues_130 ?_
      refine pw_eqi (((((2 ^ (mN σ + 1) - 1) ^^^ 2 ^ k) : Nat) : Int)) jb4 ?_
      refine pw_qald hx hb hK hEM rfl (((2 ^ (mN σ + 1) - 1) ^^^ 2 ^ k)) rfl (by omega) (by omega) rfl dX2_findValues_131 ?_
      have hsrc := hEQ.2.2.2.2 ((2 ^ (mN σ + 1) - 1) ^^^ 2 ^ k) (by omega) (by omega)
      refine pw_callVv (As := [.ref (e0 + 9 + 2 * ((2 ^ (mN σ + 1) - 1) ^^^ 2 ^ k))]) (rest := []) ⟨hx, hb, hml, hown, hts⟩ (c_copy l D E (r + 2 + 2 * k) 8 (e0 + 9 + 2 * ((2 ^ (mN σ + 1) - 1) ^^^ 2 ^ k)) 8 (wdig (vv k)) kz (vv k).sign (mn ((2 ^ (mN σ + 1) - 1) ^^^ 2 ^ k)) (by omega) (by omega) (by omega) hsrc.bi.1 hsrc.bi.2) (cwV 1 hts gX2_findValues_X8_copy rfl rfl rfl (by decide +kernel) ⟨Nat.le_of_ble_eq_true rfl, Nat.le_of_ble_eq_true rfl⟩) hK hVR.1 rfl ⟨hVR, hsrc⟩ rfl hl.1 rfl (Nat.le_of_ble_eq_true rfl) dX2_findValues_132 ⟨Nat.zero_le _, Nat.zero_le _⟩ hS (fun q h => by (try dsimp only at h); (try dsimp only); omega) (fun H1 locs1 hW hz1 hk1 hS => ?_)
      have hRO := hRO.k (hk1 _ hRO.lt (by (try dsimp only); omega))
      have hRQ := hRQ.k (hk1 _ hRQ.lt (by (try dsimp only); omega))
      have hRVx := hRVx.k (fun q h1 h2 h3 => (hk1 _ h3 (by (try dsimp only); omega)))
      have hRB := hRB.k (hk1 _ (by have := hRB.lt; omega) (by (try dsimp only); omega)) (hk1 _ hRB.lt (by (try dsimp only); omega))
      have hEQ := hEQ.k (fun q h1 h2 h3 => (hk1 _ h3 (by (try dsimp only); omega)))
      have hEO := hEO.k (hk1 _ hEO.lt (by (try dsimp only); omega))
      have hEM := hEM.k (hk1 _ hEM.lt (by (try dsimp only); omega))
      rw [hmk] at hW
      refine lv_iload hx hb dX2_findValues_135 (lv_at hl 5 rfl) ?_
      refine pw_iconst hx hb dX2_findValues_137 ?_
      refine pw_isub hx hb dX2_findValues_138 ?_
      refine lv_iload hx hb dX2_findValues_139 (lv_at hl 7 rfl) ?_
      refine pw_isub hx hb dX2_findValues_141 ?_
      refine pw_iconst hx hb dX2_findValues_142 ?_
      refine pw_irem hx hb dX2_findValues_143 (by omega) ?_
      refine pw_asi ((((mN σ - 1 - k) % 2 : Nat) : Int)) (by rw [show ((mN σ : Int)) - (1) - ((k : Int)) = ((mN σ - 1 - k : Nat) : Int) by omega]; exact nat_tm _ 2) ?_
      refine pw_if_eq (tgt := 155) hx hb dX2_findValues_144 (by decide) (fun c_144 => ?_) (fun c_144 => ?_)
      · refine lv_iinc (v := iI (((k + 1 : Nat) : Int))) (lv' := [(6, .int (iI (((k + 1 : Nat) : Int)))), (7, .ref (r + 2 + 2 * k)), (0, .ref (e0)), (1, .ref (m0)), (2, .ref (pa)), (3, .ref (r)), (4, .int (iI ((mN σ : Int)))), (5, .int (iI (((2 ^ (mN σ + 1) - 1 : Nat) : Int))))]) hx hb dX2_findValues_155 hl (k := 7) rfl (by show iI _ + iI _ = _; exact (iI_add _ _).trans (by first | rfl | (congr 1; omega))) (by decide) rfl (fun ls hl => ?_)
        refine lv_goto (tgt := 102) hx hb dX2_findValues_158 (by decide) ?_
        exact ih (k + 1) _ _ _ _ (by omega) (fun j hj => ud_ext h0 (by rw [if_pos (by omega)]; omega) j hj) hEQ hRO hRQ (hRVx.up hW) hRB hS (lv_sub hl [2, 3, 4, 5, 6, 7, 0] rfl)
      · refine lv_aload hx hb dX2_findValues_147 (lv_at hl 0 rfl) ?_
        refine pw_ldc2 (z := -1) hx hb hown kc_60 (by decide +kernel) dX2_findValues_149 ?_
        have hWb := hW.bi
        refine pw_callVv (As := [.long (lI (-1))]) (rest := []) ⟨hx, hb, hml, hown, hts⟩ (c_multiply l D E (r + 2 + 2 * k) 8 (dl (pm σ π) (mN σ) (rm (mN σ + 1) k)) (-1) (by omega) (by omega) (by omega) (by omega) (by omega)) (cwV 1 hts gX2_findValues_X8_multiply rfl rfl rfl (by decide +kernel) ⟨Nat.le_of_ble_eq_true rfl, Nat.le_of_ble_eq_true rfl⟩) hK hW.o.choose_spec rfl hW rfl hl.1 rfl (Nat.le_of_ble_eq_true rfl) dX2_findValues_152 ⟨Nat.zero_le _, Nat.zero_le _⟩ hS (fun q h => by (try dsimp only at h); (try dsimp only); omega) (fun H1 locs1 hW hz1 hk1 hS => ?_)
        have hRO := hRO.k (hk1 _ hRO.lt (by (try dsimp only); omega))
        have hRQ := hRQ.k (hk1 _ hRQ.lt (by (try dsimp only); omega))
        have hRVx := hRVx.k (fun q h1 h2 h3 => (hk1 _ h3 (by (try dsimp only); omega)))
        have hRB := hRB.k (hk1 _ (by have := hRB.lt; omega) (by (try dsimp only); omega)) (hk1 _ hRB.lt (by (try dsimp only); omega))
        have hEQ := hEQ.k (fun q h1 h2 h3 => (hk1 _ h3 (by (try dsimp only); omega)))
        have hEO := hEO.k (hk1 _ hEO.lt (by (try dsimp only); omega))
        have hEM := hEM.k (hk1 _ hEM.lt (by (try dsimp only); omega))
        refine lv_iinc (v := iI (((k + 1 : Nat) : Int))) (lv' := [(6, .int (iI (((k + 1 : Nat) : Int)))), (7, .ref (r + 2 + 2 * k)), (0, .ref (e0)), (1, .ref (m0)), (2, .ref (pa)), (3, .ref (r)), (4, .int (iI ((mN σ : Int)))), (5, .int (iI (((2 ^ (mN σ + 1) - 1 : Nat) : Int))))]) hx hb dX2_findValues_155 hl (k := 7) rfl (by show iI _ + iI _ = _; exact (iI_add _ _).trans (by first | rfl | (congr 1; omega))) (by decide) rfl (fun ls hl => ?_)
        refine lv_goto (tgt := 102) hx hb dX2_findValues_158 (by decide) ?_
        exact ih (k + 1) _ _ _ _ (by omega) (fun j hj => ud_ext h0 (by rw [if_neg (by omega)]; omega) j hj) hEQ hRO hRQ (hRVx.up hW) hRB hS (lv_sub hl [2, 3, 4, 5, 6, 7, 0] rfl)
  have loop2 : ∀ (R : Nat → Nat → Int), (∀ i c, i < mN σ → c ≤ mN σ → R i c = pm σ π i c) → ∀ (kk cols : Nat) (mn : Nat → Int) (H : Heap) (locs : List Loc) (ls : Array Slot), cols + kk = 2 ^ (mN σ + 1) - 1 → 0 < cols → (∀ j, j < cols → mn j = dl (pm σ π) (pop j) (bl j 7)) → EQ D E e0 R mn H → RW D E r 8 v0 b0 H → va_S (fun q => (e0 ≤ q ∧ q ≤ e0 + 264) ∨ (r + 2 ≤ q ∧ q ≤ r + 15)) s.heap H locs → lv_has ls 8 [(0, .ref (e0)), (1, .ref (m0)), (2, .ref (pa)), (3, .ref (r)), (4, .int (iI ((mN σ : Int)))), (5, .int (iI (((2 ^ (mN σ + 1) - 1 : Nat) : Int)))), (6, .int (iI ((cols : Int))))] → W p l e ({ frames := 3, cells := 0, slots := 0, locals := 91 } : Room) s m args below meth c H locs (0) (0) (MQ below (pw_Q rvV (fun _ H => ∃ R mn v b, EQ D E e0 R mn H ∧ RW D E r 8 v b H ∧ PV σ π v b) (fun q => (e0 ≤ q ∧ q ≤ e0 + 264) ∨ (r + 2 ≤ q ∧ q ≤ r + 15))) args s (0) (0) (fun q => (e0 ≤ q ∧ q ≤ e0 + 264) ∨ (r + 2 ≤ q ∧ q ≤ r + 15))) (F0 m 62 ls []) := by
    intro R hRM kk
    induction kk with
    | zero =>
      intro cols mn H locs ls hk hc0 h0 hEQ hRW hS hl
      have ec : cols = 2 ^ (mN σ + 1) - 1 := by omega
      have hRO := hRW.1
      have hRQ := hRW.2.1
      have hRV : RV D E r 8 6 v0 H := fun i h1 _ => hRW.2.2.1 i h1
      have hRB := hRW.2.2.2
      have hEO := hEQ.1
      have hEM := hEQ.2.2.2.1
      obtain ⟨kz, hBR⟩ := hRB.r
      have hmd := h0 (2 ^ mN σ - 1) (by omega)
      rw [cd2, cd1] at hmd
      refine lv_iload hx hb dX2_findValues_62 (lv_at hl 6 rfl) ?_
      refine lv_iload hx hb dX2_findValues_64 (lv_at hl 5 rfl) ?_
      refine pw_icmp_ge (tgt := 83) hx hb dX2_findValues_66 (by decide) (fun c_66 => ?_) (fun c_66 => absurd c_66 (by omega))
      refine lv_aload_n hx hb dX2_findValues_83 rfl (lv_at hl 3 rfl) ?_
      refine pw_get (C := RX7) (T := TX7) (N := 2) hx hb hts hin7 hown hK hRO rfl 1 (by decide) lk_47 rfl rfl dX2_findValues_84 ?_
      refine lv_aload_n hx hb dX2_findValues_87 rfl (lv_at hl 0 rfl) ?_
      refine pw_get (C := RX2) (T := TX2) (N := 2) hx hb hts hin2 hown hK hEO rfl 1 (by decide) lk_18 rfl rfl dX2_findValues_88 ?_
      refine lv_iload hx hb dX2_findValues_91 (lv_at hl 5 rfl) ?_
      refine pw_iconst hx hb dX2_findValues_93 ?_
      refine lv_ishr hx hb dX2_findValues_94 ?_
      refine pw_eqi (((2 ^ mN σ - 1 : Nat) : Int)) ja2 ?_
      refine pw_qald hx hb hK hEM rfl (2 ^ mN σ - 1) rfl (by omega) (by omega) rfl dX2_findValues_95 ?_
      have hsrc := hEQ.2.2.2.2 (2 ^ mN σ - 1) (by omega) (by omega)
      refine pw_callVv (As := [.ref (e0 + 9 + 2 * (2 ^ mN σ - 1))]) (rest := []) ⟨hx, hb, hml, hown, hts⟩ (c_copy l D E (r + 14) 8 (e0 + 9 + 2 * (2 ^ mN σ - 1)) 8 (wdig b0) kz b0.sign (mn (2 ^ mN σ - 1)) (by omega) (by omega) (by omega) hsrc.bi.1 hsrc.bi.2) (cwV 1 hts gX2_findValues_X8_copy rfl rfl rfl (by decide +kernel) ⟨Nat.le_of_ble_eq_true rfl, Nat.le_of_ble_eq_true rfl⟩) hK hBR.1 rfl ⟨hBR, hsrc⟩ rfl hl.1 rfl (Nat.le_of_ble_eq_true rfl) dX2_findValues_96 ⟨Nat.zero_le _, Nat.zero_le _⟩ hS (fun q h => by (try dsimp only at h); (try dsimp only); omega) (fun H1 locs1 hRB hz1 hk1 hS => ?_)
      have hRO := hRO.k (hk1 _ hRO.lt (by (try dsimp only); omega))
      have hRQ := hRQ.k (hk1 _ hRQ.lt (by (try dsimp only); omega))
      have hRV := hRV.k (fun q h1 h2 h3 => (hk1 _ h3 (by (try dsimp only); omega)))
      have hEQ := hEQ.k (fun q h1 h2 h3 => (hk1 _ h3 (by (try dsimp only); omega)))
      have hEO := hEO.k (hk1 _ hEO.lt (by (try dsimp only); omega))
      have hEM := hEM.k (hk1 _ hEM.lt (by (try dsimp only); omega))
      rw [hmd] at hRB
      refine pw_iconst hx hb dX2_findValues_99 ?_
      refine lv_istore (lv' := [(6, .int (iI (0))), (0, .ref (e0)), (1, .ref (m0)), (2, .ref (pa)), (3, .ref (r)), (4, .int (iI ((mN σ : Int)))), (5, .int (iI (((2 ^ (mN σ + 1) - 1 : Nat) : Int))))]) hx hb dX2_findValues_100 hl (by decide) rfl (fun ls hl => ?_)
      exact loop3 R mn (fun j hj => h0 j (by omega)) (mN σ) 0 v0 _ _ _ (by omega) (fun s hs => by omega) hEQ hRO hRQ hRV hRB hS (lv_sub hl [1, 2, 3, 4, 5, 6, 0] rfl)
    | succ kk ih =>
      intro cols mn H locs ls hk hc0 h0 hEQ hRW hS hl
      have hEO := hEQ.1
      refine lv_iload hx hb dX2_findValues_62 (lv_at hl 6 rfl) ?_
      refine lv_iload hx hb dX2_findValues_64 (lv_at hl 5 rfl) ?_
      refine pw_icmp_ge (tgt := 83) hx hb dX2_findValues_66 (by decide) (fun c_66 => absurd c_66 (by omega)) (fun c_66 => ?_)
      refine lv_aload_n hx hb dX2_findValues_69 rfl (lv_at hl 0 rfl) ?_
      refine lv_iload hx hb dX2_findValues_70 (lv_at hl 6 rfl) ?_
      refine lv_iload hx hb dX2_findValues_72 (lv_at hl 4 rfl) ?_
      refine pw_callVv (As := [.int (iI ((cols : Int))), .int (iI ((mN σ : Int)))]) (rest := []) ⟨hx, hb, hml, hown, hts⟩ (c_expand l D E e0 (mN σ) cols R (pm σ π) mn (by omega) hc0 (by omega) hRM (pm_b hok hπ) h0) (cwV 2 hts gX2_findValues_X2_expand rfl rfl rfl (by decide +kernel) ⟨Nat.le_of_ble_eq_true rfl, Nat.le_of_ble_eq_true rfl⟩) hK hEO rfl hEQ rfl hl.1 rfl (Nat.le_of_ble_eq_true rfl) dX2_findValues_74 ⟨Nat.zero_le _, Nat.zero_le _⟩ hS (fun q h => by (try dsimp only at h); (try dsimp only); omega) (fun H1 locs1 hEQ hz1 hk1 hS => ?_)
      have hEO := hEO.k (hk1 _ hEO.lt (by (try dsimp only); omega))
      have hRW := hRW.k (fun q h1 h2 h3 => (hk1 _ h3 (by (try dsimp only); omega)))
      refine lv_iinc (v := iI (((cols + 1 : Nat) : Int))) (lv' := [(6, .int (iI (((cols + 1 : Nat) : Int)))), (0, .ref (e0)), (1, .ref (m0)), (2, .ref (pa)), (3, .ref (r)), (4, .int (iI ((mN σ : Int)))), (5, .int (iI (((2 ^ (mN σ + 1) - 1 : Nat) : Int))))]) hx hb dX2_findValues_77 hl (k := 6) rfl (by show iI _ + iI _ = _; exact (iI_add _ _).trans (by first | rfl | (congr 1; omega))) (by decide) rfl (fun ls hl => ?_)
      refine lv_goto (tgt := 62) hx hb dX2_findValues_80 (by decide) ?_
      exact ih (cols + 1) _ _ _ _ (by omega) (by omega) (fun j hj => ud_ext h0 rfl j hj) hEQ hRW hS (lv_sub hl [1, 2, 3, 4, 5, 6, 0] rfl)
  have loop1 : ∀ (kk k : Nat) (R : Nat → Nat → Int) (H : Heap) (locs : List Loc) (ls : Array Slot), k + kk = mN σ → (∀ i c, i < k → c ≤ mN σ → R i c = pm σ π i c) → EQ D E e0 R mn H → MO D E m0 σ H → IA E pa 6 (fun s => (π s : Int)) H → RW D E r 8 v0 b0 H → va_S (fun q => (e0 ≤ q ∧ q ≤ e0 + 264) ∨ (r + 2 ≤ q ∧ q ≤ r + 15)) s.heap H locs → lv_has ls 8 [(0, .ref (e0)), (1, .ref (m0)), (2, .ref (pa)), (3, .ref (r)), (4, .int (iI ((mN σ : Int)))), (5, .int (iI ((k : Int))))] → W p l e ({ frames := 3, cells := 0, slots := 0, locals := 91 } : Room) s m args below meth c H locs (0) (0) (MQ below (pw_Q rvV (fun _ H => ∃ R mn v b, EQ D E e0 R mn H ∧ RW D E r 8 v b H ∧ PV σ π v b) (fun q => (e0 ≤ q ∧ q ≤ e0 + 264) ∨ (r + 2 ≤ q ∧ q ≤ r + 15))) args s (0) (0) (fun q => (e0 ≤ q ∧ q ≤ e0 + 264) ∨ (r + 2 ≤ q ∧ q ≤ r + 15))) (F0 m 9 ls []) := by
    intro kk
    induction kk with
    | zero =>
      intro k R H locs ls hk h0 hEQ hM hpa hRW hS hl
      have hEO := hEQ.1
      have hMO := hM.1
      have hEM := hEQ.2.2.2.1
      have hM0 := hEQ.2.2.2.2 0 (by omega) (by omega)
      obtain ⟨kz, h0r⟩ := hM0.r
      have hMX : MN D E e0 0 mn H := fun i h1 _ => hEQ.2.2.2.2 i h1 (by omega)
      have hRS := hEQ.2.2.1
      have hEQ1 := hEQ.2.1
      refine lv_iload hx hb dX2_findValues_9 (lv_at hl 5 rfl) ?_
      refine lv_iload hx hb dX2_findValues_11 (lv_at hl 4 rfl) ?_
      refine pw_icmp_ge (tgt := 39) hx hb dX2_findValues_13 (by decide) (fun c_13 => ?_) (fun c_13 => absurd c_13 (by omega))
      refine pw_iconst hx hb dX2_findValues_39 ?_
      refine lv_iload hx hb dX2_findValues_40 (lv_at hl 4 rfl) ?_
      refine pw_iconst hx hb dX2_findValues_42 ?_
      refine pw_iadd hx hb dX2_findValues_43 ?_
      refine pw_asi (((mN σ + 1 : Nat) : Int)) (by omega) ?_
      refine lv_ishl hx hb dX2_findValues_44 ?_
      refine pw_eqi (((2 ^ (mN σ + 1) : Nat) : Int)) ja1 ?_
      refine pw_iconst hx hb dX2_findValues_45 ?_
      refine pw_isub hx hb dX2_findValues_46 ?_
      refine pw_asi (((2 ^ (mN σ + 1) - 1 : Nat) : Int)) (by omega) ?_
      refine lv_istore (lv' := [(5, .int (iI (((2 ^ (mN σ + 1) - 1 : Nat) : Int)))), (0, .ref (e0)), (1, .ref (m0)), (2, .ref (pa)), (3, .ref (r)), (4, .int (iI ((mN σ : Int))))]) hx hb dX2_findValues_47 hl (by decide) rfl (fun ls hl => ?_)
      refine lv_aload_n hx hb dX2_findValues_49 rfl (lv_at hl 1 rfl) ?_
      refine pw_get (C := RX2) (T := TX2) (N := 2) hx hb hts hin2 hown hK hEO rfl 1 (by decide) lk_18 rfl rfl dX2_findValues_50 ?_
      refine pw_iconst hx hb dX2_findValues_53 ?_
      refine pw_qald hx hb hK hEM rfl (0) rfl (by omega) (by omega) rfl dX2_findValues_54 ?_
      refine pw_lconst (z := 1) hx hb dX2_findValues_55 ?_
      refine pw_callVv (As := [.long (lI (1))]) (rest := []) ⟨hx, hb, hml, hown, hts⟩ (c_put l D E (e0 + 9 + 2 * 0) 8 (wdig (mn 0)) kz (mn 0).sign 1 (by omega) (by omega) (by omega) (by omega) (by decide +kernel) (by decide +kernel)) (cwV 1 hts gX2_findValues_X8_put rfl rfl rfl (by decide +kernel) ⟨Nat.le_of_ble_eq_true rfl, Nat.le_of_ble_eq_true rfl⟩) hK h0r.1 rfl h0r rfl hl.1 rfl (Nat.le_of_ble_eq_true rfl) dX2_findValues_56 ⟨Nat.zero_le _, Nat.zero_le _⟩ hS (fun q h => by (try dsimp only at h); (try dsimp only); omega) (fun H1 locs1 hW hz1 hk1 hS => ?_)
      have hEO := hEO.k (hk1 _ hEO.lt (by (try dsimp only); omega))
      have hRW := hRW.k (fun q h1 h2 h3 => (hk1 _ h3 (by (try dsimp only); omega)))
      have hM := hM.k (fun q h1 h2 h3 => (hk1 _ h3 (by (try dsimp only); omega)))
      have hMO := hMO.k (hk1 _ hMO.lt (by (try dsimp only); omega))
      have hpa := hpa.k (hk1 _ hpa.lt (by (try dsimp only); omega))
      have hEQ1 := hEQ1.k (hk1 _ hEQ1.lt (by (try dsimp only); omega))
      have hRS := hRS.k (fun q h1 h2 h3 => (hk1 _ h3 (by (try dsimp only); omega)))
      have hEM := hEM.k (hk1 _ hEM.lt (by (try dsimp only); omega))
      have hMX := hMX.k (fun q h1 h2 h3 => (hk1 _ h3 (by (try dsimp only); omega)))
      refine pw_iconst hx hb dX2_findValues_59 ?_
      refine lv_istore (lv' := [(6, .int (iI (1))), (5, .int (iI (((2 ^ (mN σ + 1) - 1 : Nat) : Int)))), (0, .ref (e0)), (1, .ref (m0)), (2, .ref (pa)), (3, .ref (r)), (4, .int (iI ((mN σ : Int))))]) hx hb dX2_findValues_60 hl (by decide) rfl (fun ls hl => ?_)
      have hEQ : EQ D E e0 R (ud mn 0 1) H1 := ⟨hEO, hEQ1, hRS, hEM, hMX.up hW⟩
      exact loop2 R (fun i c h1 h2 => h0 i c (by omega) h2) (2 ^ (mN σ + 1) - 2) 1 _ _ _ _ (by omega) (by omega) (fun j hj => by rw [show j = 0 by omega, ud_s]; rfl) hEQ hRW hS (lv_sub hl [2, 3, 4, 5, 6, 1, 0] rfl)
    | succ kk ih =>
      intro k R H locs ls hk h0 hEQ hM hpa hRW hS hl
      have hEO := hEQ.1
      have hMO := hM.1
      have hpk := hπ k (by omega)
      have hck := hC4 k (by omega)
      refine lv_iload hx hb dX2_findValues_9 (lv_at hl 5 rfl) ?_
      refine lv_iload hx hb dX2_findValues_11 (lv_at hl 4 rfl) ?_
      refine pw_icmp_ge (tgt := 39) hx hb dX2_findValues_13 (by decide) (fun c_13 => absurd c_13 (by omega)) (fun c_13 => ?_)
      refine lv_aload_n hx hb dX2_findValues_16 rfl (lv_at hl 0 rfl) ?_
      refine lv_aload_n hx hb dX2_findValues_17 rfl (lv_at hl 1 rfl) ?_
      refine lv_iload hx hb dX2_findValues_18 (lv_at hl 5 rfl) ?_
      refine lv_aload_n hx hb dX2_findValues_20 rfl (lv_at hl 1 rfl) ?_
      refine lv_iload hx hb dX2_findValues_21 (lv_at hl 5 rfl) ?_
      refine lv_aload_n hx hb dX2_findValues_23 rfl (lv_at hl 2 rfl) ?_
      refine lv_iload hx hb dX2_findValues_24 (lv_at hl 5 rfl) ?_
      refine pw_iald hx hb hK hpa (k) rfl (by omega) (by omega) dX2_findValues_26 ?_
      refine pw_asi ((π (k) : Int)) rfl ?_
      refine pw_callVr (As := [.int (iI ((k : Int))), .int (iI ((π (k) : Int)))]) (rest := [.int (iI ((k : Int))), .ref (m0), .ref (e0)]) ⟨hx, hb, hml, hown, hts⟩ (c_find l D E m0 σ k (π k) (by omega) (by omega)) (cwV 2 hts gX2_findValues_X6_find rfl rfl rfl (by decide +kernel) ⟨Nat.le_of_ble_eq_true rfl, Nat.le_of_ble_eq_true rfl⟩) hK hMO rfl hM rfl hl.1 rfl (Nat.le_of_ble_eq_true rfl) dX2_findValues_27 ⟨Nat.zero_le _, Nat.zero_le _⟩ hS (fun q h => h.elim) (fun z H1 locs1 hz hz1 hk1 hS => ?_)
      have hEO := hEO.k (hk1 _ hEO.lt (fun h => h))
      have hEQ := hEQ.k (fun q h1 h2 h3 => (hk1 _ h3 (fun h => h)))
      have hRW := hRW.k (fun q h1 h2 h3 => (hk1 _ h3 (fun h => h)))
      have hM := hM.k (fun q h1 h2 h3 => (hk1 _ h3 (fun h => h)))
      have hMO := hMO.k (hk1 _ hMO.lt (fun h => h))
      have hpa := hpa.k (hk1 _ hpa.lt (fun h => h))
      subst hz
      refine pw_callVv (As := [.ref (m0), .int (iI ((k : Int))), .ref (m0 + 3 + 2 * (4 * k + π k))]) (rest := []) ⟨hx, hb, hml, hown, hts⟩ (c_writeRow l D E e0 m0 k (4 * k + π k) σ R mn hok (by omega) (by omega) hem) (cwV 3 hts gX2_findValues_X2_writeRow rfl rfl rfl (by decide +kernel) ⟨Nat.le_of_ble_eq_true rfl, Nat.le_of_ble_eq_true rfl⟩) hK hEO rfl ⟨hEQ, hM⟩ rfl hl.1 rfl (Nat.le_of_ble_eq_true rfl) dX2_findValues_30 ⟨Nat.zero_le _, Nat.zero_le _⟩ hS (fun q h => by (try dsimp only at h); (try dsimp only); omega) (fun H1 locs1 ⟨row, hrw, hEQ⟩ hz1 hk1 hS => ?_)
      have hEO := hEO.k (hk1 _ hEO.lt (by (try dsimp only); omega))
      have hRW := hRW.k (fun q h1 h2 h3 => (hk1 _ h3 (by (try dsimp only); omega)))
      have hM := hM.k (fun q h1 h2 h3 => (hk1 _ h3 (by (try dsimp only); omega)))
      have hMO := hMO.k (hk1 _ hMO.lt (by (try dsimp only); omega))
      have hpa := hpa.k (hk1 _ hpa.lt (by (try dsimp only); omega))
      refine lv_iinc (v := iI (((k + 1 : Nat) : Int))) (lv' := [(5, .int (iI (((k + 1 : Nat) : Int)))), (0, .ref (e0)), (1, .ref (m0)), (2, .ref (pa)), (3, .ref (r)), (4, .int (iI ((mN σ : Int))))]) hx hb dX2_findValues_33 hl (k := 5) rfl (by show iI _ + iI _ = _; exact (iI_add _ _).trans (by first | rfl | (congr 1; omega))) (by decide) rfl (fun ls hl => ?_)
      refine lv_goto (tgt := 9) hx hb dX2_findValues_36 (by decide) ?_
      refine ih (k + 1) _ _ _ _ (by omega) (fun i c h1 h2 => ?_) hEQ hM hpa hRW hS (lv_sub hl [1, 2, 3, 4, 5, 0] rfl)
      unfold uR
      by_cases e1 : i = k
      · rw [if_pos e1, hrw c h2, e1]
        unfold pm
        rw [if_pos ⟨by omega, h2⟩]
      · rw [if_neg e1]; exact h0 i c (by omega) h2
  have hEO := hEQ.1
  refine lv_aload_n hx hb dX2_findValues_0 rfl (lv_at hl 1 rfl) ?_
  refine pw_get (C := RX6) (T := TX6) (N := 5) hx hb hts hin6 hown hK hMO rfl 2 (by decide) lk_25 rfl rfl dX2_findValues_1 ?_
  refine lv_istore (lv' := [(4, .int (iI ((mN σ : Int)))), (0, .ref (e0)), (1, .ref (m0)), (2, .ref (pa)), (3, .ref (r))]) hx hb dX2_findValues_4 hl (by decide) rfl (fun ls hl => ?_)
  refine pw_iconst hx hb dX2_findValues_6 ?_
  refine lv_istore (lv' := [(5, .int (iI (0))), (4, .int (iI ((mN σ : Int)))), (0, .ref (e0)), (1, .ref (m0)), (2, .ref (pa)), (3, .ref (r))]) hx hb dX2_findValues_7 hl (by decide) rfl (fun ls hl => ?_)
  exact loop1 (mN σ) 0 R _ _ _ (by omega) (fun i c h1 => by omega) hEQ hM hpa hRW hS (lv_sub hl [2, 3, 4, 5, 1, 0] rfl)
end
section
/-! going on step by step: what a step makes -/
def spk (σ : MS) (v : Nat → Int) (b : Int) (s : Nat) : Nat := gpick σ s 0 v b (mC σ s)
def tP (σ : MS) (pk : Nat → Nat) : Nat → Nat
  | 0 => 1
  | k + 1 => tP σ pk k * mT σ (4 * k + pk k)
theorem tP_b {σ : MS} (h : mOK σ) {pk : Nat → Nat} (hp : ∀ s, s < mN σ → pk s < 4) : ∀ k, k ≤ mN σ → tP σ pk k ≤ 120 ^ k
  | 0, _ => Nat.le_refl 1
  | k + 1, hk => by
    have hN := h.1
    have := hp k (by omega)
    exact Nat.mul_le_mul (tP_b h hp k (by omega)) (mT_b h (by omega))
theorem tP_pos {σ : MS} {pk : Nat → Nat} (hp : ∀ s, s < mN σ → 0 < mT σ (4 * s + pk s)) : ∀ k, k ≤ mN σ → 0 < tP σ pk k
  | 0, _ => Nat.one_pos
  | k + 1, hk => Nat.mul_pos (tP_pos hp k (by omega)) (hp k (by omega))
theorem tP_dvd {σ : MS} {pk : Nat → Nat} {s : Nat} : ∀ k, s < k → mT σ (4 * s + pk s) ∣ tP σ pk k
  | 0, h => absurd h (Nat.not_lt_zero s)
  | k + 1, h => by
    by_cases e : s = k
    · subst e; exact Nat.dvd_mul_left _ _
    · exact Nat.dvd_trans (tP_dvd k (by omega)) (Nat.dvd_mul_right _ _)
theorem sI_abs {f : Nat → Int} : ∀ k, (sI f k).natAbs ≤ sB (fun j => (f j).natAbs) k
  | 0 => Nat.le_refl 0
  | k + 1 => by
    have := sI_abs (f := f) k
    show (sI f k + f k).natAbs ≤ sB _ k + (f k).natAbs
    omega
theorem sB_lin (q : Nat → Nat) (a : Nat) : ∀ k, sB (fun j => a * q j) k = a * sB q k
  | 0 => rfl
  | k + 1 => by
    show sB _ k + a * q k = a * (sB q k + q k)
    rw [sB_lin q a k, Nat.mul_add]
theorem sB_sI (q : Nat → Nat) : ∀ k, ((sB q k : Nat) : Int) = sI (fun j => (q j : Int)) k
  | 0 => rfl
  | k + 1 => by
    show ((sB q k + q k : Nat) : Int) = sI _ k + (q k : Int)
    rw [Int.natCast_add, sB_sI q k]
/-- values up to 20,000 stay so -/
theorem gn_b {σ : MS} (h : mOK σ) {i : Nat} (hi : i < 24) {v : Nat → Int} {b : Int} (hb : 0 < b) (hv : ∀ t, t < mN σ → (v t).natAbs ≤ 20000 * b.natAbs) : (gnum σ i v b).natAbs ≤ 20000 * b.natAbs * (gsc σ i).natAbs := by
  have h1 := h.2.2.1 i hi
  have hAB := h.2.2.2.1
  have hB := h.2.2.2.2.1
  have hsw : sB (fun t => mW σ i t) (mN σ) = mT σ i := by
    have h1 := sumW h hi
    have h2 := sB_sI (fun t => mW σ i t) (mN σ)
    omega
  have e1 : (gsum σ i v (mN σ)).natAbs ≤ 20000 * b.natAbs * (mD σ i * mA σ * mT σ i) := by
    rw [gsum_sI]
    refine Nat.le_trans (sI_abs _) ?_
    have e2 : sB (fun t => 20000 * b.natAbs * (mD σ i * mA σ) * mW σ i t) (mN σ) = 20000 * b.natAbs * (mD σ i * mA σ * mT σ i) := by
      rw [sB_lin, hsw, Nat.mul_assoc (20000 * b.natAbs)]
    rw [← e2]
    refine sB_le (fun t ht => ?_)
    rw [Int.natAbs_mul]
    have e3 : (gct σ i t).natAbs = mD σ i * mA σ * mW σ i t := by unfold gct; rw [Int.natAbs_mul, Int.natAbs_mul]; rfl
    rw [e3, Nat.mul_comm]
    have := Nat.mul_le_mul_right (mD σ i * mA σ * mW σ i t) (hv t ht)
    rw [Nat.mul_assoc (20000 * b.natAbs) (mD σ i * mA σ)]
    exact this
  have e4 : (gc0 σ i).natAbs ≤ 1000 * mB σ * mT σ i := by
    unfold gc0
    rw [Int.natAbs_mul, Int.natAbs_mul]
    exact Nat.mul_le_mul (Nat.mul_le_mul (by omega) (Nat.le_refl _)) (Nat.le_refl _)
  have e5 : (gsc σ i).natAbs = mD σ i * mB σ * mT σ i := by unfold gsc; rw [Int.natAbs_mul, Int.natAbs_mul]; rfl
  have e6 : (b * gc0 σ i).natAbs ≤ b.natAbs * (1000 * mB σ * mT σ i) := by rw [Int.natAbs_mul]; exact Nat.mul_le_mul_left _ e4
  have e7 : 1000 * mB σ + 20000 * (mD σ i * mA σ) ≤ 20000 * (mD σ i * mB σ) := by
    obtain ⟨d, hd⟩ : ∃ d, mB σ = mA σ + 1 + d := ⟨mB σ - mA σ - 1, by omega⟩
    have a1 : mD σ i * mB σ = mD σ i * mA σ + mD σ i + mD σ i * d := by rw [hd, Nat.mul_add, Nat.mul_add, Nat.mul_one]
    omega
  have e8 : b.natAbs * (1000 * mB σ * mT σ i) + 20000 * b.natAbs * (mD σ i * mA σ * mT σ i) ≤ 20000 * b.natAbs * (mD σ i * mB σ * mT σ i) := by
    have a1 := Nat.mul_le_mul_left (b.natAbs) (Nat.mul_le_mul_right (mT σ i) e7)
    have a2 : b.natAbs * ((1000 * mB σ + 20000 * (mD σ i * mA σ)) * mT σ i) = b.natAbs * (1000 * mB σ * mT σ i) + 20000 * b.natAbs * (mD σ i * mA σ * mT σ i) := by
      rw [Nat.add_mul, Nat.mul_add, Nat.mul_assoc 20000, Nat.mul_comm 20000 b.natAbs, Nat.mul_assoc b.natAbs 20000]
    have a3 : b.natAbs * (20000 * (mD σ i * mB σ) * mT σ i) = 20000 * b.natAbs * (mD σ i * mB σ * mT σ i) := by
      rw [Nat.mul_assoc 20000, Nat.mul_comm 20000 b.natAbs, Nat.mul_assoc b.natAbs 20000]
    omega
  rw [e5]
  unfold gnum
  omega
/-- the lower part behind k steps at the most -/
def bb (k : Nat) : Nat := 232792560 * 59719680000000 ^ k
theorem bb_mono {a b : Nat} (h : a ≤ b) : bb a ≤ bb b := Nat.mul_le_mul_left _ (Nat.pow_le_pow_right (by omega) h)
theorem bb_8 : 20000 * bb 8 < 1000000 ^ 24 ∧ 960000000 * bb 7 < 1000000 ^ 23 := by decide +kernel
/-- one step: from v over b to v' over b' -/
def SR (σ : MS) (cm : Nat) (v : Nat → Int) (b : Int) (v' : Nat → Int) (b' : Int) (pk : Nat → Int) : Prop := 0 < b' ∧ (cm : Int) ∣ b' ∧ b' ≤ b * 59719680000000 ∧ ∀ s, s < mN σ → pk s = (spk σ v b s : Int) ∧ (v' s).natAbs ≤ 20000 * b'.natAbs ∧ v' s * (b * gsc σ (4 * s + spk σ v b s)) = gnum σ (4 * s + spk σ v b s) v b * b'
theorem gn_dvd {σ : MS} {i : Nat} {v : Nat → Int} {b : Int} {cm : Nat} (h1 : mD σ i ∣ cm) (h2 : (cm : Int) ∣ b) : (mD σ i : Int) ∣ gnum σ i v b := by
  have hb : (mD σ i : Int) ∣ b := Int.dvd_trans (Int.natCast_dvd_natCast.mpr h1) h2
  have hs : ∀ k, (mD σ i : Int) ∣ gsum σ i v k := by
    intro k
    induction k with
    | zero => exact ⟨0, by simp [gsum]⟩
    | succ k ih =>
      refine Int.dvd_add ih ?_
      exact Int.dvd_trans ⟨(mA σ : Int) * (mW σ i k : Int), by unfold gct; rw [Int.mul_assoc]⟩ (Int.dvd_mul_left _ _)
  exact Int.dvd_add (Int.dvd_trans hb (Int.dvd_mul_right _ _)) (hs _)
theorem spk_lt {σ : MS} (hr : rdy σ) {v : Nat → Int} {b : Int} {s : Nat} (hs : s < mN σ) : spk σ v b s < mC σ s := gpick_lt (hr.2 s hs).1 _ (Nat.le_refl _)
theorem p120 {k : Nat} (h : k ≤ 6) : 120 ^ k ≤ 2985984000000 := by
  have h1 : 120 ^ k ≤ 120 ^ 6 := Nat.pow_le_pow_right (by omega) h
  have h2 : 120 ^ 6 = 2985984000000 := by decide +kernel
  omega
/-- the parts of a step fit -/
theorem step_fit {σ : MS} {v : Nat → Int} {b g q : Int} {i T : Nat} (hq : q * (mD σ i : Int) = g) (hT : mT σ i ∣ T) (b' : Int) (hb' : b' = b * (mB σ : Int) * (T : Int)) : q * ((T / mT σ i : Nat) : Int) * (b * gsc σ i) = g * b' := by
  obtain ⟨u, hu⟩ := hT
  by_cases h0 : mT σ i = 0
  · rw [h0, Nat.zero_mul] at hu
    unfold gsc
    rw [hb', hu, h0]
    simp
  · have e : T / mT σ i = u := by rw [hu, Nat.mul_div_cancel_left _ (by omega)]
    rw [e, hb', hu, ← hq, Int.natCast_mul]
    unfold gsc
    generalize (mD σ i : Int) = d
    generalize (mB σ : Int) = B
    generalize (mT σ i : Int) = t
    generalize (u : Int) = w
    simp only [Int.mul_assoc, Int.mul_comm, Int.mul_left_comm]
end
