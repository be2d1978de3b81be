section
-- ===== PART A: goes FIRST, ahead of the names: the tables' words, and 'selects' of the private methods out of them =====
/-- a private method of a class that the tables say can be made, by its rows of tables_1 -/
def lw_okq (q : MethodName × Nat) : Prop := (q.1.cls ≠ "java/lang/invoke/MethodHandle" ∧ q.1.cls ≠ "java/lang/invoke/VarHandle") ∧ Cond.instantiable q.1.cls q.2 ∈ tables_1 ∧ Cond.privateMethod q.1 ∈ tables_1 ∧ Cond.instanceMethod q.1 ∈ tables_1
theorem lw_p0 : lw_okq (⟨"SoundLaws", "readPage", "()I"⟩, 13) := ⟨⟨by decide +kernel, by decide +kernel⟩, List.mem_of_getElem? (i := 21) (by decide +kernel), List.mem_of_getElem? (i := 294) (by decide +kernel), List.mem_of_getElem? (i := 295) (by decide +kernel)⟩
theorem lw_p1 : lw_okq (⟨"SoundLaws$Reader", "acceptsKind", "(I)Z"⟩, 7) := ⟨⟨by decide +kernel, by decide +kernel⟩, List.mem_of_getElem? (i := 29) (by decide +kernel), List.mem_of_getElem? (i := 393) (by decide +kernel), List.mem_of_getElem? (i := 394) (by decide +kernel)⟩
theorem lw_p2 : lw_okq (⟨"SoundLaws$Reader", "openWord", "()V"⟩, 7) := ⟨⟨by decide +kernel, by decide +kernel⟩, List.mem_of_getElem? (i := 29) (by decide +kernel), List.mem_of_getElem? (i := 397) (by decide +kernel), List.mem_of_getElem? (i := 398) (by decide +kernel)⟩
theorem lw_p3 : lw_okq (⟨"SoundLaws$Reader", "endsWord", "()Z"⟩, 7) := ⟨⟨by decide +kernel, by decide +kernel⟩, List.mem_of_getElem? (i := 29) (by decide +kernel), List.mem_of_getElem? (i := 401) (by decide +kernel), List.mem_of_getElem? (i := 402) (by decide +kernel)⟩
theorem lw_p4 : lw_okq (⟨"SoundLaws$Reader", "wordIsWhole", "()Z"⟩, 7) := ⟨⟨by decide +kernel, by decide +kernel⟩, List.mem_of_getElem? (i := 29) (by decide +kernel), List.mem_of_getElem? (i := 405) (by decide +kernel), List.mem_of_getElem? (i := 406) (by decide +kernel)⟩
theorem lw_p5 : lw_okq (⟨"SoundLaws$Reader", "closeWord", "()V"⟩, 7) := ⟨⟨by decide +kernel, by decide +kernel⟩, List.mem_of_getElem? (i := 29) (by decide +kernel), List.mem_of_getElem? (i := 409) (by decide +kernel), List.mem_of_getElem? (i := 410) (by decide +kernel)⟩
theorem lw_p6 : lw_okq (⟨"SoundLaws$Reader", "endsSet", "()Z"⟩, 7) := ⟨⟨by decide +kernel, by decide +kernel⟩, List.mem_of_getElem? (i := 29) (by decide +kernel), List.mem_of_getElem? (i := 413) (by decide +kernel), List.mem_of_getElem? (i := 414) (by decide +kernel)⟩
theorem lw_p7 : lw_okq (⟨"SoundLaws$Reader", "setIsWhole", "()Z"⟩, 7) := ⟨⟨by decide +kernel, by decide +kernel⟩, List.mem_of_getElem? (i := 29) (by decide +kernel), List.mem_of_getElem? (i := 417) (by decide +kernel), List.mem_of_getElem? (i := 418) (by decide +kernel)⟩
theorem lw_p8 : lw_okq (⟨"SoundLaws$Reader", "acceptsSound", "(I)Z"⟩, 7) := ⟨⟨by decide +kernel, by decide +kernel⟩, List.mem_of_getElem? (i := 29) (by decide +kernel), List.mem_of_getElem? (i := 422) (by decide +kernel), List.mem_of_getElem? (i := 423) (by decide +kernel)⟩
theorem lw_p9 : lw_okq (⟨"SoundLaws", "isSet", "(I)Z"⟩, 13) := ⟨⟨by decide +kernel, by decide +kernel⟩, List.mem_of_getElem? (i := 21) (by decide +kernel), List.mem_of_getElem? (i := 453) (by decide +kernel), List.mem_of_getElem? (i := 454) (by decide +kernel)⟩
theorem lw_p10 : lw_okq (⟨"SoundLaws", "freshenStudy", "()V"⟩, 13) := ⟨⟨by decide +kernel, by decide +kernel⟩, List.mem_of_getElem? (i := 21) (by decide +kernel), List.mem_of_getElem? (i := 457) (by decide +kernel), List.mem_of_getElem? (i := 458) (by decide +kernel)⟩
theorem lw_p11 : lw_okq (⟨"SoundLaws$Study", "rebuild", "(LSoundLaws$Stock;I)V"⟩, 6) := ⟨⟨by decide +kernel, by decide +kernel⟩, List.mem_of_getElem? (i := 119) (by decide +kernel), List.mem_of_getElem? (i := 469) (by decide +kernel), List.mem_of_getElem? (i := 470) (by decide +kernel)⟩
theorem lw_p12 : lw_okq (⟨"SoundLaws$Tree", "pairOf", "(I)I"⟩, 3) := ⟨⟨by decide +kernel, by decide +kernel⟩, List.mem_of_getElem? (i := 154) (by decide +kernel), List.mem_of_getElem? (i := 483) (by decide +kernel), List.mem_of_getElem? (i := 484) (by decide +kernel)⟩
theorem lw_p13 : lw_okq (⟨"SoundLaws$Tree", "leastBelow", "(II)I"⟩, 3) := ⟨⟨by decide +kernel, by decide +kernel⟩, List.mem_of_getElem? (i := 154) (by decide +kernel), List.mem_of_getElem? (i := 491) (by decide +kernel), List.mem_of_getElem? (i := 492) (by decide +kernel)⟩
theorem lw_p14 : lw_okq (⟨"SoundLaws$Tree", "settle", "(II)V"⟩, 3) := ⟨⟨by decide +kernel, by decide +kernel⟩, List.mem_of_getElem? (i := 154) (by decide +kernel), List.mem_of_getElem? (i := 505) (by decide +kernel), List.mem_of_getElem? (i := 506) (by decide +kernel)⟩
theorem lw_p15 : lw_okq (⟨"SoundLaws$Study", "weigh", "(LSoundLaws$Stock;I)V"⟩, 6) := ⟨⟨by decide +kernel, by decide +kernel⟩, List.mem_of_getElem? (i := 119) (by decide +kernel), List.mem_of_getElem? (i := 524) (by decide +kernel), List.mem_of_getElem? (i := 525) (by decide +kernel)⟩
def lw_privs_1 : List (MethodName × Nat) := [(⟨"SoundLaws", "readPage", "()I"⟩, 13), (⟨"SoundLaws$Reader", "acceptsKind", "(I)Z"⟩, 7), (⟨"SoundLaws$Reader", "openWord", "()V"⟩, 7), (⟨"SoundLaws$Reader", "endsWord", "()Z"⟩, 7), (⟨"SoundLaws$Reader", "wordIsWhole", "()Z"⟩, 7), (⟨"SoundLaws$Reader", "closeWord", "()V"⟩, 7), (⟨"SoundLaws$Reader", "endsSet", "()Z"⟩, 7), (⟨"SoundLaws$Reader", "setIsWhole", "()Z"⟩, 7), (⟨"SoundLaws$Reader", "acceptsSound", "(I)Z"⟩, 7), (⟨"SoundLaws", "isSet", "(I)Z"⟩, 13), (⟨"SoundLaws", "freshenStudy", "()V"⟩, 13), (⟨"SoundLaws$Study", "rebuild", "(LSoundLaws$Stock;I)V"⟩, 6), (⟨"SoundLaws$Tree", "pairOf", "(I)I"⟩, 3), (⟨"SoundLaws$Tree", "leastBelow", "(II)I"⟩, 3), (⟨"SoundLaws$Tree", "settle", "(II)V"⟩, 3), (⟨"SoundLaws$Study", "weigh", "(LSoundLaws$Stock;I)V"⟩, 6)]
theorem lw_r1 : ∀ q ∈ lw_privs_1, lw_okq q := List.forall_mem_cons.mpr ⟨lw_p0, List.forall_mem_cons.mpr ⟨lw_p1, List.forall_mem_cons.mpr ⟨lw_p2, List.forall_mem_cons.mpr ⟨lw_p3, List.forall_mem_cons.mpr ⟨lw_p4, List.forall_mem_cons.mpr ⟨lw_p5, List.forall_mem_cons.mpr ⟨lw_p6, List.forall_mem_cons.mpr ⟨lw_p7, List.forall_mem_cons.mpr ⟨lw_p8, List.forall_mem_cons.mpr ⟨lw_p9, List.forall_mem_cons.mpr ⟨lw_p10, List.forall_mem_cons.mpr ⟨lw_p11, List.forall_mem_cons.mpr ⟨lw_p12, List.forall_mem_cons.mpr ⟨lw_p13, List.forall_mem_cons.mpr ⟨lw_p14, List.forall_mem_cons.mpr ⟨lw_p15, fun _ h => absurd h List.not_mem_nil⟩⟩⟩⟩⟩⟩⟩⟩⟩⟩⟩⟩⟩⟩⟩⟩
theorem lw_p16 : lw_okq (⟨"SoundLaws$Laws", "settleLaw", "(I)V"⟩, 6) := ⟨⟨by decide +kernel, by decide +kernel⟩, List.mem_of_getElem? (i := 125) (by decide +kernel), List.mem_of_getElem? (i := 549) (by decide +kernel), List.mem_of_getElem? (i := 550) (by decide +kernel)⟩
theorem lw_p17 : lw_okq (⟨"SoundLaws$Study", "findStrange", "(LSoundLaws$Stock;I)V"⟩, 6) := ⟨⟨by decide +kernel, by decide +kernel⟩, List.mem_of_getElem? (i := 119) (by decide +kernel), List.mem_of_getElem? (i := 553) (by decide +kernel), List.mem_of_getElem? (i := 554) (by decide +kernel)⟩
theorem lw_p18 : lw_okq (⟨"SoundLaws", "tellOfSet", "(II)I"⟩, 13) := ⟨⟨by decide +kernel, by decide +kernel⟩, List.mem_of_getElem? (i := 21) (by decide +kernel), List.mem_of_getElem? (i := 557) (by decide +kernel), List.mem_of_getElem? (i := 558) (by decide +kernel)⟩
theorem lw_p19 : lw_okq (⟨"SoundLaws", "isNode", "(I)Z"⟩, 13) := ⟨⟨by decide +kernel, by decide +kernel⟩, List.mem_of_getElem? (i := 21) (by decide +kernel), List.mem_of_getElem? (i := 607) (by decide +kernel), List.mem_of_getElem? (i := 608) (by decide +kernel)⟩
theorem lw_p20 : lw_okq (⟨"SoundLaws", "isPlace", "(II)Z"⟩, 13) := ⟨⟨by decide +kernel, by decide +kernel⟩, List.mem_of_getElem? (i := 21) (by decide +kernel), List.mem_of_getElem? (i := 612) (by decide +kernel), List.mem_of_getElem? (i := 613) (by decide +kernel)⟩
theorem lw_p21 : lw_okq (⟨"SoundLaws", "tellOfNode", "(III)I"⟩, 13) := ⟨⟨by decide +kernel, by decide +kernel⟩, List.mem_of_getElem? (i := 21) (by decide +kernel), List.mem_of_getElem? (i := 616) (by decide +kernel), List.mem_of_getElem? (i := 617) (by decide +kernel)⟩
theorem lw_p22 : lw_okq (⟨"SoundLaws", "isTongue", "(I)Z"⟩, 13) := ⟨⟨by decide +kernel, by decide +kernel⟩, List.mem_of_getElem? (i := 21) (by decide +kernel), List.mem_of_getElem? (i := 627) (by decide +kernel), List.mem_of_getElem? (i := 628) (by decide +kernel)⟩
theorem lw_p23 : lw_okq (⟨"SoundLaws$Draws", "drawSound", "()I"⟩, 4) := ⟨⟨by decide +kernel, by decide +kernel⟩, List.mem_of_getElem? (i := 218) (by decide +kernel), List.mem_of_getElem? (i := 738) (by decide +kernel), List.mem_of_getElem? (i := 739) (by decide +kernel)⟩
theorem lw_p24 : lw_okq (⟨"SoundLaws$Draws", "isForeign", "(I)Z"⟩, 4) := ⟨⟨by decide +kernel, by decide +kernel⟩, List.mem_of_getElem? (i := 218) (by decide +kernel), List.mem_of_getElem? (i := 748) (by decide +kernel), List.mem_of_getElem? (i := 749) (by decide +kernel)⟩
theorem lw_p25 : lw_okq (⟨"SoundLaws", "tellOfAll", "(I)I"⟩, 13) := ⟨⟨by decide +kernel, by decide +kernel⟩, List.mem_of_getElem? (i := 21) (by decide +kernel), List.mem_of_getElem? (i := 769) (by decide +kernel), List.mem_of_getElem? (i := 770) (by decide +kernel)⟩
theorem lw_p26 : lw_okq (⟨"SoundLaws", "digestSet", "(JI)J"⟩, 13) := ⟨⟨by decide +kernel, by decide +kernel⟩, List.mem_of_getElem? (i := 21) (by decide +kernel), List.mem_of_getElem? (i := 784) (by decide +kernel), List.mem_of_getElem? (i := 785) (by decide +kernel)⟩
theorem lw_p27 : lw_okq (⟨"SoundLaws", "digestLaws", "(JI)J"⟩, 13) := ⟨⟨by decide +kernel, by decide +kernel⟩, List.mem_of_getElem? (i := 21) (by decide +kernel), List.mem_of_getElem? (i := 792) (by decide +kernel), List.mem_of_getElem? (i := 793) (by decide +kernel)⟩
theorem lw_p28 : lw_okq (⟨"SoundLawsModel", "faultOf", "()I"⟩, 41) := ⟨⟨by decide +kernel, by decide +kernel⟩, List.mem_of_getElem? (i := 796) (by decide +kernel), List.mem_of_getElem? (i := 942) (by decide +kernel), List.mem_of_getElem? (i := 943) (by decide +kernel)⟩
theorem lw_p29 : lw_okq (⟨"SoundLawsModel", "isGood", "(I)Z"⟩, 41) := ⟨⟨by decide +kernel, by decide +kernel⟩, List.mem_of_getElem? (i := 796) (by decide +kernel), List.mem_of_getElem? (i := 946) (by decide +kernel), List.mem_of_getElem? (i := 947) (by decide +kernel)⟩
theorem lw_p30 : lw_okq (⟨"SoundLawsModel", "isBegun", "(I)Z"⟩, 41) := ⟨⟨by decide +kernel, by decide +kernel⟩, List.mem_of_getElem? (i := 796) (by decide +kernel), List.mem_of_getElem? (i := 950) (by decide +kernel), List.mem_of_getElem? (i := 951) (by decide +kernel)⟩
theorem lw_p31 : lw_okq (⟨"SoundLawsModel", "isSlash", "()Z"⟩, 41) := ⟨⟨by decide +kernel, by decide +kernel⟩, List.mem_of_getElem? (i := 796) (by decide +kernel), List.mem_of_getElem? (i := 957) (by decide +kernel), List.mem_of_getElem? (i := 958) (by decide +kernel)⟩
def lw_privs_2 : List (MethodName × Nat) := [(⟨"SoundLaws$Laws", "settleLaw", "(I)V"⟩, 6), (⟨"SoundLaws$Study", "findStrange", "(LSoundLaws$Stock;I)V"⟩, 6), (⟨"SoundLaws", "tellOfSet", "(II)I"⟩, 13), (⟨"SoundLaws", "isNode", "(I)Z"⟩, 13), (⟨"SoundLaws", "isPlace", "(II)Z"⟩, 13), (⟨"SoundLaws", "tellOfNode", "(III)I"⟩, 13), (⟨"SoundLaws", "isTongue", "(I)Z"⟩, 13), (⟨"SoundLaws$Draws", "drawSound", "()I"⟩, 4), (⟨"SoundLaws$Draws", "isForeign", "(I)Z"⟩, 4), (⟨"SoundLaws", "tellOfAll", "(I)I"⟩, 13), (⟨"SoundLaws", "digestSet", "(JI)J"⟩, 13), (⟨"SoundLaws", "digestLaws", "(JI)J"⟩, 13), (⟨"SoundLawsModel", "faultOf", "()I"⟩, 41), (⟨"SoundLawsModel", "isGood", "(I)Z"⟩, 41), (⟨"SoundLawsModel", "isBegun", "(I)Z"⟩, 41), (⟨"SoundLawsModel", "isSlash", "()Z"⟩, 41)]
theorem lw_r2 : ∀ q ∈ lw_privs_2, lw_okq q := List.forall_mem_cons.mpr ⟨lw_p16, List.forall_mem_cons.mpr ⟨lw_p17, List.forall_mem_cons.mpr ⟨lw_p18, List.forall_mem_cons.mpr ⟨lw_p19, List.forall_mem_cons.mpr ⟨lw_p20, List.forall_mem_cons.mpr ⟨lw_p21, List.forall_mem_cons.mpr ⟨lw_p22, List.forall_mem_cons.mpr ⟨lw_p23, List.forall_mem_cons.mpr ⟨lw_p24, List.forall_mem_cons.mpr ⟨lw_p25, List.forall_mem_cons.mpr ⟨lw_p26, List.forall_mem_cons.mpr ⟨lw_p27, List.forall_mem_cons.mpr ⟨lw_p28, List.forall_mem_cons.mpr ⟨lw_p29, List.forall_mem_cons.mpr ⟨lw_p30, List.forall_mem_cons.mpr ⟨lw_p31, fun _ h => absurd h List.not_mem_nil⟩⟩⟩⟩⟩⟩⟩⟩⟩⟩⟩⟩⟩⟩⟩⟩
theorem lw_p32 : lw_okq (⟨"SoundLawsModel", "isWordWhole", "()Z"⟩, 41) := ⟨⟨by decide +kernel, by decide +kernel⟩, List.mem_of_getElem? (i := 796) (by decide +kernel), List.mem_of_getElem? (i := 961) (by decide +kernel), List.mem_of_getElem? (i := 962) (by decide +kernel)⟩
theorem lw_p33 : lw_okq (⟨"SoundLawsModel", "isComma", "()Z"⟩, 41) := ⟨⟨by decide +kernel, by decide +kernel⟩, List.mem_of_getElem? (i := 796) (by decide +kernel), List.mem_of_getElem? (i := 965) (by decide +kernel), List.mem_of_getElem? (i := 966) (by decide +kernel)⟩
theorem lw_p34 : lw_okq (⟨"SoundLawsModel", "isSetWhole", "()Z"⟩, 41) := ⟨⟨by decide +kernel, by decide +kernel⟩, List.mem_of_getElem? (i := 796) (by decide +kernel), List.mem_of_getElem? (i := 969) (by decide +kernel), List.mem_of_getElem? (i := 970) (by decide +kernel)⟩
theorem lw_p35 : lw_okq (⟨"SoundLawsModel", "isSound", "(I)Z"⟩, 41) := ⟨⟨by decide +kernel, by decide +kernel⟩, List.mem_of_getElem? (i := 796) (by decide +kernel), List.mem_of_getElem? (i := 973) (by decide +kernel), List.mem_of_getElem? (i := 974) (by decide +kernel)⟩
theorem lw_p36 : lw_okq (⟨"SoundLawsModel", "isMute", "()Z"⟩, 41) := ⟨⟨by decide +kernel, by decide +kernel⟩, List.mem_of_getElem? (i := 796) (by decide +kernel), List.mem_of_getElem? (i := 984) (by decide +kernel), List.mem_of_getElem? (i := 985) (by decide +kernel)⟩
theorem lw_p37 : lw_okq (⟨"SoundLawsModel", "isTongue", "(I)Z"⟩, 41) := ⟨⟨by decide +kernel, by decide +kernel⟩, List.mem_of_getElem? (i := 796) (by decide +kernel), List.mem_of_getElem? (i := 1004) (by decide +kernel), List.mem_of_getElem? (i := 1005) (by decide +kernel)⟩
theorem lw_p38 : lw_okq (⟨"SoundLawsModel", "freshen", "()V"⟩, 41) := ⟨⟨by decide +kernel, by decide +kernel⟩, List.mem_of_getElem? (i := 796) (by decide +kernel), List.mem_of_getElem? (i := 1009) (by decide +kernel), List.mem_of_getElem? (i := 1010) (by decide +kernel)⟩
theorem lw_p39 : lw_okq (⟨"SoundLawsModel", "laySets", "()V"⟩, 41) := ⟨⟨by decide +kernel, by decide +kernel⟩, List.mem_of_getElem? (i := 796) (by decide +kernel), List.mem_of_getElem? (i := 1013) (by decide +kernel), List.mem_of_getElem? (i := 1014) (by decide +kernel)⟩
theorem lw_p40 : lw_okq (⟨"SoundLawsModel", "isRebuilt", "(I)Z"⟩, 41) := ⟨⟨by decide +kernel, by decide +kernel⟩, List.mem_of_getElem? (i := 796) (by decide +kernel), List.mem_of_getElem? (i := 1017) (by decide +kernel), List.mem_of_getElem? (i := 1018) (by decide +kernel)⟩
theorem lw_p41 : lw_okq (⟨"SoundLawsModel", "rebuild", "(I)I"⟩, 41) := ⟨⟨by decide +kernel, by decide +kernel⟩, List.mem_of_getElem? (i := 796) (by decide +kernel), List.mem_of_getElem? (i := 1021) (by decide +kernel), List.mem_of_getElem? (i := 1022) (by decide +kernel)⟩
theorem lw_p42 : lw_okq (⟨"SoundLawsModel", "layCosts", "(I)V"⟩, 41) := ⟨⟨by decide +kernel, by decide +kernel⟩, List.mem_of_getElem? (i := 796) (by decide +kernel), List.mem_of_getElem? (i := 1025) (by decide +kernel), List.mem_of_getElem? (i := 1026) (by decide +kernel)⟩
theorem lw_p43 : lw_okq (⟨"SoundLawsModel", "nodesBy", "(I)I"⟩, 41) := ⟨⟨by decide +kernel, by decide +kernel⟩, List.mem_of_getElem? (i := 796) (by decide +kernel), List.mem_of_getElem? (i := 1029) (by decide +kernel), List.mem_of_getElem? (i := 1030) (by decide +kernel)⟩
theorem lw_p44 : lw_okq (⟨"SoundLawsModel", "least", "(II)I"⟩, 41) := ⟨⟨by decide +kernel, by decide +kernel⟩, List.mem_of_getElem? (i := 796) (by decide +kernel), List.mem_of_getElem? (i := 1036) (by decide +kernel), List.mem_of_getElem? (i := 1037) (by decide +kernel)⟩
theorem lw_p45 : lw_okq (⟨"SoundLawsModel", "leastSound", "(II)I"⟩, 41) := ⟨⟨by decide +kernel, by decide +kernel⟩, List.mem_of_getElem? (i := 796) (by decide +kernel), List.mem_of_getElem? (i := 1043) (by decide +kernel), List.mem_of_getElem? (i := 1044) (by decide +kernel)⟩
theorem lw_p46 : lw_okq (⟨"SoundLawsModel", "layLaw", "(III)V"⟩, 41) := ⟨⟨by decide +kernel, by decide +kernel⟩, List.mem_of_getElem? (i := 796) (by decide +kernel), List.mem_of_getElem? (i := 1047) (by decide +kernel), List.mem_of_getElem? (i := 1048) (by decide +kernel)⟩
theorem lw_p47 : lw_okq (⟨"SoundLawsModel", "layTally", "(III)V"⟩, 41) := ⟨⟨by decide +kernel, by decide +kernel⟩, List.mem_of_getElem? (i := 796) (by decide +kernel), List.mem_of_getElem? (i := 1051) (by decide +kernel), List.mem_of_getElem? (i := 1052) (by decide +kernel)⟩
def lw_privs_3 : List (MethodName × Nat) := [(⟨"SoundLawsModel", "isWordWhole", "()Z"⟩, 41), (⟨"SoundLawsModel", "isComma", "()Z"⟩, 41), (⟨"SoundLawsModel", "isSetWhole", "()Z"⟩, 41), (⟨"SoundLawsModel", "isSound", "(I)Z"⟩, 41), (⟨"SoundLawsModel", "isMute", "()Z"⟩, 41), (⟨"SoundLawsModel", "isTongue", "(I)Z"⟩, 41), (⟨"SoundLawsModel", "freshen", "()V"⟩, 41), (⟨"SoundLawsModel", "laySets", "()V"⟩, 41), (⟨"SoundLawsModel", "isRebuilt", "(I)Z"⟩, 41), (⟨"SoundLawsModel", "rebuild", "(I)I"⟩, 41), (⟨"SoundLawsModel", "layCosts", "(I)V"⟩, 41), (⟨"SoundLawsModel", "nodesBy", "(I)I"⟩, 41), (⟨"SoundLawsModel", "least", "(II)I"⟩, 41), (⟨"SoundLawsModel", "leastSound", "(II)I"⟩, 41), (⟨"SoundLawsModel", "layLaw", "(III)V"⟩, 41), (⟨"SoundLawsModel", "layTally", "(III)V"⟩, 41)]
theorem lw_r3 : ∀ q ∈ lw_privs_3, lw_okq q := List.forall_mem_cons.mpr ⟨lw_p32, List.forall_mem_cons.mpr ⟨lw_p33, List.forall_mem_cons.mpr ⟨lw_p34, List.forall_mem_cons.mpr ⟨lw_p35, List.forall_mem_cons.mpr ⟨lw_p36, List.forall_mem_cons.mpr ⟨lw_p37, List.forall_mem_cons.mpr ⟨lw_p38, List.forall_mem_cons.mpr ⟨lw_p39, List.forall_mem_cons.mpr ⟨lw_p40, List.forall_mem_cons.mpr ⟨lw_p41, List.forall_mem_cons.mpr ⟨lw_p42, List.forall_mem_cons.mpr ⟨lw_p43, List.forall_mem_cons.mpr ⟨lw_p44, List.forall_mem_cons.mpr ⟨lw_p45, List.forall_mem_cons.mpr ⟨lw_p46, List.forall_mem_cons.mpr ⟨lw_p47, fun _ h => absurd h List.not_mem_nil⟩⟩⟩⟩⟩⟩⟩⟩⟩⟩⟩⟩⟩⟩⟩⟩
theorem lw_p48 : lw_okq (⟨"SoundLawsModel", "oldSound", "(II)I"⟩, 41) := ⟨⟨by decide +kernel, by decide +kernel⟩, List.mem_of_getElem? (i := 796) (by decide +kernel), List.mem_of_getElem? (i := 1058) (by decide +kernel), List.mem_of_getElem? (i := 1059) (by decide +kernel)⟩
theorem lw_p49 : lw_okq (⟨"SoundLawsModel", "isSet", "(I)Z"⟩, 41) := ⟨⟨by decide +kernel, by decide +kernel⟩, List.mem_of_getElem? (i := 796) (by decide +kernel), List.mem_of_getElem? (i := 1066) (by decide +kernel), List.mem_of_getElem? (i := 1067) (by decide +kernel)⟩
theorem lw_p50 : lw_okq (⟨"SoundLawsModel", "strangeOf", "(II)I"⟩, 41) := ⟨⟨by decide +kernel, by decide +kernel⟩, List.mem_of_getElem? (i := 796) (by decide +kernel), List.mem_of_getElem? (i := 1070) (by decide +kernel), List.mem_of_getElem? (i := 1071) (by decide +kernel)⟩
theorem lw_p51 : lw_okq (⟨"SoundLawsModel", "lawAt", "(III)I"⟩, 41) := ⟨⟨by decide +kernel, by decide +kernel⟩, List.mem_of_getElem? (i := 796) (by decide +kernel), List.mem_of_getElem? (i := 1074) (by decide +kernel), List.mem_of_getElem? (i := 1075) (by decide +kernel)⟩
theorem lw_p52 : lw_okq (⟨"SoundLawsModel", "isPlace", "(II)Z"⟩, 41) := ⟨⟨by decide +kernel, by decide +kernel⟩, List.mem_of_getElem? (i := 796) (by decide +kernel), List.mem_of_getElem? (i := 1082) (by decide +kernel), List.mem_of_getElem? (i := 1083) (by decide +kernel)⟩
theorem lw_p53 : lw_okq (⟨"SoundLawsModel", "strip", "(II[I)I"⟩, 41) := ⟨⟨by decide +kernel, by decide +kernel⟩, List.mem_of_getElem? (i := 796) (by decide +kernel), List.mem_of_getElem? (i := 1090) (by decide +kernel), List.mem_of_getElem? (i := 1091) (by decide +kernel)⟩
theorem lw_p54 : lw_okq (⟨"SoundLawsModel", "tellSet", "(II)I"⟩, 41) := ⟨⟨by decide +kernel, by decide +kernel⟩, List.mem_of_getElem? (i := 796) (by decide +kernel), List.mem_of_getElem? (i := 1098) (by decide +kernel), List.mem_of_getElem? (i := 1099) (by decide +kernel)⟩
theorem lw_p55 : lw_okq (⟨"SoundLawsModel", "strangeAll", "(I)I"⟩, 41) := ⟨⟨by decide +kernel, by decide +kernel⟩, List.mem_of_getElem? (i := 796) (by decide +kernel), List.mem_of_getElem? (i := 1102) (by decide +kernel), List.mem_of_getElem? (i := 1103) (by decide +kernel)⟩
theorem lw_p56 : lw_okq (⟨"SoundLawsModel", "borrowed", "(I)I"⟩, 41) := ⟨⟨by decide +kernel, by decide +kernel⟩, List.mem_of_getElem? (i := 796) (by decide +kernel), List.mem_of_getElem? (i := 1106) (by decide +kernel), List.mem_of_getElem? (i := 1107) (by decide +kernel)⟩
theorem lw_p57 : lw_okq (⟨"SoundLawsModel", "isBorrowed", "(II)Z"⟩, 41) := ⟨⟨by decide +kernel, by decide +kernel⟩, List.mem_of_getElem? (i := 796) (by decide +kernel), List.mem_of_getElem? (i := 1110) (by decide +kernel), List.mem_of_getElem? (i := 1111) (by decide +kernel)⟩
theorem lw_p58 : lw_okq (⟨"SoundLawsModel", "sortsOf", "(I)I"⟩, 41) := ⟨⟨by decide +kernel, by decide +kernel⟩, List.mem_of_getElem? (i := 796) (by decide +kernel), List.mem_of_getElem? (i := 1114) (by decide +kernel), List.mem_of_getElem? (i := 1115) (by decide +kernel)⟩
theorem lw_p59 : lw_okq (⟨"SoundLawsModel", "askOf", "(I)I"⟩, 41) := ⟨⟨by decide +kernel, by decide +kernel⟩, List.mem_of_getElem? (i := 796) (by decide +kernel), List.mem_of_getElem? (i := 1121) (by decide +kernel), List.mem_of_getElem? (i := 1122) (by decide +kernel)⟩
theorem lw_p60 : lw_okq (⟨"SoundLawsModel", "isOnlyNone", "(II)Z"⟩, 41) := ⟨⟨by decide +kernel, by decide +kernel⟩, List.mem_of_getElem? (i := 796) (by decide +kernel), List.mem_of_getElem? (i := 1141) (by decide +kernel), List.mem_of_getElem? (i := 1142) (by decide +kernel)⟩
theorem lw_p61 : lw_okq (⟨"SoundLawsModel", "layLike", "(II)V"⟩, 41) := ⟨⟨by decide +kernel, by decide +kernel⟩, List.mem_of_getElem? (i := 796) (by decide +kernel), List.mem_of_getElem? (i := 1149) (by decide +kernel), List.mem_of_getElem? (i := 1150) (by decide +kernel)⟩
theorem lw_p62 : lw_okq (⟨"SoundLawsModel", "changesAll", "()I"⟩, 41) := ⟨⟨by decide +kernel, by decide +kernel⟩, List.mem_of_getElem? (i := 796) (by decide +kernel), List.mem_of_getElem? (i := 1165) (by decide +kernel), List.mem_of_getElem? (i := 1166) (by decide +kernel)⟩
theorem lw_p63 : lw_okq (⟨"SoundLawsModel", "draw", "(I)I"⟩, 41) := ⟨⟨by decide +kernel, by decide +kernel⟩, List.mem_of_getElem? (i := 796) (by decide +kernel), List.mem_of_getElem? (i := 1182) (by decide +kernel), List.mem_of_getElem? (i := 1183) (by decide +kernel)⟩
def lw_privs_4 : List (MethodName × Nat) := [(⟨"SoundLawsModel", "oldSound", "(II)I"⟩, 41), (⟨"SoundLawsModel", "isSet", "(I)Z"⟩, 41), (⟨"SoundLawsModel", "strangeOf", "(II)I"⟩, 41), (⟨"SoundLawsModel", "lawAt", "(III)I"⟩, 41), (⟨"SoundLawsModel", "isPlace", "(II)Z"⟩, 41), (⟨"SoundLawsModel", "strip", "(II[I)I"⟩, 41), (⟨"SoundLawsModel", "tellSet", "(II)I"⟩, 41), (⟨"SoundLawsModel", "strangeAll", "(I)I"⟩, 41), (⟨"SoundLawsModel", "borrowed", "(I)I"⟩, 41), (⟨"SoundLawsModel", "isBorrowed", "(II)Z"⟩, 41), (⟨"SoundLawsModel", "sortsOf", "(I)I"⟩, 41), (⟨"SoundLawsModel", "askOf", "(I)I"⟩, 41), (⟨"SoundLawsModel", "isOnlyNone", "(II)Z"⟩, 41), (⟨"SoundLawsModel", "layLike", "(II)V"⟩, 41), (⟨"SoundLawsModel", "changesAll", "()I"⟩, 41), (⟨"SoundLawsModel", "draw", "(I)I"⟩, 41)]
theorem lw_r4 : ∀ q ∈ lw_privs_4, lw_okq q := List.forall_mem_cons.mpr ⟨lw_p48, List.forall_mem_cons.mpr ⟨lw_p49, List.forall_mem_cons.mpr ⟨lw_p50, List.forall_mem_cons.mpr ⟨lw_p51, List.forall_mem_cons.mpr ⟨lw_p52, List.forall_mem_cons.mpr ⟨lw_p53, List.forall_mem_cons.mpr ⟨lw_p54, List.forall_mem_cons.mpr ⟨lw_p55, List.forall_mem_cons.mpr ⟨lw_p56, List.forall_mem_cons.mpr ⟨lw_p57, List.forall_mem_cons.mpr ⟨lw_p58, List.forall_mem_cons.mpr ⟨lw_p59, List.forall_mem_cons.mpr ⟨lw_p60, List.forall_mem_cons.mpr ⟨lw_p61, List.forall_mem_cons.mpr ⟨lw_p62, List.forall_mem_cons.mpr ⟨lw_p63, fun _ h => absurd h List.not_mem_nil⟩⟩⟩⟩⟩⟩⟩⟩⟩⟩⟩⟩⟩⟩⟩⟩
theorem lw_p64 : lw_okq (⟨"SoundLawsModel", "lacks", "()Z"⟩, 41) := ⟨⟨by decide +kernel, by decide +kernel⟩, List.mem_of_getElem? (i := 796) (by decide +kernel), List.mem_of_getElem? (i := 1194) (by decide +kernel), List.mem_of_getElem? (i := 1195) (by decide +kernel)⟩
theorem lw_p65 : lw_okq (⟨"SoundLawsModel", "countOf", "(I)I"⟩, 41) := ⟨⟨by decide +kernel, by decide +kernel⟩, List.mem_of_getElem? (i := 796) (by decide +kernel), List.mem_of_getElem? (i := 1209) (by decide +kernel), List.mem_of_getElem? (i := 1210) (by decide +kernel)⟩
theorem lw_p66 : lw_okq (⟨"SoundLawsModel", "countSets", "(I)I"⟩, 41) := ⟨⟨by decide +kernel, by decide +kernel⟩, List.mem_of_getElem? (i := 796) (by decide +kernel), List.mem_of_getElem? (i := 1213) (by decide +kernel), List.mem_of_getElem? (i := 1214) (by decide +kernel)⟩
theorem lw_p67 : lw_okq (⟨"SoundLawsModel", "sumLaws", "(Z)I"⟩, 41) := ⟨⟨by decide +kernel, by decide +kernel⟩, List.mem_of_getElem? (i := 796) (by decide +kernel), List.mem_of_getElem? (i := 1217) (by decide +kernel), List.mem_of_getElem? (i := 1218) (by decide +kernel)⟩
theorem lw_p68 : lw_okq (⟨"SoundLawsModel", "borrowedAll", "()I"⟩, 41) := ⟨⟨by decide +kernel, by decide +kernel⟩, List.mem_of_getElem? (i := 796) (by decide +kernel), List.mem_of_getElem? (i := 1221) (by decide +kernel), List.mem_of_getElem? (i := 1222) (by decide +kernel)⟩
theorem lw_p69 : lw_okq (⟨"SoundLawsModel", "saySet", "(I)V"⟩, 41) := ⟨⟨by decide +kernel, by decide +kernel⟩, List.mem_of_getElem? (i := 796) (by decide +kernel), List.mem_of_getElem? (i := 1230) (by decide +kernel), List.mem_of_getElem? (i := 1231) (by decide +kernel)⟩
theorem lw_p70 : lw_okq (⟨"SoundLawsModel", "note", "(J)V"⟩, 41) := ⟨⟨by decide +kernel, by decide +kernel⟩, List.mem_of_getElem? (i := 796) (by decide +kernel), List.mem_of_getElem? (i := 1234) (by decide +kernel), List.mem_of_getElem? (i := 1235) (by decide +kernel)⟩
def lw_privs_5 : List (MethodName × Nat) := [(⟨"SoundLawsModel", "lacks", "()Z"⟩, 41), (⟨"SoundLawsModel", "countOf", "(I)I"⟩, 41), (⟨"SoundLawsModel", "countSets", "(I)I"⟩, 41), (⟨"SoundLawsModel", "sumLaws", "(Z)I"⟩, 41), (⟨"SoundLawsModel", "borrowedAll", "()I"⟩, 41), (⟨"SoundLawsModel", "saySet", "(I)V"⟩, 41), (⟨"SoundLawsModel", "note", "(J)V"⟩, 41)]
theorem lw_r5 : ∀ q ∈ lw_privs_5, lw_okq q := List.forall_mem_cons.mpr ⟨lw_p64, List.forall_mem_cons.mpr ⟨lw_p65, List.forall_mem_cons.mpr ⟨lw_p66, List.forall_mem_cons.mpr ⟨lw_p67, List.forall_mem_cons.mpr ⟨lw_p68, List.forall_mem_cons.mpr ⟨lw_p69, List.forall_mem_cons.mpr ⟨lw_p70, fun _ h => absurd h List.not_mem_nil⟩⟩⟩⟩⟩⟩⟩
def lw_privs : List (MethodName × Nat) := lw_privs_1 ++ (lw_privs_2 ++ (lw_privs_3 ++ (lw_privs_4 ++ (lw_privs_5))))
def lw_tbl : List Cond := k2_sels lw_privs ++ tables_1
theorem lw_privs_ok : ∀ q ∈ lw_privs, lw_okq q := by
  show ∀ q ∈ lw_privs_1 ++ (lw_privs_2 ++ (lw_privs_3 ++ (lw_privs_4 ++ (lw_privs_5)))), lw_okq q
  exact List.forall_mem_append.mpr ⟨lw_r1, List.forall_mem_append.mpr ⟨lw_r2, List.forall_mem_append.mpr ⟨lw_r3, List.forall_mem_append.mpr ⟨lw_r4, lw_r5⟩⟩⟩⟩
end
section
/-! ===== BEGIN words of one list among another's, by their places ===== -/
theorem goodIn_r {big : List Cond} (ws : List Cond) (ps : List Nat) (hp : ws = ps.filterMap (fun i => big[i]?)) (h : ws.all goodWord = true) : GoodIn big ws := by
  intro w hw
  have h1 := List.all_eq_true.mp h w hw
  rw [hp] at hw
  obtain ⟨i, -, hi⟩ := List.mem_filterMap.mp hw
  have hm : w ∈ big := by first | exact List.mem_of_getElem? hi | exact List.getElem?_mem hi
  exact ⟨hm, good_of_word h1⟩
theorem goodIn_app {big a b : List Cond} (ha : GoodIn big a) (hb : GoodIn big b) : GoodIn big (a ++ b) := fun w h => (List.mem_append.mp h).elim (ha w) (hb w)
theorem goodIn_ca {big a b : List Cond} {c : Cond} (ha : GoodIn big (c :: a)) (hb : GoodIn big b) : GoodIn big (c :: (a ++ b)) := fun w h => (List.mem_cons.mp h).elim (fun e => ha w (List.mem_cons.mpr (Or.inl e))) (fun h => (List.mem_append.mp h).elim (fun h => ha w (List.mem_cons.mpr (Or.inr h))) (hb w))
theorem goodIn_sub {big ws : List Cond} (hm : ∀ w ∈ ws, w ∈ big) (h : ws.all goodWord = true) : GoodIn big ws := fun w hw => ⟨hm w hw, good_of_word (List.all_eq_true.mp h w hw)⟩
/-! ===== END ===== -/

/-! ===== BEGIN printed: names, fields, word lists, decode rows ===== -/
def RX0 : String := "SoundLaws$Aligner"
def TX0 : u_T := fun k => match k with
  | 0 => ("SoundLaws$Aligner", "first", "[I", true)
  | 1 => ("SoundLaws$Aligner", "second", "[I", true)
  | 2 => ("SoundLaws$Aligner", "firstLength", "I", false)
  | 3 => ("SoundLaws$Aligner", "secondLength", "I", false)
  | _ => ("SoundLaws$Aligner", "row", "[I", true)
def tyX0 : Nat → FieldType := fun k => match k with
  | 0 => .array .int
  | 1 => .array .int
  | 2 => .int
  | 3 => .int
  | _ => .array .int
abbrev wsX00 : List Cond := u_ws RX0 TX0 5
theorem nmX0 : ∀ a, a < 5 → ∀ b, b < 5 → a ≠ b → (TX0 a).2.1 ≠ (TX0 b).2.1 := by decide +kernel
theorem tyX0_ok : ∀ k, k < 5 → parseFieldDescriptor (TX0 k).2.2.1 = some (tyX0 k) := by decide +kernel
abbrev cX0_init : ByteArray := prog_2_method_1_code
def yX0_init : MethodName := ⟨RX0, "<init>", "()V"⟩
abbrev cX0_readFirst : ByteArray := prog_2_method_2_code
def yX0_readFirst : MethodName := ⟨RX0, "readFirst", "([III)V"⟩
abbrev cX0_readSecond : ByteArray := prog_2_method_3_code
def yX0_readSecond : MethodName := ⟨RX0, "readSecond", "([III)V"⟩
abbrev cX0_leastCost : ByteArray := prog_2_method_4_code
def yX0_leastCost : MethodName := ⟨RX0, "leastCost", "()I"⟩
abbrev cX0_readSounds : ByteArray := prog_2_method_5_code
def yX0_readSounds : MethodName := ⟨RX0, "readSounds", "([III[I)I"⟩
def RX1 : String := "SoundLaws$Draws"
def TX1 : u_T := fun k => match k with
  | 0 => ("SoundLaws$Draws", "seed", "I", false)
  | 1 => ("SoundLaws$Draws", "changes", "I", false)
  | 2 => ("SoundLaws$Draws", "foreign", "I", false)
  | _ => ("SoundLaws$Draws", "tree", "LSoundLaws$Tree;", true)
def tyX1 : Nat → FieldType := fun k => match k with
  | 0 => .int
  | 1 => .int
  | 2 => .int
  | _ => .object "SoundLaws$Tree"
abbrev wsX10 : List Cond := u_ws RX1 TX1 4
theorem nmX1 : ∀ a, a < 4 → ∀ b, b < 4 → a ≠ b → (TX1 a).2.1 ≠ (TX1 b).2.1 := by decide +kernel
theorem tyX1_ok : ∀ k, k < 4 → parseFieldDescriptor (TX1 k).2.2.1 = some (tyX1 k) := by decide +kernel
abbrev cX1_init : ByteArray := prog_3_method_1_code
def yX1_init : MethodName := ⟨RX1, "<init>", "()V"⟩
abbrev cX1_drawSets : ByteArray := prog_3_method_2_code
def yX1_drawSets : MethodName := ⟨RX1, "drawSets", "(II)V"⟩
abbrev cX1_drawSound : ByteArray := prog_3_method_3_code
def yX1_drawSound : MethodName := ⟨RX1, "drawSound", "()I"⟩
abbrev cX1_isForeign : ByteArray := prog_3_method_4_code
def yX1_isForeign : MethodName := ⟨RX1, "isForeign", "(I)Z"⟩
def RX2 : String := "SoundLaws$Laws"
def TX2 : u_T := fun k => match k with
  | 0 => ("SoundLaws$Laws", "becomes", "[I", true)
  | 1 => ("SoundLaws$Laws", "follows", "[I", true)
  | 2 => ("SoundLaws$Laws", "exceptions", "[I", true)
  | 3 => ("SoundLaws$Laws", "known", "I", false)
  | 4 => ("SoundLaws$Laws", "exceptionsOfAll", "I", false)
  | _ => ("SoundLaws$Laws", "weights", "[I", true)
def tyX2 : Nat → FieldType := fun k => match k with
  | 0 => .array .int
  | 1 => .array .int
  | 2 => .array .int
  | 3 => .int
  | 4 => .int
  | _ => .array .int
abbrev wsX20 : List Cond := u_ws RX2 TX2 6
theorem nmX2 : ∀ a, a < 6 → ∀ b, b < 6 → a ≠ b → (TX2 a).2.1 ≠ (TX2 b).2.1 := by decide +kernel
theorem tyX2_ok : ∀ k, k < 6 → parseFieldDescriptor (TX2 k).2.2.1 = some (tyX2 k) := by decide +kernel
abbrev cX2_init : ByteArray := prog_4_method_1_code
def yX2_init : MethodName := ⟨RX2, "<init>", "()V"⟩
abbrev cX2_clear : ByteArray := prog_4_method_2_code
def yX2_clear : MethodName := ⟨RX2, "clear", "()V"⟩
abbrev cX2_weigh : ByteArray := prog_4_method_3_code
def yX2_weigh : MethodName := ⟨RX2, "weigh", "(III)V"⟩
abbrev cX2_tell : ByteArray := prog_4_method_4_code
def yX2_tell : MethodName := ⟨RX2, "tell", "(II)I"⟩
abbrev cX2_settle : ByteArray := prog_4_method_5_code
def yX2_settle : MethodName := ⟨RX2, "settle", "(I)V"⟩
abbrev cX2_settleLaw : ByteArray := prog_4_method_6_code
def yX2_settleLaw : MethodName := ⟨RX2, "settleLaw", "(I)V"⟩
def RX3 : String := "SoundLaws$Reader"
def TX3 : u_T := fun k => match k with
  | 0 => ("SoundLaws$Reader", "draft", "LSoundLaws$Stock;", true)
  | 1 => ("SoundLaws$Reader", "kindIsDue", "Z", false)
  | 2 => ("SoundLaws$Reader", "set", "I", false)
  | 3 => ("SoundLaws$Reader", "tongue", "I", false)
  | 4 => ("SoundLaws$Reader", "place", "I", false)
  | 5 => ("SoundLaws$Reader", "wordIsSilent", "Z", false)
  | _ => ("SoundLaws$Reader", "hasSilentWord", "Z", false)
def tyX3 : Nat → FieldType := fun k => match k with
  | 0 => .object "SoundLaws$Stock"
  | 1 => .boolean
  | 2 => .int
  | 3 => .int
  | 4 => .int
  | 5 => .boolean
  | _ => .boolean
abbrev wsX30 : List Cond := u_ws RX3 TX3 7
theorem nmX3 : ∀ a, a < 7 → ∀ b, b < 7 → a ≠ b → (TX3 a).2.1 ≠ (TX3 b).2.1 := by decide +kernel
theorem tyX3_ok : ∀ k, k < 7 → parseFieldDescriptor (TX3 k).2.2.1 = some (tyX3 k) := by decide +kernel
abbrev cX3_init : ByteArray := prog_5_method_1_code
def yX3_init : MethodName := ⟨RX3, "<init>", "()V"⟩
abbrev cX3_start : ByteArray := prog_5_method_2_code
def yX3_start : MethodName := ⟨RX3, "start", "()V"⟩
abbrev cX3_accepts : ByteArray := prog_5_method_3_code
def yX3_accepts : MethodName := ⟨RX3, "accepts", "(I)Z"⟩
abbrev cX3_finish : ByteArray := prog_5_method_4_code
def yX3_finish : MethodName := ⟨RX3, "finish", "()Z"⟩
abbrev cX3_acceptsKind : ByteArray := prog_5_method_5_code
def yX3_acceptsKind : MethodName := ⟨RX3, "acceptsKind", "(I)Z"⟩
abbrev cX3_acceptsSound : ByteArray := prog_5_method_6_code
def yX3_acceptsSound : MethodName := ⟨RX3, "acceptsSound", "(I)Z"⟩
abbrev cX3_endsWord : ByteArray := prog_5_method_7_code
def yX3_endsWord : MethodName := ⟨RX3, "endsWord", "()Z"⟩
abbrev cX3_endsSet : ByteArray := prog_5_method_8_code
def yX3_endsSet : MethodName := ⟨RX3, "endsSet", "()Z"⟩
abbrev cX3_wordIsWhole : ByteArray := prog_5_method_9_code
def yX3_wordIsWhole : MethodName := ⟨RX3, "wordIsWhole", "()Z"⟩
abbrev cX3_setIsWhole : ByteArray := prog_5_method_10_code
def yX3_setIsWhole : MethodName := ⟨RX3, "setIsWhole", "()Z"⟩
abbrev cX3_openWord : ByteArray := prog_5_method_11_code
def yX3_openWord : MethodName := ⟨RX3, "openWord", "()V"⟩
abbrev cX3_closeWord : ByteArray := prog_5_method_12_code
def yX3_closeWord : MethodName := ⟨RX3, "closeWord", "()V"⟩
def RX4 : String := "SoundLaws$Sightings"
def TX4 : u_T := fun k => match k with
  | 0 => ("SoundLaws$Sightings", "size", "I", false)
  | 1 => ("SoundLaws$Sightings", "sets", "[I", true)
  | 2 => ("SoundLaws$Sightings", "questions", "[I", true)
  | _ => ("SoundLaws$Sightings", "answers", "[Z", true)
def tyX4 : Nat → FieldType := fun k => match k with
  | 0 => .int
  | 1 => .array .int
  | 2 => .array .int
  | _ => .array .boolean
abbrev wsX40 : List Cond := u_ws RX4 TX4 4
theorem nmX4 : ∀ a, a < 4 → ∀ b, b < 4 → a ≠ b → (TX4 a).2.1 ≠ (TX4 b).2.1 := by decide +kernel
theorem tyX4_ok : ∀ k, k < 4 → parseFieldDescriptor (TX4 k).2.2.1 = some (tyX4 k) := by decide +kernel
abbrev cX4_init : ByteArray := prog_6_method_1_code
def yX4_init : MethodName := ⟨RX4, "<init>", "()V"⟩
abbrev cX4_clear : ByteArray := prog_6_method_2_code
def yX4_clear : MethodName := ⟨RX4, "clear", "()V"⟩
abbrev cX4_add : ByteArray := prog_6_method_3_code
def yX4_add : MethodName := ⟨RX4, "add", "(IIZ)V"⟩
abbrev cX4_become : ByteArray := prog_6_method_4_code
def yX4_become : MethodName := ⟨RX4, "become", "(LSoundLaws$Sightings;)V"⟩
abbrev cX4_loseSet : ByteArray := prog_6_method_5_code
def yX4_loseSet : MethodName := ⟨RX4, "loseSet", "(I)V"⟩
abbrev cX4_sortsOf : ByteArray := prog_6_method_6_code
def yX4_sortsOf : MethodName := ⟨RX4, "sortsOf", "(I)I"⟩
abbrev cX4_questionFor : ByteArray := prog_6_method_7_code
def yX4_questionFor : MethodName := ⟨RX4, "questionFor", "(I)I"⟩
abbrev cX4_sortsThatCould : ByteArray := prog_6_method_8_code
def yX4_sortsThatCould : MethodName := ⟨RX4, "sortsThatCould", "(I)I"⟩
abbrev cX4_could : ByteArray := prog_6_method_9_code
def yX4_could : MethodName := ⟨RX4, "could", "(II)Z"⟩
def RX5 : String := "SoundLaws$Stock"
def TX5 : u_T := fun k => match k with
  | 0 => ("SoundLaws$Stock", "size", "I", false)
  | 1 => ("SoundLaws$Stock", "tongues", "I", false)
  | 2 => ("SoundLaws$Stock", "kinds", "[I", true)
  | 3 => ("SoundLaws$Stock", "lengths", "[I", true)
  | _ => ("SoundLaws$Stock", "words", "[I", true)
def tyX5 : Nat → FieldType := fun k => match k with
  | 0 => .int
  | 1 => .int
  | 2 => .array .int
  | 3 => .array .int
  | _ => .array .int
abbrev wsX50 : List Cond := u_ws RX5 TX5 5
theorem nmX5 : ∀ a, a < 5 → ∀ b, b < 5 → a ≠ b → (TX5 a).2.1 ≠ (TX5 b).2.1 := by decide +kernel
theorem tyX5_ok : ∀ k, k < 5 → parseFieldDescriptor (TX5 k).2.2.1 = some (tyX5 k) := by decide +kernel
abbrev cX5_init : ByteArray := prog_7_method_1_code
def yX5_init : MethodName := ⟨RX5, "<init>", "()V"⟩
abbrev cX5_become : ByteArray := prog_7_method_2_code
def yX5_become : MethodName := ⟨RX5, "become", "(LSoundLaws$Stock;)V"⟩
abbrev cX5_putOver : ByteArray := prog_7_method_3_code
def yX5_putOver : MethodName := ⟨RX5, "putOver", "(II)V"⟩
abbrev cX5_remove : ByteArray := prog_7_method_4_code
def yX5_remove : MethodName := ⟨RX5, "remove", "(I)V"⟩
abbrev cX5_exchange : ByteArray := prog_7_method_5_code
def yX5_exchange : MethodName := ⟨RX5, "exchange", "(II)V"⟩
abbrev cX5_isSilentBut : ByteArray := prog_7_method_6_code
def yX5_isSilentBut : MethodName := ⟨RX5, "isSilentBut", "(III)Z"⟩
def RX6 : String := "SoundLaws$Study"
def TX6 : u_T := fun k => match k with
  | 0 => ("SoundLaws$Study", "sounds", "[I", true)
  | 1 => ("SoundLaws$Study", "changes", "[I", true)
  | 2 => ("SoundLaws$Study", "strangePlaces", "[I", true)
  | 3 => ("SoundLaws$Study", "laws", "LSoundLaws$Laws;", true)
  | 4 => ("SoundLaws$Study", "changesOfAll", "I", false)
  | _ => ("SoundLaws$Study", "tree", "LSoundLaws$Tree;", true)
def tyX6 : Nat → FieldType := fun k => match k with
  | 0 => .array .int
  | 1 => .array .int
  | 2 => .array .int
  | 3 => .object "SoundLaws$Laws"
  | 4 => .int
  | _ => .object "SoundLaws$Tree"
abbrev wsX60 : List Cond := u_ws RX6 TX6 6
theorem nmX6 : ∀ a, a < 6 → ∀ b, b < 6 → a ≠ b → (TX6 a).2.1 ≠ (TX6 b).2.1 := by decide +kernel
theorem tyX6_ok : ∀ k, k < 6 → parseFieldDescriptor (TX6 k).2.2.1 = some (tyX6 k) := by decide +kernel
abbrev cX6_init : ByteArray := prog_8_method_1_code
def yX6_init : MethodName := ⟨RX6, "<init>", "()V"⟩
abbrev cX6_renew : ByteArray := prog_8_method_2_code
def yX6_renew : MethodName := ⟨RX6, "renew", "(LSoundLaws$Stock;)V"⟩
abbrev cX6_oldSound : ByteArray := prog_8_method_3_code
def yX6_oldSound : MethodName := ⟨RX6, "oldSound", "(LSoundLaws$Stock;II)I"⟩
abbrev cX6_strangeInSet : ByteArray := prog_8_method_4_code
def yX6_strangeInSet : MethodName := ⟨RX6, "strangeInSet", "(I)I"⟩
abbrev cX6_borrowedTongues : ByteArray := prog_8_method_5_code
def yX6_borrowedTongues : MethodName := ⟨RX6, "borrowedTongues", "(LSoundLaws$Stock;I)I"⟩
abbrev cX6_borrowedWords : ByteArray := prog_8_method_6_code
def yX6_borrowedWords : MethodName := ⟨RX6, "borrowedWords", "(LSoundLaws$Stock;)I"⟩
abbrev cX6_rebuild : ByteArray := prog_8_method_7_code
def yX6_rebuild : MethodName := ⟨RX6, "rebuild", "(LSoundLaws$Stock;I)V"⟩
abbrev cX6_weigh : ByteArray := prog_8_method_8_code
def yX6_weigh : MethodName := ⟨RX6, "weigh", "(LSoundLaws$Stock;I)V"⟩
abbrev cX6_findStrange : ByteArray := prog_8_method_9_code
def yX6_findStrange : MethodName := ⟨RX6, "findStrange", "(LSoundLaws$Stock;I)V"⟩
def RX7 : String := "SoundLaws$Tree"
def TX7 : u_T := fun k => match k with
  | 0 => ("SoundLaws$Tree", "tongues", "I", false)
  | 1 => ("SoundLaws$Tree", "sounds", "[I", true)
  | _ => ("SoundLaws$Tree", "least", "[I", true)
def tyX7 : Nat → FieldType := fun k => match k with
  | 0 => .int
  | 1 => .array .int
  | _ => .array .int
abbrev wsX70 : List Cond := u_ws RX7 TX7 3
theorem nmX7 : ∀ a, a < 3 → ∀ b, b < 3 → a ≠ b → (TX7 a).2.1 ≠ (TX7 b).2.1 := by decide +kernel
theorem tyX7_ok : ∀ k, k < 3 → parseFieldDescriptor (TX7 k).2.2.1 = some (tyX7 k) := by decide +kernel
abbrev cX7_init : ByteArray := prog_9_method_1_code
def yX7_init : MethodName := ⟨RX7, "<init>", "()V"⟩
abbrev cX7_plant : ByteArray := prog_9_method_2_code
def yX7_plant : MethodName := ⟨RX7, "plant", "(I)V"⟩
abbrev cX7_root : ByteArray := prog_9_method_3_code
def yX7_root : MethodName := ⟨RX7, "root", "()I"⟩
abbrev cX7_climb : ByteArray := prog_9_method_4_code
def yX7_climb : MethodName := ⟨RX7, "climb", "()I"⟩
abbrev cX7_descend : ByteArray := prog_9_method_5_code
def yX7_descend : MethodName := ⟨RX7, "descend", "()V"⟩
abbrev cX7_pairOf : ByteArray := prog_9_method_6_code
def yX7_pairOf : MethodName := ⟨RX7, "pairOf", "(I)I"⟩
abbrev cX7_leastBelow : ByteArray := prog_9_method_7_code
def yX7_leastBelow : MethodName := ⟨RX7, "leastBelow", "(II)I"⟩
abbrev cX7_settle : ByteArray := prog_9_method_8_code
def yX7_settle : MethodName := ⟨RX7, "settle", "(II)V"⟩
def RX8 : String := "SoundLaws"
def TX8 : u_T := fun k => match k with
  | 0 => ("SoundLaws", "page", "[I", true)
  | 1 => ("SoundLaws", "letters", "I", false)
  | 2 => ("SoundLaws", "reader", "LSoundLaws$Reader;", true)
  | 3 => ("SoundLaws", "readings", "I", false)
  | 4 => ("SoundLaws", "stock", "LSoundLaws$Stock;", true)
  | 5 => ("SoundLaws", "sightings", "LSoundLaws$Sightings;", true)
  | 6 => ("SoundLaws", "study", "LSoundLaws$Study;", true)
  | 7 => ("SoundLaws", "studied", "Z", false)
  | 8 => ("SoundLaws", "keptStock", "LSoundLaws$Stock;", true)
  | 9 => ("SoundLaws", "keptSightings", "LSoundLaws$Sightings;", true)
  | 10 => ("SoundLaws", "kept", "Z", false)
  | 11 => ("SoundLaws", "aligner", "LSoundLaws$Aligner;", true)
  | _ => ("SoundLaws", "draws", "LSoundLaws$Draws;", true)
def tyX8 : Nat → FieldType := fun k => match k with
  | 0 => .array .int
  | 1 => .int
  | 2 => .object "SoundLaws$Reader"
  | 3 => .int
  | 4 => .object "SoundLaws$Stock"
  | 5 => .object "SoundLaws$Sightings"
  | 6 => .object "SoundLaws$Study"
  | 7 => .boolean
  | 8 => .object "SoundLaws$Stock"
  | 9 => .object "SoundLaws$Sightings"
  | 10 => .boolean
  | 11 => .object "SoundLaws$Aligner"
  | _ => .object "SoundLaws$Draws"
abbrev wsX80 : List Cond := u_ws RX8 TX8 13
theorem nmX8 : ∀ a, a < 13 → ∀ b, b < 13 → a ≠ b → (TX8 a).2.1 ≠ (TX8 b).2.1 := by decide +kernel
theorem tyX8_ok : ∀ k, k < 13 → parseFieldDescriptor (TX8 k).2.2.1 = some (tyX8 k) := by decide +kernel
abbrev cX8_init : ByteArray := prog_1_method_1_code
def yX8_init : MethodName := ⟨RX8, "<init>", "()V"⟩
abbrev cX8_letter : ByteArray := prog_1_method_2_code
def yX8_letter : MethodName := ⟨RX8, "letter", "(I)I"⟩
abbrev cX8_blank : ByteArray := prog_1_method_3_code
def yX8_blank : MethodName := ⟨RX8, "blank", "()I"⟩
abbrev cX8_fault : ByteArray := prog_1_method_4_code
def yX8_fault : MethodName := ⟨RX8, "fault", "()I"⟩
abbrev cX8_sets : ByteArray := prog_1_method_5_code
def yX8_sets : MethodName := ⟨RX8, "sets", "()I"⟩
abbrev cX8_set : ByteArray := prog_1_method_6_code
def yX8_set : MethodName := ⟨RX8, "set", "(II)I"⟩
abbrev cX8_as : ByteArray := prog_1_method_7_code
def yX8_as : MethodName := ⟨RX8, "as", "(II)I"⟩
abbrev cX8_sound : ByteArray := prog_1_method_8_code
def yX8_sound : MethodName := ⟨RX8, "sound", "(III)I"⟩
abbrev cX8_law : ByteArray := prog_1_method_9_code
def yX8_law : MethodName := ⟨RX8, "law", "(IIII)I"⟩
abbrev cX8_strange : ByteArray := prog_1_method_10_code
def yX8_strange : MethodName := ⟨RX8, "strange", "(II)I"⟩
abbrev cX8_say : ByteArray := prog_1_method_11_code
def yX8_say : MethodName := ⟨RX8, "say", "(III)I"⟩
abbrev cX8_line : ByteArray := prog_1_method_12_code
def yX8_line : MethodName := ⟨RX8, "line", "(IIII)I"⟩
abbrev cX8_cost : ByteArray := prog_1_method_13_code
def yX8_cost : MethodName := ⟨RX8, "cost", "(II)I"⟩
abbrev cX8_put : ByteArray := prog_1_method_14_code
def yX8_put : MethodName := ⟨RX8, "put", "(IIII)I"⟩
abbrev cX8_copy : ByteArray := prog_1_method_15_code
def yX8_copy : MethodName := ⟨RX8, "copy", "(I)I"⟩
abbrev cX8_take : ByteArray := prog_1_method_16_code
def yX8_take : MethodName := ⟨RX8, "take", "(I)I"⟩
abbrev cX8_change : ByteArray := prog_1_method_17_code
def yX8_change : MethodName := ⟨RX8, "change", "(II)I"⟩
abbrev cX8_swap : ByteArray := prog_1_method_18_code
def yX8_swap : MethodName := ⟨RX8, "swap", "(II)I"⟩
abbrev cX8_see : ByteArray := prog_1_method_19_code
def yX8_see : MethodName := ⟨RX8, "see", "(IIZ)I"⟩
abbrev cX8_forget : ByteArray := prog_1_method_20_code
def yX8_forget : MethodName := ⟨RX8, "forget", "()I"⟩
abbrev cX8_drawn : ByteArray := prog_1_method_21_code
def yX8_drawn : MethodName := ⟨RX8, "drawn", "(III)I"⟩
abbrev cX8_image : ByteArray := prog_1_method_22_code
def yX8_image : MethodName := ⟨RX8, "image", "()I"⟩
abbrev cX8_restore : ByteArray := prog_1_method_23_code
def yX8_restore : MethodName := ⟨RX8, "restore", "()I"⟩
abbrev cX8_count : ByteArray := prog_1_method_24_code
def yX8_count : MethodName := ⟨RX8, "count", "(I)I"⟩
abbrev cX8_digest : ByteArray := prog_1_method_25_code
def yX8_digest : MethodName := ⟨RX8, "digest", "()J"⟩
abbrev cX8_digestSet : ByteArray := prog_1_method_26_code
def yX8_digestSet : MethodName := ⟨RX8, "digestSet", "(JI)J"⟩
abbrev cX8_digestLaws : ByteArray := prog_1_method_27_code
def yX8_digestLaws : MethodName := ⟨RX8, "digestLaws", "(JI)J"⟩
abbrev cX8_mixed : ByteArray := prog_1_method_28_code
def yX8_mixed : MethodName := ⟨RX8, "mixed", "(JI)J"⟩
abbrev cX8_readPage : ByteArray := prog_1_method_29_code
def yX8_readPage : MethodName := ⟨RX8, "readPage", "()I"⟩
abbrev cX8_freshenStudy : ByteArray := prog_1_method_30_code
def yX8_freshenStudy : MethodName := ⟨RX8, "freshenStudy", "()V"⟩
abbrev cX8_tellOfSet : ByteArray := prog_1_method_31_code
def yX8_tellOfSet : MethodName := ⟨RX8, "tellOfSet", "(II)I"⟩
abbrev cX8_tellOfNode : ByteArray := prog_1_method_32_code
def yX8_tellOfNode : MethodName := ⟨RX8, "tellOfNode", "(III)I"⟩
abbrev cX8_tellOfAll : ByteArray := prog_1_method_33_code
def yX8_tellOfAll : MethodName := ⟨RX8, "tellOfAll", "(I)I"⟩
abbrev cX8_isSet : ByteArray := prog_1_method_34_code
def yX8_isSet : MethodName := ⟨RX8, "isSet", "(I)Z"⟩
abbrev cX8_isTongue : ByteArray := prog_1_method_35_code
def yX8_isTongue : MethodName := ⟨RX8, "isTongue", "(I)Z"⟩
abbrev cX8_isNode : ByteArray := prog_1_method_36_code
def yX8_isNode : MethodName := ⟨RX8, "isNode", "(I)Z"⟩
abbrev cX8_isPlace : ByteArray := prog_1_method_37_code
def yX8_isPlace : MethodName := ⟨RX8, "isPlace", "(II)Z"⟩
abbrev cX8_isSound : ByteArray := prog_1_method_38_code
def yX8_isSound : MethodName := ⟨RX8, "isSound", "(I)Z"⟩
abbrev cX8_isKind : ByteArray := prog_1_method_39_code
def yX8_isKind : MethodName := ⟨RX8, "isKind", "(I)Z"⟩
abbrev cX8_isOfKind : ByteArray := prog_1_method_40_code
def yX8_isOfKind : MethodName := ⟨RX8, "isOfKind", "(II)Z"⟩
abbrev cX8_costOf : ByteArray := prog_1_method_41_code
def yX8_costOf : MethodName := ⟨RX8, "costOf", "(II)I"⟩
abbrev cX8_nodesOf : ByteArray := prog_1_method_42_code
def yX8_nodesOf : MethodName := ⟨RX8, "nodesOf", "(I)I"⟩
abbrev cX8_aheadAt : ByteArray := prog_1_method_43_code
def yX8_aheadAt : MethodName := ⟨RX8, "aheadAt", "(I)I"⟩
abbrev cX8_wordAt : ByteArray := prog_1_method_44_code
def yX8_wordAt : MethodName := ⟨RX8, "wordAt", "(II)I"⟩
abbrev cX8_nodesAt : ByteArray := prog_1_method_45_code
def yX8_nodesAt : MethodName := ⟨RX8, "nodesAt", "(II)I"⟩
abbrev cX8_lawAt : ByteArray := prog_1_method_46_code
def yX8_lawAt : MethodName := ⟨RX8, "lawAt", "(III)I"⟩
def RX9 : String := "SoundLawsModel"
def TX9 : u_T := fun k => match k with
  | 0 => ("SoundLawsModel", "page", "[I", true)
  | 1 => ("SoundLawsModel", "pageMany", "I", false)
  | 2 => ("SoundLawsModel", "readSets", "I", false)
  | 3 => ("SoundLawsModel", "readWords", "I", false)
  | 4 => ("SoundLawsModel", "readHere", "I", false)
  | 5 => ("SoundLawsModel", "readLong", "I", false)
  | 6 => ("SoundLawsModel", "readTongues", "I", false)
  | 7 => ("SoundLawsModel", "readKinds", "[I", true)
  | 8 => ("SoundLawsModel", "readLongs", "[I", true)
  | 9 => ("SoundLawsModel", "readSounds", "[I", true)
  | 10 => ("SoundLawsModel", "sets", "I", false)
  | 11 => ("SoundLawsModel", "tongues", "I", false)
  | 12 => ("SoundLawsModel", "setsRead", "I", false)
  | 13 => ("SoundLawsModel", "kinds", "[I", true)
  | 14 => ("SoundLawsModel", "longs", "[I", true)
  | 15 => ("SoundLawsModel", "words", "[I", true)
  | 16 => ("SoundLawsModel", "old", "Z", false)
  | 17 => ("SoundLawsModel", "costs", "[I", true)
  | 18 => ("SoundLawsModel", "had", "[I", true)
  | 19 => ("SoundLawsModel", "said", "[I", true)
  | 20 => ("SoundLawsModel", "rebuilt", "[I", true)
  | 21 => ("SoundLawsModel", "changes", "[I", true)
  | 22 => ("SoundLawsModel", "laws", "[I", true)
  | 23 => ("SoundLawsModel", "follows", "[I", true)
  | 24 => ("SoundLawsModel", "exceptions", "[I", true)
  | 25 => ("SoundLawsModel", "tally", "[I", true)
  | 26 => ("SoundLawsModel", "one", "[I", true)
  | 27 => ("SoundLawsModel", "other", "[I", true)
  | 28 => ("SoundLawsModel", "lines", "[I", true)
  | 29 => ("SoundLawsModel", "seenMany", "I", false)
  | 30 => ("SoundLawsModel", "sights", "[I", true)
  | 31 => ("SoundLawsModel", "seedNow", "I", false)
  | 32 => ("SoundLawsModel", "keptSets", "I", false)
  | 33 => ("SoundLawsModel", "keptMany", "I", false)
  | 34 => ("SoundLawsModel", "keptTongues", "I", false)
  | 35 => ("SoundLawsModel", "keptSeen", "I", false)
  | 36 => ("SoundLawsModel", "keptKinds", "[I", true)
  | 37 => ("SoundLawsModel", "keptLongs", "[I", true)
  | 38 => ("SoundLawsModel", "keptWords", "[I", true)
  | 39 => ("SoundLawsModel", "keptSights", "[I", true)
  | _ => ("SoundLawsModel", "hash", "J", false)
def tyX9 : Nat → FieldType := fun k => match k with
  | 0 => .array .int
  | 1 => .int
  | 2 => .int
  | 3 => .int
  | 4 => .int
  | 5 => .int
  | 6 => .int
  | 7 => .array .int
  | 8 => .array .int
  | 9 => .array .int
  | 10 => .int
  | 11 => .int
  | 12 => .int
  | 13 => .array .int
  | 14 => .array .int
  | 15 => .array .int
  | 16 => .boolean
  | 17 => .array .int
  | 18 => .array .int
  | 19 => .array .int
  | 20 => .array .int
  | 21 => .array .int
  | 22 => .array .int
  | 23 => .array .int
  | 24 => .array .int
  | 25 => .array .int
  | 26 => .array .int
  | 27 => .array .int
  | 28 => .array .int
  | 29 => .int
  | 30 => .array .int
  | 31 => .int
  | 32 => .int
  | 33 => .int
  | 34 => .int
  | 35 => .int
  | 36 => .array .int
  | 37 => .array .int
  | 38 => .array .int
  | 39 => .array .int
  | _ => .long
abbrev wsX90 : List Cond := u_ws RX9 TX9 41
theorem nmX9 : ∀ a, a < 41 → ∀ b, b < 41 → a ≠ b → (TX9 a).2.1 ≠ (TX9 b).2.1 := by decide +kernel
theorem tyX9_ok : ∀ k, k < 41 → parseFieldDescriptor (TX9 k).2.2.1 = some (tyX9 k) := by decide +kernel
abbrev cX9_init : ByteArray := prog_11_method_1_code
def yX9_init : MethodName := ⟨RX9, "<init>", "()V"⟩
abbrev cX9_in : ByteArray := prog_11_method_2_code
def yX9_in : MethodName := ⟨RX9, "in", "(JJJ)Z"⟩
abbrev cX9_copyRow : ByteArray := prog_11_method_3_code
def yX9_copyRow : MethodName := ⟨RX9, "copyRow", "([I[I)V"⟩
abbrev cX9_letter : ByteArray := prog_11_method_4_code
def yX9_letter : MethodName := ⟨RX9, "letter", "(I)I"⟩
abbrev cX9_blank : ByteArray := prog_11_method_5_code
def yX9_blank : MethodName := ⟨RX9, "blank", "()I"⟩
abbrev cX9_kindBy : ByteArray := prog_11_method_6_code
def yX9_kindBy : MethodName := ⟨RX9, "kindBy", "(I)I"⟩
abbrev cX9_soundBy : ByteArray := prog_11_method_7_code
def yX9_soundBy : MethodName := ⟨RX9, "soundBy", "(I)I"⟩
abbrev cX9_isWordWhole : ByteArray := prog_11_method_8_code
def yX9_isWordWhole : MethodName := ⟨RX9, "isWordWhole", "()Z"⟩
abbrev cX9_isSetWhole : ByteArray := prog_11_method_9_code
def yX9_isSetWhole : MethodName := ⟨RX9, "isSetWhole", "()Z"⟩
abbrev cX9_isBegun : ByteArray := prog_11_method_10_code
def yX9_isBegun : MethodName := ⟨RX9, "isBegun", "(I)Z"⟩
abbrev cX9_isSlash : ByteArray := prog_11_method_11_code
def yX9_isSlash : MethodName := ⟨RX9, "isSlash", "()Z"⟩
abbrev cX9_isComma : ByteArray := prog_11_method_12_code
def yX9_isComma : MethodName := ⟨RX9, "isComma", "()Z"⟩
abbrev cX9_isSound : ByteArray := prog_11_method_13_code
def yX9_isSound : MethodName := ⟨RX9, "isSound", "(I)Z"⟩
abbrev cX9_isGood : ByteArray := prog_11_method_14_code
def yX9_isGood : MethodName := ⟨RX9, "isGood", "(I)Z"⟩
abbrev cX9_faultOf : ByteArray := prog_11_method_15_code
def yX9_faultOf : MethodName := ⟨RX9, "faultOf", "()I"⟩
abbrev cX9_fault : ByteArray := prog_11_method_16_code
def yX9_fault : MethodName := ⟨RX9, "fault", "()I"⟩
abbrev cX9_isMute : ByteArray := prog_11_method_17_code
def yX9_isMute : MethodName := ⟨RX9, "isMute", "()Z"⟩
abbrev cX9_sets : ByteArray := prog_11_method_18_code
def yX9_sets : MethodName := ⟨RX9, "sets", "()I"⟩
abbrev cX9_lacks : ByteArray := prog_11_method_19_code
def yX9_lacks : MethodName := ⟨RX9, "lacks", "()Z"⟩
abbrev cX9_isSet : ByteArray := prog_11_method_20_code
def yX9_isSet : MethodName := ⟨RX9, "isSet", "(I)Z"⟩
abbrev cX9_isTongue : ByteArray := prog_11_method_21_code
def yX9_isTongue : MethodName := ⟨RX9, "isTongue", "(I)Z"⟩
abbrev cX9_isPlace : ByteArray := prog_11_method_22_code
def yX9_isPlace : MethodName := ⟨RX9, "isPlace", "(II)Z"⟩
abbrev cX9_isVowel : ByteArray := prog_11_method_23_code
def yX9_isVowel : MethodName := ⟨RX9, "isVowel", "(I)Z"⟩
abbrev cX9_costOf : ByteArray := prog_11_method_24_code
def yX9_costOf : MethodName := ⟨RX9, "costOf", "(II)I"⟩
abbrev cX9_cost : ByteArray := prog_11_method_25_code
def yX9_cost : MethodName := ⟨RX9, "cost", "(II)I"⟩
abbrev cX9_nodesBy : ByteArray := prog_11_method_26_code
def yX9_nodesBy : MethodName := ⟨RX9, "nodesBy", "(I)I"⟩
abbrev cX9_belowFirst : ByteArray := prog_11_method_27_code
def yX9_belowFirst : MethodName := ⟨RX9, "belowFirst", "(II)I"⟩
abbrev cX9_belowSecond : ByteArray := prog_11_method_28_code
def yX9_belowSecond : MethodName := ⟨RX9, "belowSecond", "(II)I"⟩
abbrev cX9_least : ByteArray := prog_11_method_29_code
def yX9_least : MethodName := ⟨RX9, "least", "(II)I"⟩
abbrev cX9_layCosts : ByteArray := prog_11_method_30_code
def yX9_layCosts : MethodName := ⟨RX9, "layCosts", "(I)V"⟩
abbrev cX9_leastSound : ByteArray := prog_11_method_31_code
def yX9_leastSound : MethodName := ⟨RX9, "leastSound", "(II)I"⟩
abbrev cX9_rebuild : ByteArray := prog_11_method_32_code
def yX9_rebuild : MethodName := ⟨RX9, "rebuild", "(I)I"⟩
abbrev cX9_isRebuilt : ByteArray := prog_11_method_33_code
def yX9_isRebuilt : MethodName := ⟨RX9, "isRebuilt", "(I)Z"⟩
abbrev cX9_weightBy : ByteArray := prog_11_method_34_code
def yX9_weightBy : MethodName := ⟨RX9, "weightBy", "(I)I"⟩
abbrev cX9_oldSound : ByteArray := prog_11_method_35_code
def yX9_oldSound : MethodName := ⟨RX9, "oldSound", "(II)I"⟩
abbrev cX9_laySets : ByteArray := prog_11_method_36_code
def yX9_laySets : MethodName := ⟨RX9, "laySets", "()V"⟩
abbrev cX9_layTally : ByteArray := prog_11_method_37_code
def yX9_layTally : MethodName := ⟨RX9, "layTally", "(III)V"⟩
abbrev cX9_layLaw : ByteArray := prog_11_method_38_code
def yX9_layLaw : MethodName := ⟨RX9, "layLaw", "(III)V"⟩
abbrev cX9_freshen : ByteArray := prog_11_method_39_code
def yX9_freshen : MethodName := ⟨RX9, "freshen", "()V"⟩
abbrev cX9_law : ByteArray := prog_11_method_40_code
def yX9_law : MethodName := ⟨RX9, "law", "(IIII)I"⟩
abbrev cX9_lawAt : ByteArray := prog_11_method_41_code
def yX9_lawAt : MethodName := ⟨RX9, "lawAt", "(III)I"⟩
abbrev cX9_strangeOf : ByteArray := prog_11_method_42_code
def yX9_strangeOf : MethodName := ⟨RX9, "strangeOf", "(II)I"⟩
abbrev cX9_strange : ByteArray := prog_11_method_43_code
def yX9_strange : MethodName := ⟨RX9, "strange", "(II)I"⟩
abbrev cX9_say : ByteArray := prog_11_method_44_code
def yX9_say : MethodName := ⟨RX9, "say", "(III)I"⟩
abbrev cX9_isBorrowed : ByteArray := prog_11_method_45_code
def yX9_isBorrowed : MethodName := ⟨RX9, "isBorrowed", "(II)Z"⟩
abbrev cX9_strangeAll : ByteArray := prog_11_method_46_code
def yX9_strangeAll : MethodName := ⟨RX9, "strangeAll", "(I)I"⟩
abbrev cX9_borrowed : ByteArray := prog_11_method_47_code
def yX9_borrowed : MethodName := ⟨RX9, "borrowed", "(I)I"⟩
abbrev cX9_strip : ByteArray := prog_11_method_48_code
def yX9_strip : MethodName := ⟨RX9, "strip", "(II[I)I"⟩
abbrev cX9_line : ByteArray := prog_11_method_49_code
def yX9_line : MethodName := ⟨RX9, "line", "(IIII)I"⟩
abbrev cX9_tellSet : ByteArray := prog_11_method_50_code
def yX9_tellSet : MethodName := ⟨RX9, "tellSet", "(II)I"⟩
abbrev cX9_set : ByteArray := prog_11_method_51_code
def yX9_set : MethodName := ⟨RX9, "set", "(II)I"⟩
abbrev cX9_as : ByteArray := prog_11_method_52_code
def yX9_as : MethodName := ⟨RX9, "as", "(II)I"⟩
abbrev cX9_sound : ByteArray := prog_11_method_53_code
def yX9_sound : MethodName := ⟨RX9, "sound", "(III)I"⟩
abbrev cX9_isOnlyNone : ByteArray := prog_11_method_54_code
def yX9_isOnlyNone : MethodName := ⟨RX9, "isOnlyNone", "(II)Z"⟩
abbrev cX9_put : ByteArray := prog_11_method_55_code
def yX9_put : MethodName := ⟨RX9, "put", "(IIII)I"⟩
abbrev cX9_layLike : ByteArray := prog_11_method_56_code
def yX9_layLike : MethodName := ⟨RX9, "layLike", "(II)V"⟩
abbrev cX9_copy : ByteArray := prog_11_method_57_code
def yX9_copy : MethodName := ⟨RX9, "copy", "(I)I"⟩
abbrev cX9_take : ByteArray := prog_11_method_58_code
def yX9_take : MethodName := ⟨RX9, "take", "(I)I"⟩
abbrev cX9_change : ByteArray := prog_11_method_59_code
def yX9_change : MethodName := ⟨RX9, "change", "(II)I"⟩
abbrev cX9_changesAll : ByteArray := prog_11_method_60_code
def yX9_changesAll : MethodName := ⟨RX9, "changesAll", "()I"⟩
abbrev cX9_swap : ByteArray := prog_11_method_61_code
def yX9_swap : MethodName := ⟨RX9, "swap", "(II)I"⟩
abbrev cX9_see : ByteArray := prog_11_method_62_code
def yX9_see : MethodName := ⟨RX9, "see", "(IIZ)I"⟩
abbrev cX9_forget : ByteArray := prog_11_method_63_code
def yX9_forget : MethodName := ⟨RX9, "forget", "()I"⟩
abbrev cX9_sortsBy : ByteArray := prog_11_method_64_code
def yX9_sortsBy : MethodName := ⟨RX9, "sortsBy", "(I)I"⟩
abbrev cX9_sortsOf : ByteArray := prog_11_method_65_code
def yX9_sortsOf : MethodName := ⟨RX9, "sortsOf", "(I)I"⟩
abbrev cX9_ones : ByteArray := prog_11_method_66_code
def yX9_ones : MethodName := ⟨RX9, "ones", "(I)I"⟩
abbrev cX9_askOf : ByteArray := prog_11_method_67_code
def yX9_askOf : MethodName := ⟨RX9, "askOf", "(I)I"⟩
abbrev cX9_draw : ByteArray := prog_11_method_68_code
def yX9_draw : MethodName := ⟨RX9, "draw", "(I)I"⟩
abbrev cX9_drawn : ByteArray := prog_11_method_69_code
def yX9_drawn : MethodName := ⟨RX9, "drawn", "(III)I"⟩
abbrev cX9_image : ByteArray := prog_11_method_70_code
def yX9_image : MethodName := ⟨RX9, "image", "()I"⟩
abbrev cX9_restore : ByteArray := prog_11_method_71_code
def yX9_restore : MethodName := ⟨RX9, "restore", "()I"⟩
abbrev cX9_sumLaws : ByteArray := prog_11_method_72_code
def yX9_sumLaws : MethodName := ⟨RX9, "sumLaws", "(Z)I"⟩
abbrev cX9_borrowedAll : ByteArray := prog_11_method_73_code
def yX9_borrowedAll : MethodName := ⟨RX9, "borrowedAll", "()I"⟩
abbrev cX9_countSets : ByteArray := prog_11_method_74_code
def yX9_countSets : MethodName := ⟨RX9, "countSets", "(I)I"⟩
abbrev cX9_countOf : ByteArray := prog_11_method_75_code
def yX9_countOf : MethodName := ⟨RX9, "countOf", "(I)I"⟩
abbrev cX9_count : ByteArray := prog_11_method_76_code
def yX9_count : MethodName := ⟨RX9, "count", "(I)I"⟩
abbrev cX9_note : ByteArray := prog_11_method_77_code
def yX9_note : MethodName := ⟨RX9, "note", "(J)V"⟩
abbrev cX9_saySet : ByteArray := prog_11_method_78_code
def yX9_saySet : MethodName := ⟨RX9, "saySet", "(I)V"⟩
abbrev cX9_digest : ByteArray := prog_11_method_79_code
def yX9_digest : MethodName := ⟨RX9, "digest", "()J"⟩
def RJx145de : String := "java/io/Serializable"
def TJx145de : u_T := fun k => match k with
  | _ => ("", "", "", false)
def tyJx145de : Nat → FieldType := fun k => match k with
  | _ => .int
abbrev wsJx145de0 : List Cond := u_ws RJx145de TJx145de 0
theorem nmJx145de : ∀ a, a < 0 → ∀ b, b < 0 → a ≠ b → (TJx145de a).2.1 ≠ (TJx145de b).2.1 := by decide +kernel
theorem tyJx145de_ok : ∀ k, k < 0 → parseFieldDescriptor (TJx145de k).2.2.1 = some (tyJx145de k) := by decide +kernel
def RJx9f9b0 : String := "java/lang/CharSequence"
def TJx9f9b0 : u_T := fun k => match k with
  | _ => ("", "", "", false)
def tyJx9f9b0 : Nat → FieldType := fun k => match k with
  | _ => .int
abbrev wsJx9f9b00 : List Cond := u_ws RJx9f9b0 TJx9f9b0 0
theorem nmJx9f9b0 : ∀ a, a < 0 → ∀ b, b < 0 → a ≠ b → (TJx9f9b0 a).2.1 ≠ (TJx9f9b0 b).2.1 := by decide +kernel
theorem tyJx9f9b0_ok : ∀ k, k < 0 → parseFieldDescriptor (TJx9f9b0 k).2.2.1 = some (tyJx9f9b0 k) := by decide +kernel
def RJ11 : String := "java/lang/Character"
def TJ11 : u_T := fun k => match k with
  | _ => ("", "", "", false)
def tyJ11 : Nat → FieldType := fun k => match k with
  | _ => .int
abbrev wsJ110 : List Cond := u_ws RJ11 TJ11 0
theorem nmJ11 : ∀ a, a < 0 → ∀ b, b < 0 → a ≠ b → (TJ11 a).2.1 ≠ (TJ11 b).2.1 := by decide +kernel
theorem tyJ11_ok : ∀ k, k < 0 → parseFieldDescriptor (TJ11 k).2.2.1 = some (tyJ11 k) := by decide +kernel
abbrev cJ11_isValidCodePoint_9a6ad : ByteArray := prog_12_method_11_code
def yJ11_isValidCodePoint_9a6ad : MethodName := ⟨RJ11, "isValidCodePoint", "(I)Z"⟩
abbrev cJ11_highSurrogate_5068e : ByteArray := prog_12_method_28_code
def yJ11_highSurrogate_5068e : MethodName := ⟨RJ11, "highSurrogate", "(I)C"⟩
abbrev cJ11_lowSurrogate_5068e : ByteArray := prog_12_method_29_code
def yJ11_lowSurrogate_5068e : MethodName := ⟨RJ11, "lowSurrogate", "(I)C"⟩
def RJxb160c : String := "java/lang/Comparable"
def TJxb160c : u_T := fun k => match k with
  | _ => ("", "", "", false)
def tyJxb160c : Nat → FieldType := fun k => match k with
  | _ => .int
abbrev wsJxb160c0 : List Cond := u_ws RJxb160c TJxb160c 0
theorem nmJxb160c : ∀ a, a < 0 → ∀ b, b < 0 → a ≠ b → (TJxb160c a).2.1 ≠ (TJxb160c b).2.1 := by decide +kernel
theorem tyJxb160c_ok : ∀ k, k < 0 → parseFieldDescriptor (TJxb160c k).2.2.1 = some (tyJxb160c k) := by decide +kernel
def RJ6 : String := "java/lang/Integer"
def TJ6 : u_T := fun k => match k with
  | _ => ("", "", "", false)
def tyJ6 : Nat → FieldType := fun k => match k with
  | _ => .int
abbrev wsJ60 : List Cond := u_ws RJ6 TJ6 0
theorem nmJ6 : ∀ a, a < 0 → ∀ b, b < 0 → a ≠ b → (TJ6 a).2.1 ≠ (TJ6 b).2.1 := by decide +kernel
theorem tyJ6_ok : ∀ k, k < 0 → parseFieldDescriptor (TJ6 k).2.2.1 = some (tyJ6 k) := by decide +kernel
abbrev cJ6_bitCount_0f7a4 : ByteArray := prog_13_method_49_code
def yJ6_bitCount_0f7a4 : MethodName := ⟨RJ6, "bitCount", "(I)I"⟩
def RJ9 : String := "java/lang/Math"
def TJ9 : u_T := fun k => match k with
  | _ => ("", "", "", false)
def tyJ9 : Nat → FieldType := fun k => match k with
  | _ => .int
abbrev wsJ90 : List Cond := u_ws RJ9 TJ9 0
theorem nmJ9 : ∀ a, a < 0 → ∀ b, b < 0 → a ≠ b → (TJ9 a).2.1 ≠ (TJ9 b).2.1 := by decide +kernel
theorem tyJ9_ok : ∀ k, k < 0 → parseFieldDescriptor (TJ9 k).2.2.1 = some (tyJ9 k) := by decide +kernel
abbrev cJ9_max_7cf53 : ByteArray := prog_14_method_65_code
def yJ9_max_7cf53 : MethodName := ⟨RJ9, "max", "(II)I"⟩
abbrev cJ9_min_7cf53 : ByteArray := prog_14_method_69_code
def yJ9_min_7cf53 : MethodName := ⟨RJ9, "min", "(II)I"⟩
def RJ0 : String := "java/lang/String"
def TJ0 : u_T := fun k => match k with
  | _ => ("", "", "", false)
def tyJ0 : Nat → FieldType := fun k => match k with
  | _ => .int
abbrev wsJ00 : List Cond := u_ws RJ0 TJ0 0
theorem nmJ0 : ∀ a, a < 0 → ∀ b, b < 0 → a ≠ b → (TJ0 a).2.1 ≠ (TJ0 b).2.1 := by decide +kernel
theorem tyJ0_ok : ∀ k, k < 0 → parseFieldDescriptor (TJ0 k).2.2.1 = some (tyJ0 k) := by decide +kernel
abbrev cJ0_length_8abf5 : ByteArray := prog_15_method_54_code
def yJ0_length_8abf5 : MethodName := ⟨RJ0, "length", "()I"⟩
abbrev cJ0_indexOf_0f7a4 : ByteArray := prog_15_method_79_code
def yJ0_indexOf_0f7a4 : MethodName := ⟨RJ0, "indexOf", "(I)I"⟩
abbrev cJ0_indexOf_7cf53 : ByteArray := prog_15_method_80_code
def yJ0_indexOf_7cf53 : MethodName := ⟨RJ0, "indexOf", "(II)I"⟩
abbrev cJ0_coder_7d493 : ByteArray := prog_15_method_152_code
def yJ0_coder_7d493 : MethodName := ⟨RJ0, "coder", "()B"⟩
abbrev cJ0_isLatin1_aae02 : ByteArray := prog_15_method_154_code
def yJ0_isLatin1_aae02 : MethodName := ⟨RJ0, "isLatin1", "()Z"⟩
abbrev cJ0_checkBoundsBeginEnd_23922 : ByteArray := prog_15_method_158_code
def yJ0_checkBoundsBeginEnd_23922 : MethodName := ⟨RJ0, "checkBoundsBeginEnd", "(III)V"⟩
def RJ1 : String := "java/lang/StringLatin1"
def TJ1 : u_T := fun k => match k with
  | _ => ("", "", "", false)
def tyJ1 : Nat → FieldType := fun k => match k with
  | _ => .int
abbrev wsJ10 : List Cond := u_ws RJ1 TJ1 0
theorem nmJ1 : ∀ a, a < 0 → ∀ b, b < 0 → a ≠ b → (TJ1 a).2.1 ≠ (TJ1 b).2.1 := by decide +kernel
theorem tyJ1_ok : ∀ k, k < 0 → parseFieldDescriptor (TJ1 k).2.2.1 = some (tyJ1 k) := by decide +kernel
abbrev cJ1_canEncode_9a6ad : ByteArray := prog_16_method_4_code
def yJ1_canEncode_9a6ad : MethodName := ⟨RJ1, "canEncode", "(I)Z"⟩
abbrev cJ1_indexOf_4cfef : ByteArray := prog_16_method_22_code
def yJ1_indexOf_4cfef : MethodName := ⟨RJ1, "indexOf", "([BIII)I"⟩
abbrev cJ1_indexOfChar_4cfef : ByteArray := prog_16_method_23_code
def yJ1_indexOfChar_4cfef : MethodName := ⟨RJ1, "indexOfChar", "([BIII)I"⟩
def RJ2 : String := "java/lang/StringUTF16"
def TJ2 : u_T := fun k => match k with
  | _ => ("", "", "", false)
def tyJ2 : Nat → FieldType := fun k => match k with
  | _ => .int
abbrev wsJ20 : List Cond := u_ws RJ2 TJ2 0
theorem nmJ2 : ∀ a, a < 0 → ∀ b, b < 0 → a ≠ b → (TJ2 a).2.1 ≠ (TJ2 b).2.1 := by decide +kernel
theorem tyJ2_ok : ∀ k, k < 0 → parseFieldDescriptor (TJ2 k).2.2.1 = some (tyJ2 k) := by decide +kernel
abbrev cJ2_getChar_3b067 : ByteArray := prog_17_method_5_code
def yJ2_getChar_3b067 : MethodName := ⟨RJ2, "getChar", "([BI)C"⟩
abbrev cJ2_length_9d52b : ByteArray := prog_17_method_6_code
def yJ2_length_9d52b : MethodName := ⟨RJ2, "length", "([B)I"⟩
abbrev cJ2_indexOf_4cfef : ByteArray := prog_17_method_40_code
def yJ2_indexOf_4cfef : MethodName := ⟨RJ2, "indexOf", "([BIII)I"⟩
abbrev cJ2_indexOfChar_4cfef : ByteArray := prog_17_method_47_code
def yJ2_indexOfChar_4cfef : MethodName := ⟨RJ2, "indexOfChar", "([BIII)I"⟩
abbrev cJ2_indexOfCharUnsafe_4cfef : ByteArray := prog_17_method_48_code
def yJ2_indexOfCharUnsafe_4cfef : MethodName := ⟨RJ2, "indexOfCharUnsafe", "([BIII)I"⟩
abbrev cJ2_indexOfSupplementary_4cfef : ByteArray := prog_17_method_49_code
def yJ2_indexOfSupplementary_4cfef : MethodName := ⟨RJ2, "indexOfSupplementary", "([BIII)I"⟩
abbrev cJ2_checkBoundsBeginEnd_d044e : ByteArray := prog_17_method_93_code
def yJ2_checkBoundsBeginEnd_d044e : MethodName := ⟨RJ2, "checkBoundsBeginEnd", "(II[B)V"⟩
def RJ10 : String := "java/lang/System"
def TJ10 : u_T := fun k => match k with
  | _ => ("", "", "", false)
def tyJ10 : Nat → FieldType := fun k => match k with
  | _ => .int
abbrev wsJ100 : List Cond := u_ws RJ10 TJ10 0
theorem nmJ10 : ∀ a, a < 0 → ∀ b, b < 0 → a ≠ b → (TJ10 a).2.1 ≠ (TJ10 b).2.1 := by decide +kernel
theorem tyJ10_ok : ∀ k, k < 0 → parseFieldDescriptor (TJ10 k).2.2.1 = some (tyJ10 k) := by decide +kernel
def RJxfd54e : String := "java/lang/constant/Constable"
def TJxfd54e : u_T := fun k => match k with
  | _ => ("", "", "", false)
def tyJxfd54e : Nat → FieldType := fun k => match k with
  | _ => .int
abbrev wsJxfd54e0 : List Cond := u_ws RJxfd54e TJxfd54e 0
theorem nmJxfd54e : ∀ a, a < 0 → ∀ b, b < 0 → a ≠ b → (TJxfd54e a).2.1 ≠ (TJxfd54e b).2.1 := by decide +kernel
theorem tyJxfd54e_ok : ∀ k, k < 0 → parseFieldDescriptor (TJxfd54e k).2.2.1 = some (tyJxfd54e k) := by decide +kernel
def RJx3cf43 : String := "java/lang/constant/ConstantDesc"
def TJx3cf43 : u_T := fun k => match k with
  | _ => ("", "", "", false)
def tyJx3cf43 : Nat → FieldType := fun k => match k with
  | _ => .int
abbrev wsJx3cf430 : List Cond := u_ws RJx3cf43 TJx3cf43 0
theorem nmJx3cf43 : ∀ a, a < 0 → ∀ b, b < 0 → a ≠ b → (TJx3cf43 a).2.1 ≠ (TJx3cf43 b).2.1 := by decide +kernel
theorem tyJx3cf43_ok : ∀ k, k < 0 → parseFieldDescriptor (TJx3cf43 k).2.2.1 = some (tyJx3cf43 k) := by decide +kernel
def RJ7 : String := "java/util/Arrays"
def TJ7 : u_T := fun k => match k with
  | _ => ("", "", "", false)
def tyJ7 : Nat → FieldType := fun k => match k with
  | _ => .int
abbrev wsJ70 : List Cond := u_ws RJ7 TJ7 0
theorem nmJ7 : ∀ a, a < 0 → ∀ b, b < 0 → a ≠ b → (TJ7 a).2.1 ≠ (TJ7 b).2.1 := by decide +kernel
theorem tyJ7_ok : ∀ k, k < 0 → parseFieldDescriptor (TJ7 k).2.2.1 = some (tyJ7 k) := by decide +kernel
abbrev cJ7_fill_53178 : ByteArray := prog_19_method_103_code
def yJ7_fill_53178 : MethodName := ⟨RJ7, "fill", "([II)V"⟩
def RJ3 : String := "jdk/internal/util/Preconditions"
def TJ3 : u_T := fun k => match k with
  | _ => ("", "", "", false)
def tyJ3 : Nat → FieldType := fun k => match k with
  | _ => .int
abbrev wsJ30 : List Cond := u_ws RJ3 TJ3 0
theorem nmJ3 : ∀ a, a < 0 → ∀ b, b < 0 → a ≠ b → (TJ3 a).2.1 ≠ (TJ3 b).2.1 := by decide +kernel
theorem tyJ3_ok : ∀ k, k < 0 → parseFieldDescriptor (TJ3 k).2.2.1 = some (tyJ3 k) := by decide +kernel
abbrev cJ3_checkFromToIndex_8c36e : ByteArray := prog_20_method_12_code
def yJ3_checkFromToIndex_8c36e : MethodName := ⟨RJ3, "checkFromToIndex", "(IIILjava/util/function/BiFunction;)I"⟩
def RL : String := "SoundLawsLaw"
abbrev cL_law : ByteArray := code
def yL_law : MethodName := ⟨RL, "law", "([I)Z"⟩
def wsX0_init : List Cond := .code yX0_init cX0_init 1 none :: ([.methodLink RX0 3 objectInit, .instanceMethod objectInit, .code objectInit ⟨#[0xb1]⟩ 1 none, .arrayClass .int, .fieldLink RX0 9 "SoundLaws$Aligner" "first" "[I", .fieldLink RX0 15 "SoundLaws$Aligner" "second" "[I", .fieldLink RX0 18 "SoundLaws$Aligner" "row" "[I"] ++ wsX00)
def wsX0_readSounds : List Cond := .code yX0_readSounds cX0_readSounds 7 (some .int) :: ([])
def wsX0_readFirst : List Cond := .code yX0_readFirst cX0_readFirst 4 none :: ([.fieldLink RX0 9 "SoundLaws$Aligner" "first" "[I", .fieldLink RX0 25 "SoundLaws$Aligner" "firstLength" "I", .methodLink RX0 21 yX0_readSounds, .static yX0_readSounds, .initialized RX0, .code yX0_readSounds cX0_readSounds 7 (some .int)] ++ wsX00)
def wsX0_readSecond : List Cond := .code yX0_readSecond cX0_readSecond 4 none :: ([.fieldLink RX0 15 "SoundLaws$Aligner" "second" "[I", .fieldLink RX0 29 "SoundLaws$Aligner" "secondLength" "I", .methodLink RX0 21 yX0_readSounds, .static yX0_readSounds, .initialized RX0, .code yX0_readSounds cX0_readSounds 7 (some .int)] ++ wsX00)
def wsX8_costOf : List Cond := .code yX8_costOf cX8_costOf 2 (some .int) :: ([.fieldLink RX8 288 "SoundLaws" "COSTS" "[I"])
def wsX0_leastCost : List Cond := .code yX0_leastCost cX0_leastCost 6 (some .int) :: ([.fieldLink RX0 29 "SoundLaws$Aligner" "secondLength" "I", .fieldLink RX0 18 "SoundLaws$Aligner" "row" "[I", .fieldLink RX0 25 "SoundLaws$Aligner" "firstLength" "I", .fieldLink RX0 9 "SoundLaws$Aligner" "first" "[I", .fieldLink RX0 15 "SoundLaws$Aligner" "second" "[I", .methodLink RX0 36 Lib.Math.min.name, .static Lib.Math.min.name, .initialized "java/lang/Math", .code Lib.Math.min.name Lib.Math.min.code 2 (some .int), .static yX8_costOf, .initialized RX8, .code yX8_costOf cX8_costOf 2 (some .int), .fieldLink RX8 288 "SoundLaws" "COSTS" "[I"] ++ wsX00)
def wsX7_init : List Cond := .code yX7_init cX7_init 1 none :: ([.methodLink RX7 3 objectInit, .instanceMethod objectInit, .code objectInit ⟨#[0xb1]⟩ 1 none, .arrayClass .int, .fieldLink RX7 9 "SoundLaws$Tree" "sounds" "[I", .fieldLink RX7 15 "SoundLaws$Tree" "least" "[I"] ++ wsX70)
def wsX1_init : List Cond := .code yX1_init cX1_init 1 none :: ([.methodLink RX1 3 objectInit, .instanceMethod objectInit, .code objectInit ⟨#[0xb1]⟩ 1 none, .classLink RX1 9 RX7, .instantiable RX7 3, .initialized RX7, .fieldLink RX1 12 "SoundLaws$Draws" "tree" "LSoundLaws$Tree;", .instanceMethod yX7_init, .code yX7_init cX7_init 1 none, .methodLink RX7 3 objectInit, .arrayClass .int, .fieldLink RX7 9 "SoundLaws$Tree" "sounds" "[I", .fieldLink RX7 15 "SoundLaws$Tree" "least" "[I"] ++ wsX70 ++ wsX10)
def wsX7_plant : List Cond := .code yX7_plant cX7_plant 2 none :: ([.fieldLink RX7 18 "SoundLaws$Tree" "tongues" "I"] ++ wsX70)
def wsX1_drawSound : List Cond := .code yX1_drawSound cX1_drawSound 1 (some .int) :: ([.constantLong RX1 50 (1103515245), .fieldLink RX1 18 "SoundLaws$Draws" "seed" "I", .constantLong RX1 52 (12345), .constantLong RX1 54 (2147483648), .constant RX1 56 (65536)] ++ wsX10)
def wsX8_nodesOf : List Cond := .code yX8_nodesOf cX8_nodesOf 1 (some .int) :: ([])
def wsX7_pairOf : List Cond := .code yX7_pairOf cX7_pairOf 2 (some .int) :: ([.fieldLink RX7 18 "SoundLaws$Tree" "tongues" "I"] ++ wsX70)
def wsX7_leastBelow : List Cond := .code yX7_leastBelow cX7_leastBelow 8 (some .int) :: ([.fieldLink RX7 18 "SoundLaws$Tree" "tongues" "I", .fieldLink RX7 9 "SoundLaws$Tree" "sounds" "[I", .fieldLink RX7 15 "SoundLaws$Tree" "least" "[I"] ++ wsX70)
def wsX7_climb : List Cond := .code yX7_climb cX7_climb 5 (some .int) :: ([.fieldLink RX7 18 "SoundLaws$Tree" "tongues" "I", .fieldLink RX7 15 "SoundLaws$Tree" "least" "[I", .fieldLink RX7 9 "SoundLaws$Tree" "sounds" "[I", .static yX8_nodesOf, .initialized RX8, .code yX8_nodesOf cX8_nodesOf 1 (some .int), .methodLink RX7 26 yX7_pairOf, .instanceMethod yX7_pairOf, .selects RX7 yX7_pairOf yX7_pairOf, .initialized RX7, .code yX7_pairOf cX7_pairOf 2 (some .int), .methodLink RX7 32 yX7_leastBelow, .instanceMethod yX7_leastBelow, .selects RX7 yX7_leastBelow yX7_leastBelow, .code yX7_leastBelow cX7_leastBelow 8 (some .int)] ++ wsX70)
def wsX7_root : List Cond := .code yX7_root cX7_root 1 (some .int) :: ([.fieldLink RX7 18 "SoundLaws$Tree" "tongues" "I", .static yX8_nodesOf, .initialized RX8, .code yX8_nodesOf cX8_nodesOf 1 (some .int)] ++ wsX70)
def wsX1_isForeign : List Cond := .code yX1_isForeign cX1_isForeign 3 (some .boolean) :: ([.fieldLink RX1 12 "SoundLaws$Draws" "tree" "LSoundLaws$Tree;", .fieldLink RX1 32 "SoundLaws$Tree" "sounds" "[I"] ++ wsX10 ++ wsX70)
def wsX1_drawSets_r1 : List Cond := [Cond.fieldLink RX1 18 "SoundLaws$Draws" "seed" "I", Cond.fieldLink RX1 22 "SoundLaws$Draws" "changes" "I", Cond.fieldLink RX1 25 "SoundLaws$Draws" "foreign" "I", Cond.fieldLink RX1 12 "SoundLaws$Draws" "tree" "LSoundLaws$Tree;", Cond.fieldLink RX1 32 "SoundLaws$Tree" "sounds" "[I", Cond.methodLink RX1 28 yX7_plant, Cond.instanceMethod yX7_plant, Cond.selects RX7 yX7_plant yX7_plant, Cond.initialized RX7, Cond.code yX7_plant cX7_plant 2 none, Cond.fieldLink RX7 18 "SoundLaws$Tree" "tongues" "I", Cond.methodLink RX1 36 yX1_drawSound, Cond.instanceMethod yX1_drawSound, Cond.selects RX1 yX1_drawSound yX1_drawSound, Cond.initialized RX1, Cond.code yX1_drawSound cX1_drawSound 1 (some .int), Cond.constantLong RX1 50 (1103515245), Cond.constantLong RX1 52 (12345), Cond.constantLong RX1 54 (2147483648), Cond.constant RX1 56 (65536), Cond.methodLink RX1 40 yX7_climb, Cond.instanceMethod yX7_climb, Cond.selects RX7 yX7_climb yX7_climb, Cond.code yX7_climb cX7_climb 5 (some .int)]
def wsX1_drawSets_r2 : List Cond := [Cond.fieldLink RX7 15 "SoundLaws$Tree" "least" "[I", Cond.fieldLink RX7 9 "SoundLaws$Tree" "sounds" "[I", Cond.static yX8_nodesOf, Cond.initialized RX8, Cond.code yX8_nodesOf cX8_nodesOf 1 (some .int), Cond.methodLink RX7 26 yX7_pairOf, Cond.instanceMethod yX7_pairOf, Cond.selects RX7 yX7_pairOf yX7_pairOf, Cond.code yX7_pairOf cX7_pairOf 2 (some .int), Cond.methodLink RX7 32 yX7_leastBelow, Cond.instanceMethod yX7_leastBelow, Cond.selects RX7 yX7_leastBelow yX7_leastBelow, Cond.code yX7_leastBelow cX7_leastBelow 8 (some .int), Cond.methodLink RX1 43 yX7_root, Cond.instanceMethod yX7_root, Cond.selects RX7 yX7_root yX7_root, Cond.code yX7_root cX7_root 1 (some .int), Cond.methodLink RX1 46 yX1_isForeign, Cond.instanceMethod yX1_isForeign, Cond.selects RX1 yX1_isForeign yX1_isForeign, Cond.code yX1_isForeign cX1_isForeign 3 (some .boolean)]
def wsX1_drawSets : List Cond := .code yX1_drawSets cX1_drawSets 5 none :: ((wsX1_drawSets_r1 ++ wsX1_drawSets_r2) ++ wsX10 ++ wsX70)
def wsX2_init : List Cond := .code yX2_init cX2_init 1 none :: ([.methodLink RX2 3 objectInit, .instanceMethod objectInit, .code objectInit ⟨#[0xb1]⟩ 1 none, .arrayClass .int, .fieldLink RX2 9 "SoundLaws$Laws" "becomes" "[I", .fieldLink RX2 15 "SoundLaws$Laws" "follows" "[I", .fieldLink RX2 18 "SoundLaws$Laws" "exceptions" "[I", .fieldLink RX2 21 "SoundLaws$Laws" "weights" "[I"] ++ wsX20)
def wsJ7_fill_53178 : List Cond := .code yJ7_fill_53178 cJ7_fill_53178 4 none :: ([])
def wsX2_clear : List Cond := .code yX2_clear cX2_clear 1 none :: ([.fieldLink RX2 21 "SoundLaws$Laws" "weights" "[I", .methodLink RX2 24 yJ7_fill_53178, .static yJ7_fill_53178, .initialized RJ7, .code yJ7_fill_53178 cJ7_fill_53178 4 none] ++ wsX20)
def wsX2_weigh : List Cond := .code yX2_weigh cX2_weigh 4 none :: ([.fieldLink RX2 21 "SoundLaws$Laws" "weights" "[I"] ++ wsX20)
def wsX2_tell : List Cond := .code yX2_tell cX2_tell 3 (some .int) :: ([.fieldLink RX2 9 "SoundLaws$Laws" "becomes" "[I", .fieldLink RX2 15 "SoundLaws$Laws" "follows" "[I", .fieldLink RX2 18 "SoundLaws$Laws" "exceptions" "[I"] ++ wsX20)
def wsX2_settleLaw : List Cond := .code yX2_settleLaw cX2_settleLaw 7 none :: ([.fieldLink RX2 21 "SoundLaws$Laws" "weights" "[I", .fieldLink RX2 9 "SoundLaws$Laws" "becomes" "[I", .fieldLink RX2 15 "SoundLaws$Laws" "follows" "[I", .fieldLink RX2 18 "SoundLaws$Laws" "exceptions" "[I"] ++ wsX20)
def wsX2_settle : List Cond := .code yX2_settle cX2_settle 3 none :: ([.fieldLink RX2 30 "SoundLaws$Laws" "known" "I", .fieldLink RX2 34 "SoundLaws$Laws" "exceptionsOfAll" "I", .fieldLink RX2 9 "SoundLaws$Laws" "becomes" "[I", .fieldLink RX2 18 "SoundLaws$Laws" "exceptions" "[I", .methodLink RX2 37 yX2_settleLaw, .instanceMethod yX2_settleLaw, .selects RX2 yX2_settleLaw yX2_settleLaw, .initialized RX2, .code yX2_settleLaw cX2_settleLaw 7 none, .fieldLink RX2 21 "SoundLaws$Laws" "weights" "[I", .fieldLink RX2 15 "SoundLaws$Laws" "follows" "[I"] ++ wsX20)
def wsX5_init : List Cond := .code yX5_init cX5_init 1 none :: ([.methodLink RX5 3 objectInit, .instanceMethod objectInit, .code objectInit ⟨#[0xb1]⟩ 1 none, .arrayClass .int, .fieldLink RX5 9 "SoundLaws$Stock" "kinds" "[I", .fieldLink RX5 15 "SoundLaws$Stock" "lengths" "[I", .fieldLink RX5 18 "SoundLaws$Stock" "words" "[I"] ++ wsX50)
def wsX3_init : List Cond := .code yX3_init cX3_init 1 none :: ([.methodLink RX3 3 objectInit, .instanceMethod objectInit, .code objectInit ⟨#[0xb1]⟩ 1 none, .classLink RX3 9 RX5, .instantiable RX5 5, .initialized RX5, .fieldLink RX3 12 "SoundLaws$Reader" "draft" "LSoundLaws$Stock;", .instanceMethod yX5_init, .code yX5_init cX5_init 1 none, .methodLink RX5 3 objectInit, .arrayClass .int, .fieldLink RX5 9 "SoundLaws$Stock" "kinds" "[I", .fieldLink RX5 15 "SoundLaws$Stock" "lengths" "[I", .fieldLink RX5 18 "SoundLaws$Stock" "words" "[I"] ++ wsX50 ++ wsX30)
def wsX3_start : List Cond := .code yX3_start cX3_start 1 none :: ([.fieldLink RX3 12 "SoundLaws$Reader" "draft" "LSoundLaws$Stock;", .fieldLink RX3 18 "SoundLaws$Stock" "size" "I", .fieldLink RX3 22 "SoundLaws$Stock" "tongues" "I", .fieldLink RX3 25 "SoundLaws$Reader" "kindIsDue" "Z", .fieldLink RX3 29 "SoundLaws$Reader" "hasSilentWord" "Z"] ++ wsX30 ++ wsX50)
def wsJ0_isLatin1_aae02 : List Cond := .code yJ0_isLatin1_aae02 cJ0_isLatin1_aae02 1 (some .boolean) :: ([.fieldLink RJ0 38 "java/lang/String" "COMPACT_STRINGS" "Z", .fieldLink RJ0 15 "java/lang/String" "coder" "B"])
def wsJ0_coder_7d493 : List Cond := .code yJ0_coder_7d493 cJ0_coder_7d493 1 (some .byte) :: ([.fieldLink RJ0 38 "java/lang/String" "COMPACT_STRINGS" "Z", .fieldLink RJ0 15 "java/lang/String" "coder" "B"])
def wsJ0_length_8abf5 : List Cond := .code yJ0_length_8abf5 cJ0_length_8abf5 1 (some .int) :: ([.fieldLink RJ0 9 "java/lang/String" "value" "[B", .methodLink RJ0 335 yJ0_coder_7d493, .instanceMethod yJ0_coder_7d493, .selects RJ0 yJ0_coder_7d493 yJ0_coder_7d493, .initialized RJ0, .code yJ0_coder_7d493 cJ0_coder_7d493 1 (some .byte), .fieldLink RJ0 38 "java/lang/String" "COMPACT_STRINGS" "Z", .fieldLink RJ0 15 "java/lang/String" "coder" "B"])
def wsJ1_canEncode_9a6ad : List Cond := .code yJ1_canEncode_9a6ad cJ1_canEncode_9a6ad 1 (some .boolean) :: ([])
def wsJ1_indexOfChar_4cfef : List Cond := .code yJ1_indexOfChar_4cfef cJ1_indexOfChar_4cfef 6 (some .int) :: ([])
def wsJ1_indexOf_4cfef : List Cond := .code yJ1_indexOf_4cfef cJ1_indexOf_4cfef 4 (some .int) :: ([.methodLink RJ1 92 Lib.Math.max.name, .static Lib.Math.max.name, .initialized "java/lang/Math", .code Lib.Math.max.name Lib.Math.max.code 2 (some .int), .methodLink RJ1 38 Lib.Math.min.name, .static Lib.Math.min.name, .code Lib.Math.min.name Lib.Math.min.code 2 (some .int), .methodLink RJ1 88 yJ1_canEncode_9a6ad, .static yJ1_canEncode_9a6ad, .initialized RJ1, .code yJ1_canEncode_9a6ad cJ1_canEncode_9a6ad 1 (some .boolean), .methodLink RJ1 95 yJ1_indexOfChar_4cfef, .static yJ1_indexOfChar_4cfef, .code yJ1_indexOfChar_4cfef cJ1_indexOfChar_4cfef 6 (some .int)])
def wsJ2_length_9d52b : List Cond := .code yJ2_length_9d52b cJ2_length_9d52b 1 (some .int) :: ([])
def wsJ3_checkFromToIndex_8c36e : List Cond := .code yJ3_checkFromToIndex_8c36e cJ3_checkFromToIndex_8c36e 4 (some .int) :: ([])
def wsJ0_checkBoundsBeginEnd_23922 : List Cond := .code yJ0_checkBoundsBeginEnd_23922 cJ0_checkBoundsBeginEnd_23922 3 none :: ([.fieldLink RJ0 1053 "jdk/internal/util/Preconditions" "SIOOBE_FORMATTER" "Ljava/util/function/BiFunction;", .methodLink RJ0 1062 yJ3_checkFromToIndex_8c36e, .static yJ3_checkFromToIndex_8c36e, .initialized RJ3, .code yJ3_checkFromToIndex_8c36e cJ3_checkFromToIndex_8c36e 4 (some .int)])
def wsJ2_checkBoundsBeginEnd_d044e : List Cond := .code yJ2_checkBoundsBeginEnd_d044e cJ2_checkBoundsBeginEnd_d044e 3 none :: ([.methodLink RJ2 48 yJ2_length_9d52b, .static yJ2_length_9d52b, .initialized RJ2, .code yJ2_length_9d52b cJ2_length_9d52b 1 (some .int), .methodLink RJ2 241 yJ0_checkBoundsBeginEnd_23922, .static yJ0_checkBoundsBeginEnd_23922, .initialized RJ0, .code yJ0_checkBoundsBeginEnd_23922 cJ0_checkBoundsBeginEnd_23922 3 none, .fieldLink RJ0 1053 "jdk/internal/util/Preconditions" "SIOOBE_FORMATTER" "Ljava/util/function/BiFunction;", .methodLink RJ0 1062 yJ3_checkFromToIndex_8c36e, .static yJ3_checkFromToIndex_8c36e, .initialized RJ3, .code yJ3_checkFromToIndex_8c36e cJ3_checkFromToIndex_8c36e 4 (some .int)])
def wsJ2_getChar_3b067 : List Cond := .code yJ2_getChar_3b067 cJ2_getChar_3b067 2 (some .char) :: ([.fieldLink RJ2 44 "java/lang/StringUTF16" "$assertionsDisabled" "Z", .fieldLink RJ2 59 "java/lang/StringUTF16" "HI_BYTE_SHIFT" "I", .fieldLink RJ2 63 "java/lang/StringUTF16" "LO_BYTE_SHIFT" "I", .methodLink RJ2 48 yJ2_length_9d52b, .static yJ2_length_9d52b, .initialized RJ2, .code yJ2_length_9d52b cJ2_length_9d52b 1 (some .int)])
def wsJ2_indexOfCharUnsafe_4cfef : List Cond := .code yJ2_indexOfCharUnsafe_4cfef cJ2_indexOfCharUnsafe_4cfef 5 (some .int) :: ([.methodLink RJ2 71 yJ2_getChar_3b067, .static yJ2_getChar_3b067, .initialized RJ2, .code yJ2_getChar_3b067 cJ2_getChar_3b067 2 (some .char), .fieldLink RJ2 44 "java/lang/StringUTF16" "$assertionsDisabled" "Z", .fieldLink RJ2 59 "java/lang/StringUTF16" "HI_BYTE_SHIFT" "I", .fieldLink RJ2 63 "java/lang/StringUTF16" "LO_BYTE_SHIFT" "I", .methodLink RJ2 48 yJ2_length_9d52b, .static yJ2_length_9d52b, .code yJ2_length_9d52b cJ2_length_9d52b 1 (some .int)])
def wsJ2_indexOfChar_4cfef_r1 : List Cond := [Cond.methodLink RJ2 96 yJ2_checkBoundsBeginEnd_d044e, Cond.static yJ2_checkBoundsBeginEnd_d044e, Cond.initialized RJ2, Cond.code yJ2_checkBoundsBeginEnd_d044e cJ2_checkBoundsBeginEnd_d044e 3 none, Cond.methodLink RJ2 48 yJ2_length_9d52b, Cond.static yJ2_length_9d52b, Cond.code yJ2_length_9d52b cJ2_length_9d52b 1 (some .int), Cond.methodLink RJ2 241 yJ0_checkBoundsBeginEnd_23922, Cond.static yJ0_checkBoundsBeginEnd_23922, Cond.initialized RJ0, Cond.code yJ0_checkBoundsBeginEnd_23922 cJ0_checkBoundsBeginEnd_23922 3 none, Cond.fieldLink RJ0 1053 "jdk/internal/util/Preconditions" "SIOOBE_FORMATTER" "Ljava/util/function/BiFunction;", Cond.methodLink RJ0 1062 yJ3_checkFromToIndex_8c36e, Cond.static yJ3_checkFromToIndex_8c36e, Cond.initialized RJ3, Cond.code yJ3_checkFromToIndex_8c36e cJ3_checkFromToIndex_8c36e 4 (some .int), Cond.methodLink RJ2 244 yJ2_indexOfCharUnsafe_4cfef, Cond.static yJ2_indexOfCharUnsafe_4cfef, Cond.code yJ2_indexOfCharUnsafe_4cfef cJ2_indexOfCharUnsafe_4cfef 5 (some .int), Cond.methodLink RJ2 71 yJ2_getChar_3b067, Cond.static yJ2_getChar_3b067, Cond.code yJ2_getChar_3b067 cJ2_getChar_3b067 2 (some .char), Cond.fieldLink RJ2 44 "java/lang/StringUTF16" "$assertionsDisabled" "Z", Cond.fieldLink RJ2 59 "java/lang/StringUTF16" "HI_BYTE_SHIFT" "I"]
def wsJ2_indexOfChar_4cfef_r2 : List Cond := [Cond.fieldLink RJ2 63 "java/lang/StringUTF16" "LO_BYTE_SHIFT" "I"]
def wsJ2_indexOfChar_4cfef : List Cond := .code yJ2_indexOfChar_4cfef cJ2_indexOfChar_4cfef 4 (some .int) :: ((wsJ2_indexOfChar_4cfef_r1 ++ wsJ2_indexOfChar_4cfef_r2))
def wsJ11_isValidCodePoint_9a6ad : List Cond := .code yJ11_isValidCodePoint_9a6ad cJ11_isValidCodePoint_9a6ad 2 (some .boolean) :: ([])
def wsJ11_highSurrogate_5068e : List Cond := .code yJ11_highSurrogate_5068e cJ11_highSurrogate_5068e 1 (some .char) :: ([.constant RJ11 110 (55232)])
def wsJ11_lowSurrogate_5068e : List Cond := .code yJ11_lowSurrogate_5068e cJ11_lowSurrogate_5068e 1 (some .char) :: ([.constant RJ11 76 (56320)])
def wsJ2_indexOfSupplementary_4cfef_r1 : List Cond := [Cond.methodLink RJ2 164 yJ11_isValidCodePoint_9a6ad, Cond.static yJ11_isValidCodePoint_9a6ad, Cond.initialized RJ11, Cond.code yJ11_isValidCodePoint_9a6ad cJ11_isValidCodePoint_9a6ad 2 (some .boolean), Cond.methodLink RJ2 157 yJ11_highSurrogate_5068e, Cond.static yJ11_highSurrogate_5068e, Cond.code yJ11_highSurrogate_5068e cJ11_highSurrogate_5068e 1 (some .char), Cond.constant RJ11 110 (55232), Cond.methodLink RJ2 161 yJ11_lowSurrogate_5068e, Cond.static yJ11_lowSurrogate_5068e, Cond.code yJ11_lowSurrogate_5068e cJ11_lowSurrogate_5068e 1 (some .char), Cond.constant RJ11 76 (56320), Cond.methodLink RJ2 96 yJ2_checkBoundsBeginEnd_d044e, Cond.static yJ2_checkBoundsBeginEnd_d044e, Cond.initialized RJ2, Cond.code yJ2_checkBoundsBeginEnd_d044e cJ2_checkBoundsBeginEnd_d044e 3 none, Cond.methodLink RJ2 48 yJ2_length_9d52b, Cond.static yJ2_length_9d52b, Cond.code yJ2_length_9d52b cJ2_length_9d52b 1 (some .int), Cond.methodLink RJ2 241 yJ0_checkBoundsBeginEnd_23922, Cond.static yJ0_checkBoundsBeginEnd_23922, Cond.initialized RJ0, Cond.code yJ0_checkBoundsBeginEnd_23922 cJ0_checkBoundsBeginEnd_23922 3 none, Cond.fieldLink RJ0 1053 "jdk/internal/util/Preconditions" "SIOOBE_FORMATTER" "Ljava/util/function/BiFunction;"]
def wsJ2_indexOfSupplementary_4cfef_r2 : List Cond := [Cond.methodLink RJ0 1062 yJ3_checkFromToIndex_8c36e, Cond.static yJ3_checkFromToIndex_8c36e, Cond.initialized RJ3, Cond.code yJ3_checkFromToIndex_8c36e cJ3_checkFromToIndex_8c36e 4 (some .int), Cond.methodLink RJ2 71 yJ2_getChar_3b067, Cond.static yJ2_getChar_3b067, Cond.code yJ2_getChar_3b067 cJ2_getChar_3b067 2 (some .char), Cond.fieldLink RJ2 44 "java/lang/StringUTF16" "$assertionsDisabled" "Z", Cond.fieldLink RJ2 59 "java/lang/StringUTF16" "HI_BYTE_SHIFT" "I", Cond.fieldLink RJ2 63 "java/lang/StringUTF16" "LO_BYTE_SHIFT" "I"]
def wsJ2_indexOfSupplementary_4cfef : List Cond := .code yJ2_indexOfSupplementary_4cfef cJ2_indexOfSupplementary_4cfef 7 (some .int) :: ((wsJ2_indexOfSupplementary_4cfef_r1 ++ wsJ2_indexOfSupplementary_4cfef_r2))
def wsJ2_indexOf_4cfef_r1 : List Cond := [Cond.methodLink RJ2 224 Lib.Math.max.name, Cond.static Lib.Math.max.name, Cond.initialized "java/lang/Math", Cond.code Lib.Math.max.name Lib.Math.max.code 2 (some .int), Cond.methodLink RJ2 183 Lib.Math.min.name, Cond.static Lib.Math.min.name, Cond.code Lib.Math.min.name Lib.Math.min.code 2 (some .int), Cond.constant RJ2 227 (65536), Cond.methodLink RJ2 228 yJ2_indexOfChar_4cfef, Cond.static yJ2_indexOfChar_4cfef, Cond.initialized RJ2, Cond.code yJ2_indexOfChar_4cfef cJ2_indexOfChar_4cfef 4 (some .int), Cond.methodLink RJ2 96 yJ2_checkBoundsBeginEnd_d044e, Cond.static yJ2_checkBoundsBeginEnd_d044e, Cond.code yJ2_checkBoundsBeginEnd_d044e cJ2_checkBoundsBeginEnd_d044e 3 none, Cond.methodLink RJ2 48 yJ2_length_9d52b, Cond.static yJ2_length_9d52b, Cond.code yJ2_length_9d52b cJ2_length_9d52b 1 (some .int), Cond.methodLink RJ2 241 yJ0_checkBoundsBeginEnd_23922, Cond.static yJ0_checkBoundsBeginEnd_23922, Cond.initialized RJ0, Cond.code yJ0_checkBoundsBeginEnd_23922 cJ0_checkBoundsBeginEnd_23922 3 none, Cond.fieldLink RJ0 1053 "jdk/internal/util/Preconditions" "SIOOBE_FORMATTER" "Ljava/util/function/BiFunction;", Cond.methodLink RJ0 1062 yJ3_checkFromToIndex_8c36e]
def wsJ2_indexOf_4cfef_r2 : List Cond := [Cond.static yJ3_checkFromToIndex_8c36e, Cond.initialized RJ3, Cond.code yJ3_checkFromToIndex_8c36e cJ3_checkFromToIndex_8c36e 4 (some .int), Cond.methodLink RJ2 244 yJ2_indexOfCharUnsafe_4cfef, Cond.static yJ2_indexOfCharUnsafe_4cfef, Cond.code yJ2_indexOfCharUnsafe_4cfef cJ2_indexOfCharUnsafe_4cfef 5 (some .int), Cond.methodLink RJ2 71 yJ2_getChar_3b067, Cond.static yJ2_getChar_3b067, Cond.code yJ2_getChar_3b067 cJ2_getChar_3b067 2 (some .char), Cond.fieldLink RJ2 44 "java/lang/StringUTF16" "$assertionsDisabled" "Z", Cond.fieldLink RJ2 59 "java/lang/StringUTF16" "HI_BYTE_SHIFT" "I", Cond.fieldLink RJ2 63 "java/lang/StringUTF16" "LO_BYTE_SHIFT" "I", Cond.methodLink RJ2 232 yJ2_indexOfSupplementary_4cfef, Cond.static yJ2_indexOfSupplementary_4cfef, Cond.code yJ2_indexOfSupplementary_4cfef cJ2_indexOfSupplementary_4cfef 7 (some .int), Cond.methodLink RJ2 164 yJ11_isValidCodePoint_9a6ad, Cond.static yJ11_isValidCodePoint_9a6ad, Cond.initialized RJ11, Cond.code yJ11_isValidCodePoint_9a6ad cJ11_isValidCodePoint_9a6ad 2 (some .boolean), Cond.methodLink RJ2 157 yJ11_highSurrogate_5068e, Cond.static yJ11_highSurrogate_5068e, Cond.code yJ11_highSurrogate_5068e cJ11_highSurrogate_5068e 1 (some .char), Cond.constant RJ11 110 (55232), Cond.methodLink RJ2 161 yJ11_lowSurrogate_5068e]
def wsJ2_indexOf_4cfef_r3 : List Cond := [Cond.static yJ11_lowSurrogate_5068e, Cond.code yJ11_lowSurrogate_5068e cJ11_lowSurrogate_5068e 1 (some .char), Cond.constant RJ11 76 (56320)]
def wsJ2_indexOf_4cfef : List Cond := .code yJ2_indexOf_4cfef cJ2_indexOf_4cfef 4 (some .int) :: ((wsJ2_indexOf_4cfef_r1 ++ (wsJ2_indexOf_4cfef_r2 ++ wsJ2_indexOf_4cfef_r3)))
def wsJ0_indexOf_7cf53_r1 : List Cond := [Cond.fieldLink RJ0 9 "java/lang/String" "value" "[B", Cond.methodLink RJ0 492 yJ0_isLatin1_aae02, Cond.instanceMethod yJ0_isLatin1_aae02, Cond.selects RJ0 yJ0_isLatin1_aae02 yJ0_isLatin1_aae02, Cond.initialized RJ0, Cond.code yJ0_isLatin1_aae02 cJ0_isLatin1_aae02 1 (some .boolean), Cond.fieldLink RJ0 38 "java/lang/String" "COMPACT_STRINGS" "Z", Cond.fieldLink RJ0 15 "java/lang/String" "coder" "B", Cond.methodLink RJ0 505 yJ0_length_8abf5, Cond.instanceMethod yJ0_length_8abf5, Cond.selects RJ0 yJ0_length_8abf5 yJ0_length_8abf5, Cond.code yJ0_length_8abf5 cJ0_length_8abf5 1 (some .int), Cond.methodLink RJ0 335 yJ0_coder_7d493, Cond.instanceMethod yJ0_coder_7d493, Cond.selects RJ0 yJ0_coder_7d493 yJ0_coder_7d493, Cond.code yJ0_coder_7d493 cJ0_coder_7d493 1 (some .byte), Cond.methodLink RJ0 637 yJ1_indexOf_4cfef, Cond.static yJ1_indexOf_4cfef, Cond.initialized RJ1, Cond.code yJ1_indexOf_4cfef cJ1_indexOf_4cfef 4 (some .int), Cond.methodLink RJ1 92 Lib.Math.max.name, Cond.static Lib.Math.max.name, Cond.initialized "java/lang/Math", Cond.code Lib.Math.max.name Lib.Math.max.code 2 (some .int)]
def wsJ0_indexOf_7cf53_r2 : List Cond := [Cond.methodLink RJ1 38 Lib.Math.min.name, Cond.static Lib.Math.min.name, Cond.code Lib.Math.min.name Lib.Math.min.code 2 (some .int), Cond.methodLink RJ1 88 yJ1_canEncode_9a6ad, Cond.static yJ1_canEncode_9a6ad, Cond.code yJ1_canEncode_9a6ad cJ1_canEncode_9a6ad 1 (some .boolean), Cond.methodLink RJ1 95 yJ1_indexOfChar_4cfef, Cond.static yJ1_indexOfChar_4cfef, Cond.code yJ1_indexOfChar_4cfef cJ1_indexOfChar_4cfef 6 (some .int), Cond.methodLink RJ0 640 yJ2_indexOf_4cfef, Cond.static yJ2_indexOf_4cfef, Cond.initialized RJ2, Cond.code yJ2_indexOf_4cfef cJ2_indexOf_4cfef 4 (some .int), Cond.methodLink RJ2 224 Lib.Math.max.name, Cond.methodLink RJ2 183 Lib.Math.min.name, Cond.constant RJ2 227 (65536), Cond.methodLink RJ2 228 yJ2_indexOfChar_4cfef, Cond.static yJ2_indexOfChar_4cfef, Cond.code yJ2_indexOfChar_4cfef cJ2_indexOfChar_4cfef 4 (some .int), Cond.methodLink RJ2 96 yJ2_checkBoundsBeginEnd_d044e, Cond.static yJ2_checkBoundsBeginEnd_d044e, Cond.code yJ2_checkBoundsBeginEnd_d044e cJ2_checkBoundsBeginEnd_d044e 3 none, Cond.methodLink RJ2 48 yJ2_length_9d52b, Cond.static yJ2_length_9d52b]
def wsJ0_indexOf_7cf53_r3 : List Cond := [Cond.code yJ2_length_9d52b cJ2_length_9d52b 1 (some .int), Cond.methodLink RJ2 241 yJ0_checkBoundsBeginEnd_23922, Cond.static yJ0_checkBoundsBeginEnd_23922, Cond.code yJ0_checkBoundsBeginEnd_23922 cJ0_checkBoundsBeginEnd_23922 3 none, Cond.fieldLink RJ0 1053 "jdk/internal/util/Preconditions" "SIOOBE_FORMATTER" "Ljava/util/function/BiFunction;", Cond.methodLink RJ0 1062 yJ3_checkFromToIndex_8c36e, Cond.static yJ3_checkFromToIndex_8c36e, Cond.initialized RJ3, Cond.code yJ3_checkFromToIndex_8c36e cJ3_checkFromToIndex_8c36e 4 (some .int), Cond.methodLink RJ2 244 yJ2_indexOfCharUnsafe_4cfef, Cond.static yJ2_indexOfCharUnsafe_4cfef, Cond.code yJ2_indexOfCharUnsafe_4cfef cJ2_indexOfCharUnsafe_4cfef 5 (some .int), Cond.methodLink RJ2 71 yJ2_getChar_3b067, Cond.static yJ2_getChar_3b067, Cond.code yJ2_getChar_3b067 cJ2_getChar_3b067 2 (some .char), Cond.fieldLink RJ2 44 "java/lang/StringUTF16" "$assertionsDisabled" "Z", Cond.fieldLink RJ2 59 "java/lang/StringUTF16" "HI_BYTE_SHIFT" "I", Cond.fieldLink RJ2 63 "java/lang/StringUTF16" "LO_BYTE_SHIFT" "I", Cond.methodLink RJ2 232 yJ2_indexOfSupplementary_4cfef, Cond.static yJ2_indexOfSupplementary_4cfef, Cond.code yJ2_indexOfSupplementary_4cfef cJ2_indexOfSupplementary_4cfef 7 (some .int), Cond.methodLink RJ2 164 yJ11_isValidCodePoint_9a6ad, Cond.static yJ11_isValidCodePoint_9a6ad, Cond.initialized RJ11]
def wsJ0_indexOf_7cf53_r4 : List Cond := [Cond.code yJ11_isValidCodePoint_9a6ad cJ11_isValidCodePoint_9a6ad 2 (some .boolean), Cond.methodLink RJ2 157 yJ11_highSurrogate_5068e, Cond.static yJ11_highSurrogate_5068e, Cond.code yJ11_highSurrogate_5068e cJ11_highSurrogate_5068e 1 (some .char), Cond.constant RJ11 110 (55232), Cond.methodLink RJ2 161 yJ11_lowSurrogate_5068e, Cond.static yJ11_lowSurrogate_5068e, Cond.code yJ11_lowSurrogate_5068e cJ11_lowSurrogate_5068e 1 (some .char), Cond.constant RJ11 76 (56320)]
def wsJ0_indexOf_7cf53 : List Cond := .code yJ0_indexOf_7cf53 cJ0_indexOf_7cf53 3 (some .int) :: ((wsJ0_indexOf_7cf53_r1 ++ (wsJ0_indexOf_7cf53_r2 ++ (wsJ0_indexOf_7cf53_r3 ++ wsJ0_indexOf_7cf53_r4))))
def wsJ0_indexOf_0f7a4_r1 : List Cond := [Cond.methodLink RJ0 633 yJ0_indexOf_7cf53, Cond.instanceMethod yJ0_indexOf_7cf53, Cond.selects RJ0 yJ0_indexOf_7cf53 yJ0_indexOf_7cf53, Cond.initialized RJ0, Cond.code yJ0_indexOf_7cf53 cJ0_indexOf_7cf53 3 (some .int), Cond.fieldLink RJ0 9 "java/lang/String" "value" "[B", Cond.methodLink RJ0 492 yJ0_isLatin1_aae02, Cond.instanceMethod yJ0_isLatin1_aae02, Cond.selects RJ0 yJ0_isLatin1_aae02 yJ0_isLatin1_aae02, Cond.code yJ0_isLatin1_aae02 cJ0_isLatin1_aae02 1 (some .boolean), Cond.fieldLink RJ0 38 "java/lang/String" "COMPACT_STRINGS" "Z", Cond.fieldLink RJ0 15 "java/lang/String" "coder" "B", Cond.methodLink RJ0 505 yJ0_length_8abf5, Cond.instanceMethod yJ0_length_8abf5, Cond.selects RJ0 yJ0_length_8abf5 yJ0_length_8abf5, Cond.code yJ0_length_8abf5 cJ0_length_8abf5 1 (some .int), Cond.methodLink RJ0 335 yJ0_coder_7d493, Cond.instanceMethod yJ0_coder_7d493, Cond.selects RJ0 yJ0_coder_7d493 yJ0_coder_7d493, Cond.code yJ0_coder_7d493 cJ0_coder_7d493 1 (some .byte), Cond.methodLink RJ0 637 yJ1_indexOf_4cfef, Cond.static yJ1_indexOf_4cfef, Cond.initialized RJ1, Cond.code yJ1_indexOf_4cfef cJ1_indexOf_4cfef 4 (some .int)]
def wsJ0_indexOf_0f7a4_r2 : List Cond := [Cond.methodLink RJ1 92 Lib.Math.max.name, Cond.static Lib.Math.max.name, Cond.initialized "java/lang/Math", Cond.code Lib.Math.max.name Lib.Math.max.code 2 (some .int), Cond.methodLink RJ1 38 Lib.Math.min.name, Cond.static Lib.Math.min.name, Cond.code Lib.Math.min.name Lib.Math.min.code 2 (some .int), Cond.methodLink RJ1 88 yJ1_canEncode_9a6ad, Cond.static yJ1_canEncode_9a6ad, Cond.code yJ1_canEncode_9a6ad cJ1_canEncode_9a6ad 1 (some .boolean), Cond.methodLink RJ1 95 yJ1_indexOfChar_4cfef, Cond.static yJ1_indexOfChar_4cfef, Cond.code yJ1_indexOfChar_4cfef cJ1_indexOfChar_4cfef 6 (some .int), Cond.methodLink RJ0 640 yJ2_indexOf_4cfef, Cond.static yJ2_indexOf_4cfef, Cond.initialized RJ2, Cond.code yJ2_indexOf_4cfef cJ2_indexOf_4cfef 4 (some .int), Cond.methodLink RJ2 224 Lib.Math.max.name, Cond.methodLink RJ2 183 Lib.Math.min.name, Cond.constant RJ2 227 (65536), Cond.methodLink RJ2 228 yJ2_indexOfChar_4cfef, Cond.static yJ2_indexOfChar_4cfef, Cond.code yJ2_indexOfChar_4cfef cJ2_indexOfChar_4cfef 4 (some .int), Cond.methodLink RJ2 96 yJ2_checkBoundsBeginEnd_d044e]
def wsJ0_indexOf_0f7a4_r3 : List Cond := [Cond.static yJ2_checkBoundsBeginEnd_d044e, Cond.code yJ2_checkBoundsBeginEnd_d044e cJ2_checkBoundsBeginEnd_d044e 3 none, Cond.methodLink RJ2 48 yJ2_length_9d52b, Cond.static yJ2_length_9d52b, Cond.code yJ2_length_9d52b cJ2_length_9d52b 1 (some .int), Cond.methodLink RJ2 241 yJ0_checkBoundsBeginEnd_23922, Cond.static yJ0_checkBoundsBeginEnd_23922, Cond.code yJ0_checkBoundsBeginEnd_23922 cJ0_checkBoundsBeginEnd_23922 3 none, Cond.fieldLink RJ0 1053 "jdk/internal/util/Preconditions" "SIOOBE_FORMATTER" "Ljava/util/function/BiFunction;", Cond.methodLink RJ0 1062 yJ3_checkFromToIndex_8c36e, Cond.static yJ3_checkFromToIndex_8c36e, Cond.initialized RJ3, Cond.code yJ3_checkFromToIndex_8c36e cJ3_checkFromToIndex_8c36e 4 (some .int), Cond.methodLink RJ2 244 yJ2_indexOfCharUnsafe_4cfef, Cond.static yJ2_indexOfCharUnsafe_4cfef, Cond.code yJ2_indexOfCharUnsafe_4cfef cJ2_indexOfCharUnsafe_4cfef 5 (some .int), Cond.methodLink RJ2 71 yJ2_getChar_3b067, Cond.static yJ2_getChar_3b067, Cond.code yJ2_getChar_3b067 cJ2_getChar_3b067 2 (some .char), Cond.fieldLink RJ2 44 "java/lang/StringUTF16" "$assertionsDisabled" "Z", Cond.fieldLink RJ2 59 "java/lang/StringUTF16" "HI_BYTE_SHIFT" "I", Cond.fieldLink RJ2 63 "java/lang/StringUTF16" "LO_BYTE_SHIFT" "I", Cond.methodLink RJ2 232 yJ2_indexOfSupplementary_4cfef, Cond.static yJ2_indexOfSupplementary_4cfef]
def wsJ0_indexOf_0f7a4_r4 : List Cond := [Cond.code yJ2_indexOfSupplementary_4cfef cJ2_indexOfSupplementary_4cfef 7 (some .int), Cond.methodLink RJ2 164 yJ11_isValidCodePoint_9a6ad, Cond.static yJ11_isValidCodePoint_9a6ad, Cond.initialized RJ11, Cond.code yJ11_isValidCodePoint_9a6ad cJ11_isValidCodePoint_9a6ad 2 (some .boolean), Cond.methodLink RJ2 157 yJ11_highSurrogate_5068e, Cond.static yJ11_highSurrogate_5068e, Cond.code yJ11_highSurrogate_5068e cJ11_highSurrogate_5068e 1 (some .char), Cond.constant RJ11 110 (55232), Cond.methodLink RJ2 161 yJ11_lowSurrogate_5068e, Cond.static yJ11_lowSurrogate_5068e, Cond.code yJ11_lowSurrogate_5068e cJ11_lowSurrogate_5068e 1 (some .char), Cond.constant RJ11 76 (56320)]
def wsJ0_indexOf_0f7a4 : List Cond := .code yJ0_indexOf_0f7a4 cJ0_indexOf_0f7a4 2 (some .int) :: ((wsJ0_indexOf_0f7a4_r1 ++ (wsJ0_indexOf_0f7a4_r2 ++ (wsJ0_indexOf_0f7a4_r3 ++ wsJ0_indexOf_0f7a4_r4))))
def wsX3_openWord : List Cond := .code yX3_openWord cX3_openWord 1 none :: ([.fieldLink RX3 78 "SoundLaws$Reader" "place" "I", .fieldLink RX3 88 "SoundLaws$Reader" "wordIsSilent" "Z"] ++ wsX30)
def wsX3_acceptsKind : List Cond := .code yX3_acceptsKind cX3_acceptsKind 2 (some .boolean) :: ([.fieldLink RX3 12 "SoundLaws$Reader" "draft" "LSoundLaws$Stock;", .fieldLink RX3 18 "SoundLaws$Stock" "size" "I", .fieldLink RX3 65 "SoundLaws$Reader" "set" "I", .fieldLink RX3 68 "SoundLaws$Stock" "kinds" "[I", .fieldLink RX3 62 "SoundLaws$Reader" "tongue" "I", .fieldLink RX3 25 "SoundLaws$Reader" "kindIsDue" "Z", .methodLink RX3 72 yX3_openWord, .instanceMethod yX3_openWord, .selects RX3 yX3_openWord yX3_openWord, .initialized RX3, .code yX3_openWord cX3_openWord 1 none, .fieldLink RX3 78 "SoundLaws$Reader" "place" "I", .fieldLink RX3 88 "SoundLaws$Reader" "wordIsSilent" "Z"] ++ wsX30 ++ wsX50)
def wsX3_wordIsWhole : List Cond := .code yX3_wordIsWhole cX3_wordIsWhole 1 (some .boolean) :: ([.fieldLink RX3 62 "SoundLaws$Reader" "tongue" "I", .fieldLink RX3 78 "SoundLaws$Reader" "place" "I", .fieldLink RX3 12 "SoundLaws$Reader" "draft" "LSoundLaws$Stock;", .fieldLink RX3 75 "SoundLaws$Stock" "lengths" "[I", .fieldLink RX3 65 "SoundLaws$Reader" "set" "I"] ++ wsX30 ++ wsX50)
def wsX3_closeWord : List Cond := .code yX3_closeWord cX3_closeWord 1 none :: ([.fieldLink RX3 12 "SoundLaws$Reader" "draft" "LSoundLaws$Stock;", .fieldLink RX3 75 "SoundLaws$Stock" "lengths" "[I", .fieldLink RX3 65 "SoundLaws$Reader" "set" "I", .fieldLink RX3 78 "SoundLaws$Reader" "place" "I", .fieldLink RX3 88 "SoundLaws$Reader" "wordIsSilent" "Z", .fieldLink RX3 29 "SoundLaws$Reader" "hasSilentWord" "Z"] ++ wsX30 ++ wsX50)
def wsX3_endsWord : List Cond := .code yX3_endsWord cX3_endsWord 2 (some .boolean) :: ([.fieldLink RX3 12 "SoundLaws$Reader" "draft" "LSoundLaws$Stock;", .fieldLink RX3 22 "SoundLaws$Stock" "tongues" "I", .fieldLink RX3 62 "SoundLaws$Reader" "tongue" "I", .methodLink RX3 91 yX3_wordIsWhole, .instanceMethod yX3_wordIsWhole, .selects RX3 yX3_wordIsWhole yX3_wordIsWhole, .initialized RX3, .code yX3_wordIsWhole cX3_wordIsWhole 1 (some .boolean), .fieldLink RX3 78 "SoundLaws$Reader" "place" "I", .fieldLink RX3 75 "SoundLaws$Stock" "lengths" "[I", .fieldLink RX3 65 "SoundLaws$Reader" "set" "I", .methodLink RX3 59 yX3_closeWord, .instanceMethod yX3_closeWord, .selects RX3 yX3_closeWord yX3_closeWord, .code yX3_closeWord cX3_closeWord 1 none, .fieldLink RX3 88 "SoundLaws$Reader" "wordIsSilent" "Z", .fieldLink RX3 29 "SoundLaws$Reader" "hasSilentWord" "Z", .methodLink RX3 72 yX3_openWord, .instanceMethod yX3_openWord, .selects RX3 yX3_openWord yX3_openWord, .code yX3_openWord cX3_openWord 1 none] ++ wsX30 ++ wsX50)
def wsX3_setIsWhole : List Cond := .code yX3_setIsWhole cX3_setIsWhole 2 (some .boolean) :: ([.fieldLink RX3 62 "SoundLaws$Reader" "tongue" "I", .fieldLink RX3 12 "SoundLaws$Reader" "draft" "LSoundLaws$Stock;", .fieldLink RX3 22 "SoundLaws$Stock" "tongues" "I", .methodLink RX3 91 yX3_wordIsWhole, .instanceMethod yX3_wordIsWhole, .selects RX3 yX3_wordIsWhole yX3_wordIsWhole, .initialized RX3, .code yX3_wordIsWhole cX3_wordIsWhole 1 (some .boolean), .fieldLink RX3 78 "SoundLaws$Reader" "place" "I", .fieldLink RX3 75 "SoundLaws$Stock" "lengths" "[I", .fieldLink RX3 65 "SoundLaws$Reader" "set" "I"] ++ wsX30 ++ wsX50)
def wsX3_endsSet : List Cond := .code yX3_endsSet cX3_endsSet 1 (some .boolean) :: ([.fieldLink RX3 12 "SoundLaws$Reader" "draft" "LSoundLaws$Stock;", .fieldLink RX3 18 "SoundLaws$Stock" "size" "I", .fieldLink RX3 62 "SoundLaws$Reader" "tongue" "I", .fieldLink RX3 22 "SoundLaws$Stock" "tongues" "I", .fieldLink RX3 25 "SoundLaws$Reader" "kindIsDue" "Z", .methodLink RX3 56 yX3_setIsWhole, .instanceMethod yX3_setIsWhole, .selects RX3 yX3_setIsWhole yX3_setIsWhole, .initialized RX3, .code yX3_setIsWhole cX3_setIsWhole 2 (some .boolean), .methodLink RX3 91 yX3_wordIsWhole, .instanceMethod yX3_wordIsWhole, .selects RX3 yX3_wordIsWhole yX3_wordIsWhole, .code yX3_wordIsWhole cX3_wordIsWhole 1 (some .boolean), .fieldLink RX3 78 "SoundLaws$Reader" "place" "I", .fieldLink RX3 75 "SoundLaws$Stock" "lengths" "[I", .fieldLink RX3 65 "SoundLaws$Reader" "set" "I", .methodLink RX3 59 yX3_closeWord, .instanceMethod yX3_closeWord, .selects RX3 yX3_closeWord yX3_closeWord, .code yX3_closeWord cX3_closeWord 1 none, .fieldLink RX3 88 "SoundLaws$Reader" "wordIsSilent" "Z", .fieldLink RX3 29 "SoundLaws$Reader" "hasSilentWord" "Z"] ++ wsX30 ++ wsX50)
def wsX8_wordAt : List Cond := .code yX8_wordAt cX8_wordAt 2 (some .int) :: ([])
def wsX3_acceptsSound : List Cond := .code yX3_acceptsSound cX3_acceptsSound 3 (some .boolean) :: ([.fieldLink RX3 62 "SoundLaws$Reader" "tongue" "I", .fieldLink RX3 12 "SoundLaws$Reader" "draft" "LSoundLaws$Stock;", .fieldLink RX3 75 "SoundLaws$Stock" "lengths" "[I", .fieldLink RX3 65 "SoundLaws$Reader" "set" "I", .fieldLink RX3 78 "SoundLaws$Reader" "place" "I", .fieldLink RX3 81 "SoundLaws$Stock" "words" "[I", .fieldLink RX3 88 "SoundLaws$Reader" "wordIsSilent" "Z", .static yX8_wordAt, .initialized RX8, .code yX8_wordAt cX8_wordAt 2 (some .int)] ++ wsX30 ++ wsX50)
def wsX3_accepts_r1 : List Cond := [Cond.fieldLink RX3 25 "SoundLaws$Reader" "kindIsDue" "Z", Cond.methodLink RX3 34 yJ0_indexOf_0f7a4, Cond.instanceMethod yJ0_indexOf_0f7a4, Cond.selects RJ0 yJ0_indexOf_0f7a4 yJ0_indexOf_0f7a4, Cond.initialized RJ0, Cond.code yJ0_indexOf_0f7a4 cJ0_indexOf_0f7a4 2 (some .int), Cond.methodLink RJ0 633 yJ0_indexOf_7cf53, Cond.instanceMethod yJ0_indexOf_7cf53, Cond.selects RJ0 yJ0_indexOf_7cf53 yJ0_indexOf_7cf53, Cond.code yJ0_indexOf_7cf53 cJ0_indexOf_7cf53 3 (some .int), Cond.fieldLink RJ0 9 "java/lang/String" "value" "[B", Cond.methodLink RJ0 492 yJ0_isLatin1_aae02, Cond.instanceMethod yJ0_isLatin1_aae02, Cond.selects RJ0 yJ0_isLatin1_aae02 yJ0_isLatin1_aae02, Cond.code yJ0_isLatin1_aae02 cJ0_isLatin1_aae02 1 (some .boolean), Cond.fieldLink RJ0 38 "java/lang/String" "COMPACT_STRINGS" "Z", Cond.fieldLink RJ0 15 "java/lang/String" "coder" "B", Cond.methodLink RJ0 505 yJ0_length_8abf5, Cond.instanceMethod yJ0_length_8abf5, Cond.selects RJ0 yJ0_length_8abf5 yJ0_length_8abf5, Cond.code yJ0_length_8abf5 cJ0_length_8abf5 1 (some .int), Cond.methodLink RJ0 335 yJ0_coder_7d493, Cond.instanceMethod yJ0_coder_7d493, Cond.selects RJ0 yJ0_coder_7d493 yJ0_coder_7d493]
def wsX3_accepts_r2 : List Cond := [Cond.code yJ0_coder_7d493 cJ0_coder_7d493 1 (some .byte), Cond.methodLink RJ0 637 yJ1_indexOf_4cfef, Cond.static yJ1_indexOf_4cfef, Cond.initialized RJ1, Cond.code yJ1_indexOf_4cfef cJ1_indexOf_4cfef 4 (some .int), Cond.methodLink RJ1 92 Lib.Math.max.name, Cond.static Lib.Math.max.name, Cond.initialized "java/lang/Math", Cond.code Lib.Math.max.name Lib.Math.max.code 2 (some .int), Cond.methodLink RJ1 38 Lib.Math.min.name, Cond.static Lib.Math.min.name, Cond.code Lib.Math.min.name Lib.Math.min.code 2 (some .int), Cond.methodLink RJ1 88 yJ1_canEncode_9a6ad, Cond.static yJ1_canEncode_9a6ad, Cond.code yJ1_canEncode_9a6ad cJ1_canEncode_9a6ad 1 (some .boolean), Cond.methodLink RJ1 95 yJ1_indexOfChar_4cfef, Cond.static yJ1_indexOfChar_4cfef, Cond.code yJ1_indexOfChar_4cfef cJ1_indexOfChar_4cfef 6 (some .int), Cond.methodLink RJ0 640 yJ2_indexOf_4cfef, Cond.static yJ2_indexOf_4cfef, Cond.initialized RJ2, Cond.code yJ2_indexOf_4cfef cJ2_indexOf_4cfef 4 (some .int), Cond.methodLink RJ2 224 Lib.Math.max.name, Cond.methodLink RJ2 183 Lib.Math.min.name]
def wsX3_accepts_r3 : List Cond := [Cond.constant RJ2 227 (65536), Cond.methodLink RJ2 228 yJ2_indexOfChar_4cfef, Cond.static yJ2_indexOfChar_4cfef, Cond.code yJ2_indexOfChar_4cfef cJ2_indexOfChar_4cfef 4 (some .int), Cond.methodLink RJ2 96 yJ2_checkBoundsBeginEnd_d044e, Cond.static yJ2_checkBoundsBeginEnd_d044e, Cond.code yJ2_checkBoundsBeginEnd_d044e cJ2_checkBoundsBeginEnd_d044e 3 none, Cond.methodLink RJ2 48 yJ2_length_9d52b, Cond.static yJ2_length_9d52b, Cond.code yJ2_length_9d52b cJ2_length_9d52b 1 (some .int), Cond.methodLink RJ2 241 yJ0_checkBoundsBeginEnd_23922, Cond.static yJ0_checkBoundsBeginEnd_23922, Cond.code yJ0_checkBoundsBeginEnd_23922 cJ0_checkBoundsBeginEnd_23922 3 none, Cond.fieldLink RJ0 1053 "jdk/internal/util/Preconditions" "SIOOBE_FORMATTER" "Ljava/util/function/BiFunction;", Cond.methodLink RJ0 1062 yJ3_checkFromToIndex_8c36e, Cond.static yJ3_checkFromToIndex_8c36e, Cond.initialized RJ3, Cond.code yJ3_checkFromToIndex_8c36e cJ3_checkFromToIndex_8c36e 4 (some .int), Cond.methodLink RJ2 244 yJ2_indexOfCharUnsafe_4cfef, Cond.static yJ2_indexOfCharUnsafe_4cfef, Cond.code yJ2_indexOfCharUnsafe_4cfef cJ2_indexOfCharUnsafe_4cfef 5 (some .int), Cond.methodLink RJ2 71 yJ2_getChar_3b067, Cond.static yJ2_getChar_3b067, Cond.code yJ2_getChar_3b067 cJ2_getChar_3b067 2 (some .char)]
def wsX3_accepts_r4 : List Cond := [Cond.fieldLink RJ2 44 "java/lang/StringUTF16" "$assertionsDisabled" "Z", Cond.fieldLink RJ2 59 "java/lang/StringUTF16" "HI_BYTE_SHIFT" "I", Cond.fieldLink RJ2 63 "java/lang/StringUTF16" "LO_BYTE_SHIFT" "I", Cond.methodLink RJ2 232 yJ2_indexOfSupplementary_4cfef, Cond.static yJ2_indexOfSupplementary_4cfef, Cond.code yJ2_indexOfSupplementary_4cfef cJ2_indexOfSupplementary_4cfef 7 (some .int), Cond.methodLink RJ2 164 yJ11_isValidCodePoint_9a6ad, Cond.static yJ11_isValidCodePoint_9a6ad, Cond.initialized RJ11, Cond.code yJ11_isValidCodePoint_9a6ad cJ11_isValidCodePoint_9a6ad 2 (some .boolean), Cond.methodLink RJ2 157 yJ11_highSurrogate_5068e, Cond.static yJ11_highSurrogate_5068e, Cond.code yJ11_highSurrogate_5068e cJ11_highSurrogate_5068e 1 (some .char), Cond.constant RJ11 110 (55232), Cond.methodLink RJ2 161 yJ11_lowSurrogate_5068e, Cond.static yJ11_lowSurrogate_5068e, Cond.code yJ11_lowSurrogate_5068e cJ11_lowSurrogate_5068e 1 (some .char), Cond.constant RJ11 76 (56320), Cond.methodLink RX3 40 yX3_acceptsKind, Cond.instanceMethod yX3_acceptsKind, Cond.selects RX3 yX3_acceptsKind yX3_acceptsKind, Cond.initialized RX3, Cond.code yX3_acceptsKind cX3_acceptsKind 2 (some .boolean), Cond.fieldLink RX3 12 "SoundLaws$Reader" "draft" "LSoundLaws$Stock;"]
def wsX3_accepts_r5 : List Cond := [Cond.fieldLink RX3 18 "SoundLaws$Stock" "size" "I", Cond.fieldLink RX3 65 "SoundLaws$Reader" "set" "I", Cond.fieldLink RX3 68 "SoundLaws$Stock" "kinds" "[I", Cond.fieldLink RX3 62 "SoundLaws$Reader" "tongue" "I", Cond.methodLink RX3 72 yX3_openWord, Cond.instanceMethod yX3_openWord, Cond.selects RX3 yX3_openWord yX3_openWord, Cond.code yX3_openWord cX3_openWord 1 none, Cond.fieldLink RX3 78 "SoundLaws$Reader" "place" "I", Cond.fieldLink RX3 88 "SoundLaws$Reader" "wordIsSilent" "Z", Cond.methodLink RX3 44 yX3_endsWord, Cond.instanceMethod yX3_endsWord, Cond.selects RX3 yX3_endsWord yX3_endsWord, Cond.code yX3_endsWord cX3_endsWord 2 (some .boolean), Cond.fieldLink RX3 22 "SoundLaws$Stock" "tongues" "I", Cond.methodLink RX3 91 yX3_wordIsWhole, Cond.instanceMethod yX3_wordIsWhole, Cond.selects RX3 yX3_wordIsWhole yX3_wordIsWhole, Cond.code yX3_wordIsWhole cX3_wordIsWhole 1 (some .boolean), Cond.fieldLink RX3 75 "SoundLaws$Stock" "lengths" "[I", Cond.methodLink RX3 59 yX3_closeWord, Cond.instanceMethod yX3_closeWord, Cond.selects RX3 yX3_closeWord yX3_closeWord, Cond.code yX3_closeWord cX3_closeWord 1 none]
def wsX3_accepts_r6 : List Cond := [Cond.fieldLink RX3 29 "SoundLaws$Reader" "hasSilentWord" "Z", Cond.methodLink RX3 48 yX3_endsSet, Cond.instanceMethod yX3_endsSet, Cond.selects RX3 yX3_endsSet yX3_endsSet, Cond.code yX3_endsSet cX3_endsSet 1 (some .boolean), Cond.methodLink RX3 56 yX3_setIsWhole, Cond.instanceMethod yX3_setIsWhole, Cond.selects RX3 yX3_setIsWhole yX3_setIsWhole, Cond.code yX3_setIsWhole cX3_setIsWhole 2 (some .boolean), Cond.methodLink RX3 53 yX3_acceptsSound, Cond.instanceMethod yX3_acceptsSound, Cond.selects RX3 yX3_acceptsSound yX3_acceptsSound, Cond.code yX3_acceptsSound cX3_acceptsSound 3 (some .boolean), Cond.fieldLink RX3 81 "SoundLaws$Stock" "words" "[I", Cond.static yX8_wordAt, Cond.initialized RX8, Cond.code yX8_wordAt cX8_wordAt 2 (some .int)]
def wsX3_accepts : List Cond := .code yX3_accepts cX3_accepts 2 (some .boolean) :: ((wsX3_accepts_r1 ++ (wsX3_accepts_r2 ++ (wsX3_accepts_r3 ++ (wsX3_accepts_r4 ++ (wsX3_accepts_r5 ++ wsX3_accepts_r6))))) ++ wsX30 ++ wsX50)
def wsX3_finish : List Cond := .code yX3_finish cX3_finish 1 (some .boolean) :: ([.fieldLink RX3 25 "SoundLaws$Reader" "kindIsDue" "Z", .fieldLink RX3 12 "SoundLaws$Reader" "draft" "LSoundLaws$Stock;", .fieldLink RX3 62 "SoundLaws$Reader" "tongue" "I", .fieldLink RX3 22 "SoundLaws$Stock" "tongues" "I", .fieldLink RX3 29 "SoundLaws$Reader" "hasSilentWord" "Z", .methodLink RX3 56 yX3_setIsWhole, .instanceMethod yX3_setIsWhole, .selects RX3 yX3_setIsWhole yX3_setIsWhole, .initialized RX3, .code yX3_setIsWhole cX3_setIsWhole 2 (some .boolean), .methodLink RX3 91 yX3_wordIsWhole, .instanceMethod yX3_wordIsWhole, .selects RX3 yX3_wordIsWhole yX3_wordIsWhole, .code yX3_wordIsWhole cX3_wordIsWhole 1 (some .boolean), .fieldLink RX3 78 "SoundLaws$Reader" "place" "I", .fieldLink RX3 75 "SoundLaws$Stock" "lengths" "[I", .fieldLink RX3 65 "SoundLaws$Reader" "set" "I", .methodLink RX3 59 yX3_closeWord, .instanceMethod yX3_closeWord, .selects RX3 yX3_closeWord yX3_closeWord, .code yX3_closeWord cX3_closeWord 1 none, .fieldLink RX3 88 "SoundLaws$Reader" "wordIsSilent" "Z"] ++ wsX30 ++ wsX50)
def wsX4_init : List Cond := .code yX4_init cX4_init 1 none :: ([.methodLink RX4 3 objectInit, .instanceMethod objectInit, .code objectInit ⟨#[0xb1]⟩ 1 none, .arrayClass .int, .fieldLink RX4 9 "SoundLaws$Sightings" "sets" "[I", .fieldLink RX4 15 "SoundLaws$Sightings" "questions" "[I", .arrayClass .boolean, .fieldLink RX4 18 "SoundLaws$Sightings" "answers" "[Z"] ++ wsX40)
def wsX4_clear : List Cond := .code yX4_clear cX4_clear 1 none :: ([.fieldLink RX4 22 "SoundLaws$Sightings" "size" "I"] ++ wsX40)
def wsX4_add : List Cond := .code yX4_add cX4_add 4 none :: ([.fieldLink RX4 9 "SoundLaws$Sightings" "sets" "[I", .fieldLink RX4 22 "SoundLaws$Sightings" "size" "I", .fieldLink RX4 15 "SoundLaws$Sightings" "questions" "[I", .fieldLink RX4 18 "SoundLaws$Sightings" "answers" "[Z"] ++ wsX40)
def wsX4_become : List Cond := .code yX4_become cX4_become 3 none :: ([.fieldLink RX4 22 "SoundLaws$Sightings" "size" "I", .fieldLink RX4 9 "SoundLaws$Sightings" "sets" "[I", .fieldLink RX4 15 "SoundLaws$Sightings" "questions" "[I", .fieldLink RX4 18 "SoundLaws$Sightings" "answers" "[Z", .methodLink RX4 26 yX4_add, .instanceMethod yX4_add, .selects RX4 yX4_add yX4_add, .initialized RX4, .code yX4_add cX4_add 4 none] ++ wsX40)
def wsX4_loseSet : List Cond := .code yX4_loseSet cX4_loseSet 3 none :: ([.fieldLink RX4 22 "SoundLaws$Sightings" "size" "I", .fieldLink RX4 9 "SoundLaws$Sightings" "sets" "[I"] ++ wsX40)
def wsX4_could : List Cond := .code yX4_could cX4_could 2 (some .boolean) :: ([])
def wsX4_sortsThatCould : List Cond := .code yX4_sortsThatCould cX4_sortsThatCould 3 (some .int) :: ([.methodLink RX4 48 yX4_could, .static yX4_could, .initialized RX4, .code yX4_could cX4_could 2 (some .boolean)])
def wsX4_sortsOf : List Cond := .code yX4_sortsOf cX4_sortsOf 5 (some .int) :: ([.fieldLink RX4 22 "SoundLaws$Sightings" "size" "I", .fieldLink RX4 9 "SoundLaws$Sightings" "sets" "[I", .fieldLink RX4 15 "SoundLaws$Sightings" "questions" "[I", .fieldLink RX4 18 "SoundLaws$Sightings" "answers" "[Z", .methodLink RX4 30 yX4_sortsThatCould, .static yX4_sortsThatCould, .initialized RX4, .code yX4_sortsThatCould cX4_sortsThatCould 3 (some .int), .methodLink RX4 48 yX4_could, .static yX4_could, .code yX4_could cX4_could 2 (some .boolean)] ++ wsX40)
def wsJ6_bitCount_0f7a4 : List Cond := .code yJ6_bitCount_0f7a4 cJ6_bitCount_0f7a4 1 (some .int) :: ([.constant RJ6 265 (1431655765), .constant RJ6 266 (858993459), .constant RJ6 267 (252645135)])
def wsX4_questionFor_r1 : List Cond := [Cond.methodLink RX4 42 Lib.Math.max.name, Cond.static Lib.Math.max.name, Cond.initialized "java/lang/Math", Cond.code Lib.Math.max.name Lib.Math.max.code 2 (some .int), Cond.methodLink RX4 34 yX4_sortsOf, Cond.instanceMethod yX4_sortsOf, Cond.selects RX4 yX4_sortsOf yX4_sortsOf, Cond.initialized RX4, Cond.code yX4_sortsOf cX4_sortsOf 5 (some .int), Cond.fieldLink RX4 22 "SoundLaws$Sightings" "size" "I", Cond.fieldLink RX4 9 "SoundLaws$Sightings" "sets" "[I", Cond.fieldLink RX4 15 "SoundLaws$Sightings" "questions" "[I", Cond.fieldLink RX4 18 "SoundLaws$Sightings" "answers" "[Z", Cond.methodLink RX4 30 yX4_sortsThatCould, Cond.static yX4_sortsThatCould, Cond.code yX4_sortsThatCould cX4_sortsThatCould 3 (some .int), Cond.methodLink RX4 48 yX4_could, Cond.static yX4_could, Cond.code yX4_could cX4_could 2 (some .boolean), Cond.methodLink RX4 37 yJ6_bitCount_0f7a4, Cond.static yJ6_bitCount_0f7a4, Cond.initialized RJ6, Cond.code yJ6_bitCount_0f7a4 cJ6_bitCount_0f7a4 1 (some .int), Cond.constant RJ6 265 (1431655765)]
def wsX4_questionFor_r2 : List Cond := [Cond.constant RJ6 266 (858993459), Cond.constant RJ6 267 (252645135)]
def wsX4_questionFor : List Cond := .code yX4_questionFor cX4_questionFor 8 (some .int) :: ((wsX4_questionFor_r1 ++ wsX4_questionFor_r2) ++ wsX40)
def wsX5_become : List Cond := .code yX5_become cX5_become 2 none :: ([.fieldLink RX5 21 "SoundLaws$Stock" "size" "I", .fieldLink RX5 25 "SoundLaws$Stock" "tongues" "I", .fieldLink RX5 9 "SoundLaws$Stock" "kinds" "[I", .methodLink RX5 28 arraycopyName, .native arraycopyName, .static arraycopyName, .initialized "java/lang/System", .fieldLink RX5 15 "SoundLaws$Stock" "lengths" "[I", .fieldLink RX5 18 "SoundLaws$Stock" "words" "[I"] ++ wsX50)
def wsX5_putOver : List Cond := .code yX5_putOver cX5_putOver 3 none :: ([.fieldLink RX5 9 "SoundLaws$Stock" "kinds" "[I", .fieldLink RX5 15 "SoundLaws$Stock" "lengths" "[I", .fieldLink RX5 18 "SoundLaws$Stock" "words" "[I", .methodLink RX5 28 arraycopyName, .native arraycopyName, .static arraycopyName, .initialized "java/lang/System", .static yX8_wordAt, .initialized RX8, .code yX8_wordAt cX8_wordAt 2 (some .int)] ++ wsX50)
def wsX5_remove : List Cond := .code yX5_remove cX5_remove 3 none :: ([.fieldLink RX5 21 "SoundLaws$Stock" "size" "I", .methodLink RX5 38 yX5_putOver, .instanceMethod yX5_putOver, .selects RX5 yX5_putOver yX5_putOver, .initialized RX5, .code yX5_putOver cX5_putOver 3 none, .fieldLink RX5 9 "SoundLaws$Stock" "kinds" "[I", .fieldLink RX5 15 "SoundLaws$Stock" "lengths" "[I", .fieldLink RX5 18 "SoundLaws$Stock" "words" "[I", .methodLink RX5 28 arraycopyName, .native arraycopyName, .static arraycopyName, .initialized "java/lang/System", .static yX8_wordAt, .initialized RX8, .code yX8_wordAt cX8_wordAt 2 (some .int)] ++ wsX50)
def wsX5_exchange : List Cond := .code yX5_exchange cX5_exchange 8 none :: ([.fieldLink RX5 21 "SoundLaws$Stock" "size" "I", .fieldLink RX5 15 "SoundLaws$Stock" "lengths" "[I", .fieldLink RX5 18 "SoundLaws$Stock" "words" "[I", .static yX8_wordAt, .initialized RX8, .code yX8_wordAt cX8_wordAt 2 (some .int)] ++ wsX50)
def wsX5_isSilentBut : List Cond := .code yX5_isSilentBut cX5_isSilentBut 5 (some .boolean) :: ([.fieldLink RX5 15 "SoundLaws$Stock" "lengths" "[I", .fieldLink RX5 18 "SoundLaws$Stock" "words" "[I", .static yX8_wordAt, .initialized RX8, .code yX8_wordAt cX8_wordAt 2 (some .int)] ++ wsX50)
def wsX6_init_r1 : List Cond := [Cond.methodLink RX6 3 objectInit, Cond.instanceMethod objectInit, Cond.code objectInit ⟨#[0xb1]⟩ 1 none, Cond.arrayClass .int, Cond.fieldLink RX6 9 "SoundLaws$Study" "sounds" "[I", Cond.fieldLink RX6 15 "SoundLaws$Study" "changes" "[I", Cond.fieldLink RX6 18 "SoundLaws$Study" "strangePlaces" "[I", Cond.classLink RX6 21 RX2, Cond.instantiable RX2 6, Cond.initialized RX2, Cond.fieldLink RX6 24 "SoundLaws$Study" "laws" "LSoundLaws$Laws;", Cond.classLink RX6 28 RX7, Cond.instantiable RX7 3, Cond.initialized RX7, Cond.fieldLink RX6 31 "SoundLaws$Study" "tree" "LSoundLaws$Tree;", Cond.instanceMethod yX2_init, Cond.code yX2_init cX2_init 1 none, Cond.methodLink RX2 3 objectInit, Cond.fieldLink RX2 9 "SoundLaws$Laws" "becomes" "[I", Cond.fieldLink RX2 15 "SoundLaws$Laws" "follows" "[I", Cond.fieldLink RX2 18 "SoundLaws$Laws" "exceptions" "[I", Cond.fieldLink RX2 21 "SoundLaws$Laws" "weights" "[I", Cond.instanceMethod yX7_init, Cond.code yX7_init cX7_init 1 none]
def wsX6_init_r2 : List Cond := [Cond.methodLink RX7 3 objectInit, Cond.fieldLink RX7 9 "SoundLaws$Tree" "sounds" "[I", Cond.fieldLink RX7 15 "SoundLaws$Tree" "least" "[I"]
def wsX6_init : List Cond := .code yX6_init cX6_init 1 none :: ((wsX6_init_r1 ++ wsX6_init_r2) ++ wsX60 ++ wsX20 ++ wsX70)
def wsX7_settle : List Cond := .code yX7_settle cX7_settle 7 none :: ([.fieldLink RX7 18 "SoundLaws$Tree" "tongues" "I", .fieldLink RX7 15 "SoundLaws$Tree" "least" "[I", .fieldLink RX7 9 "SoundLaws$Tree" "sounds" "[I", .static yX8_costOf, .initialized RX8, .code yX8_costOf cX8_costOf 2 (some .int), .fieldLink RX8 288 "SoundLaws" "COSTS" "[I"] ++ wsX70)
def wsX7_descend : List Cond := .code yX7_descend cX7_descend 3 none :: ([.fieldLink RX7 18 "SoundLaws$Tree" "tongues" "I", .fieldLink RX7 9 "SoundLaws$Tree" "sounds" "[I", .methodLink RX7 36 yX7_root, .instanceMethod yX7_root, .selects RX7 yX7_root yX7_root, .initialized RX7, .code yX7_root cX7_root 1 (some .int), .static yX8_nodesOf, .initialized RX8, .code yX8_nodesOf cX8_nodesOf 1 (some .int), .methodLink RX7 26 yX7_pairOf, .instanceMethod yX7_pairOf, .selects RX7 yX7_pairOf yX7_pairOf, .code yX7_pairOf cX7_pairOf 2 (some .int), .methodLink RX7 40 yX7_settle, .instanceMethod yX7_settle, .selects RX7 yX7_settle yX7_settle, .code yX7_settle cX7_settle 7 none, .fieldLink RX7 15 "SoundLaws$Tree" "least" "[I", .static yX8_costOf, .code yX8_costOf cX8_costOf 2 (some .int), .fieldLink RX8 288 "SoundLaws" "COSTS" "[I"] ++ wsX70)
def wsX8_nodesAt : List Cond := .code yX8_nodesAt cX8_nodesAt 2 (some .int) :: ([])
def wsX6_rebuild_r1 : List Cond := [Cond.fieldLink RX6 15 "SoundLaws$Study" "changes" "[I", Cond.fieldLink RX6 90 "SoundLaws$Stock" "kinds" "[I", Cond.fieldLink RX6 75 "SoundLaws$Stock" "lengths" "[I", Cond.fieldLink RX6 35 "SoundLaws$Stock" "tongues" "I", Cond.fieldLink RX6 31 "SoundLaws$Study" "tree" "LSoundLaws$Tree;", Cond.fieldLink RX6 93 "SoundLaws$Tree" "sounds" "[I", Cond.fieldLink RX6 94 "SoundLaws$Stock" "words" "[I", Cond.fieldLink RX6 9 "SoundLaws$Study" "sounds" "[I", Cond.methodLink RX6 107 arraycopyName, Cond.native arraycopyName, Cond.static arraycopyName, Cond.initialized "java/lang/System", Cond.fieldLink RX6 45 "SoundLaws$Study" "changesOfAll" "I", Cond.static yX8_wordAt, Cond.initialized RX8, Cond.code yX8_wordAt cX8_wordAt 2 (some .int), Cond.methodLink RX6 100 yX7_climb, Cond.instanceMethod yX7_climb, Cond.selects RX7 yX7_climb yX7_climb, Cond.initialized RX7, Cond.code yX7_climb cX7_climb 5 (some .int), Cond.fieldLink RX7 18 "SoundLaws$Tree" "tongues" "I", Cond.fieldLink RX7 15 "SoundLaws$Tree" "least" "[I", Cond.fieldLink RX7 9 "SoundLaws$Tree" "sounds" "[I"]
def wsX6_rebuild_r2 : List Cond := [Cond.static yX8_nodesOf, Cond.code yX8_nodesOf cX8_nodesOf 1 (some .int), Cond.methodLink RX7 26 yX7_pairOf, Cond.instanceMethod yX7_pairOf, Cond.selects RX7 yX7_pairOf yX7_pairOf, Cond.code yX7_pairOf cX7_pairOf 2 (some .int), Cond.methodLink RX7 32 yX7_leastBelow, Cond.instanceMethod yX7_leastBelow, Cond.selects RX7 yX7_leastBelow yX7_leastBelow, Cond.code yX7_leastBelow cX7_leastBelow 8 (some .int), Cond.methodLink RX6 104 yX7_descend, Cond.instanceMethod yX7_descend, Cond.selects RX7 yX7_descend yX7_descend, Cond.code yX7_descend cX7_descend 3 none, Cond.methodLink RX7 36 yX7_root, Cond.instanceMethod yX7_root, Cond.selects RX7 yX7_root yX7_root, Cond.code yX7_root cX7_root 1 (some .int), Cond.methodLink RX7 40 yX7_settle, Cond.instanceMethod yX7_settle, Cond.selects RX7 yX7_settle yX7_settle, Cond.code yX7_settle cX7_settle 7 none, Cond.static yX8_costOf, Cond.code yX8_costOf cX8_costOf 2 (some .int)]
def wsX6_rebuild_r3 : List Cond := [Cond.fieldLink RX8 288 "SoundLaws" "COSTS" "[I", Cond.static yX8_nodesAt, Cond.code yX8_nodesAt cX8_nodesAt 2 (some .int)]
def wsX6_rebuild : List Cond := .code yX6_rebuild cX6_rebuild 6 none :: ((wsX6_rebuild_r1 ++ (wsX6_rebuild_r2 ++ wsX6_rebuild_r3)) ++ wsX60 ++ wsX50 ++ wsX70)
def wsX6_oldSound : List Cond := .code yX6_oldSound cX6_oldSound 4 (some .int) :: ([.fieldLink RX6 9 "SoundLaws$Study" "sounds" "[I", .fieldLink RX6 35 "SoundLaws$Stock" "tongues" "I", .static yX8_nodesAt, .initialized RX8, .code yX8_nodesAt cX8_nodesAt 2 (some .int), .static yX8_nodesOf, .code yX8_nodesOf cX8_nodesOf 1 (some .int)] ++ wsX60 ++ wsX50)
def wsX8_aheadAt : List Cond := .code yX8_aheadAt cX8_aheadAt 1 (some .int) :: ([])
def wsX8_lawAt : List Cond := .code yX8_lawAt cX8_lawAt 3 (some .int) :: ([])
def wsX6_weigh_r1 : List Cond := [Cond.fieldLink RX6 90 "SoundLaws$Stock" "kinds" "[I", Cond.fieldLink RX6 75 "SoundLaws$Stock" "lengths" "[I", Cond.fieldLink RX6 35 "SoundLaws$Stock" "tongues" "I", Cond.fieldLink RX6 94 "SoundLaws$Stock" "words" "[I", Cond.fieldLink RX6 24 "SoundLaws$Study" "laws" "LSoundLaws$Laws;", Cond.methodLink RX6 116 yX6_oldSound, Cond.instanceMethod yX6_oldSound, Cond.selects RX6 yX6_oldSound yX6_oldSound, Cond.initialized RX6, Cond.code yX6_oldSound cX6_oldSound 4 (some .int), Cond.fieldLink RX6 9 "SoundLaws$Study" "sounds" "[I", Cond.static yX8_nodesAt, Cond.initialized RX8, Cond.code yX8_nodesAt cX8_nodesAt 2 (some .int), Cond.static yX8_nodesOf, Cond.code yX8_nodesOf cX8_nodesOf 1 (some .int), Cond.static yX8_wordAt, Cond.code yX8_wordAt cX8_wordAt 2 (some .int), Cond.static yX8_aheadAt, Cond.code yX8_aheadAt cX8_aheadAt 1 (some .int), Cond.static yX8_lawAt, Cond.code yX8_lawAt cX8_lawAt 3 (some .int), Cond.methodLink RX6 127 yX2_weigh, Cond.instanceMethod yX2_weigh]
def wsX6_weigh_r2 : List Cond := [Cond.selects RX2 yX2_weigh yX2_weigh, Cond.initialized RX2, Cond.code yX2_weigh cX2_weigh 4 none, Cond.fieldLink RX2 21 "SoundLaws$Laws" "weights" "[I"]
def wsX6_weigh : List Cond := .code yX6_weigh cX6_weigh 8 none :: ((wsX6_weigh_r1 ++ wsX6_weigh_r2) ++ wsX50 ++ wsX60 ++ wsX20)
def wsX6_findStrange : List Cond := .code yX6_findStrange cX6_findStrange 8 none :: ([.fieldLink RX6 18 "SoundLaws$Study" "strangePlaces" "[I", .fieldLink RX6 90 "SoundLaws$Stock" "kinds" "[I", .fieldLink RX6 75 "SoundLaws$Stock" "lengths" "[I", .fieldLink RX6 35 "SoundLaws$Stock" "tongues" "I", .fieldLink RX6 24 "SoundLaws$Study" "laws" "LSoundLaws$Laws;", .fieldLink RX6 130 "SoundLaws$Laws" "becomes" "[I", .fieldLink RX6 94 "SoundLaws$Stock" "words" "[I", .methodLink RX6 116 yX6_oldSound, .instanceMethod yX6_oldSound, .selects RX6 yX6_oldSound yX6_oldSound, .initialized RX6, .code yX6_oldSound cX6_oldSound 4 (some .int), .fieldLink RX6 9 "SoundLaws$Study" "sounds" "[I", .static yX8_nodesAt, .initialized RX8, .code yX8_nodesAt cX8_nodesAt 2 (some .int), .static yX8_nodesOf, .code yX8_nodesOf cX8_nodesOf 1 (some .int), .static yX8_aheadAt, .code yX8_aheadAt cX8_aheadAt 1 (some .int), .static yX8_lawAt, .code yX8_lawAt cX8_lawAt 3 (some .int), .static yX8_wordAt, .code yX8_wordAt cX8_wordAt 2 (some .int)] ++ wsX60 ++ wsX50 ++ wsX20)
def wsX6_renew_r1 : List Cond := [Cond.fieldLink RX6 31 "SoundLaws$Study" "tree" "LSoundLaws$Tree;", Cond.fieldLink RX6 35 "SoundLaws$Stock" "tongues" "I", Cond.fieldLink RX6 45 "SoundLaws$Study" "changesOfAll" "I", Cond.fieldLink RX6 48 "SoundLaws$Stock" "size" "I", Cond.fieldLink RX6 24 "SoundLaws$Study" "laws" "LSoundLaws$Laws;", Cond.methodLink RX6 41 yX7_plant, Cond.instanceMethod yX7_plant, Cond.selects RX7 yX7_plant yX7_plant, Cond.initialized RX7, Cond.code yX7_plant cX7_plant 2 none, Cond.fieldLink RX7 18 "SoundLaws$Tree" "tongues" "I", Cond.methodLink RX6 51 yX6_rebuild, Cond.instanceMethod yX6_rebuild, Cond.selects RX6 yX6_rebuild yX6_rebuild, Cond.initialized RX6, Cond.code yX6_rebuild cX6_rebuild 6 none, Cond.fieldLink RX6 15 "SoundLaws$Study" "changes" "[I", Cond.fieldLink RX6 90 "SoundLaws$Stock" "kinds" "[I", Cond.fieldLink RX6 75 "SoundLaws$Stock" "lengths" "[I", Cond.fieldLink RX6 93 "SoundLaws$Tree" "sounds" "[I", Cond.fieldLink RX6 94 "SoundLaws$Stock" "words" "[I", Cond.fieldLink RX6 9 "SoundLaws$Study" "sounds" "[I", Cond.methodLink RX6 107 arraycopyName, Cond.native arraycopyName]
def wsX6_renew_r2 : List Cond := [Cond.static arraycopyName, Cond.initialized "java/lang/System", Cond.static yX8_wordAt, Cond.initialized RX8, Cond.code yX8_wordAt cX8_wordAt 2 (some .int), Cond.methodLink RX6 100 yX7_climb, Cond.instanceMethod yX7_climb, Cond.selects RX7 yX7_climb yX7_climb, Cond.code yX7_climb cX7_climb 5 (some .int), Cond.fieldLink RX7 15 "SoundLaws$Tree" "least" "[I", Cond.fieldLink RX7 9 "SoundLaws$Tree" "sounds" "[I", Cond.static yX8_nodesOf, Cond.code yX8_nodesOf cX8_nodesOf 1 (some .int), Cond.methodLink RX7 26 yX7_pairOf, Cond.instanceMethod yX7_pairOf, Cond.selects RX7 yX7_pairOf yX7_pairOf, Cond.code yX7_pairOf cX7_pairOf 2 (some .int), Cond.methodLink RX7 32 yX7_leastBelow, Cond.instanceMethod yX7_leastBelow, Cond.selects RX7 yX7_leastBelow yX7_leastBelow, Cond.code yX7_leastBelow cX7_leastBelow 8 (some .int), Cond.methodLink RX6 104 yX7_descend, Cond.instanceMethod yX7_descend, Cond.selects RX7 yX7_descend yX7_descend]
def wsX6_renew_r3 : List Cond := [Cond.code yX7_descend cX7_descend 3 none, Cond.methodLink RX7 36 yX7_root, Cond.instanceMethod yX7_root, Cond.selects RX7 yX7_root yX7_root, Cond.code yX7_root cX7_root 1 (some .int), Cond.methodLink RX7 40 yX7_settle, Cond.instanceMethod yX7_settle, Cond.selects RX7 yX7_settle yX7_settle, Cond.code yX7_settle cX7_settle 7 none, Cond.static yX8_costOf, Cond.code yX8_costOf cX8_costOf 2 (some .int), Cond.fieldLink RX8 288 "SoundLaws" "COSTS" "[I", Cond.static yX8_nodesAt, Cond.code yX8_nodesAt cX8_nodesAt 2 (some .int), Cond.methodLink RX6 55 yX2_clear, Cond.instanceMethod yX2_clear, Cond.selects RX2 yX2_clear yX2_clear, Cond.initialized RX2, Cond.code yX2_clear cX2_clear 1 none, Cond.fieldLink RX2 21 "SoundLaws$Laws" "weights" "[I", Cond.methodLink RX2 24 yJ7_fill_53178, Cond.static yJ7_fill_53178, Cond.initialized RJ7, Cond.code yJ7_fill_53178 cJ7_fill_53178 4 none]
def wsX6_renew_r4 : List Cond := [Cond.methodLink RX6 58 yX6_weigh, Cond.instanceMethod yX6_weigh, Cond.selects RX6 yX6_weigh yX6_weigh, Cond.code yX6_weigh cX6_weigh 8 none, Cond.methodLink RX6 116 yX6_oldSound, Cond.instanceMethod yX6_oldSound, Cond.selects RX6 yX6_oldSound yX6_oldSound, Cond.code yX6_oldSound cX6_oldSound 4 (some .int), Cond.static yX8_aheadAt, Cond.code yX8_aheadAt cX8_aheadAt 1 (some .int), Cond.static yX8_lawAt, Cond.code yX8_lawAt cX8_lawAt 3 (some .int), Cond.methodLink RX6 127 yX2_weigh, Cond.instanceMethod yX2_weigh, Cond.selects RX2 yX2_weigh yX2_weigh, Cond.code yX2_weigh cX2_weigh 4 none, Cond.methodLink RX6 61 yX2_settle, Cond.instanceMethod yX2_settle, Cond.selects RX2 yX2_settle yX2_settle, Cond.code yX2_settle cX2_settle 3 none, Cond.fieldLink RX2 30 "SoundLaws$Laws" "known" "I", Cond.fieldLink RX2 34 "SoundLaws$Laws" "exceptionsOfAll" "I", Cond.fieldLink RX2 9 "SoundLaws$Laws" "becomes" "[I", Cond.fieldLink RX2 18 "SoundLaws$Laws" "exceptions" "[I"]
def wsX6_renew_r5 : List Cond := [Cond.methodLink RX2 37 yX2_settleLaw, Cond.instanceMethod yX2_settleLaw, Cond.selects RX2 yX2_settleLaw yX2_settleLaw, Cond.code yX2_settleLaw cX2_settleLaw 7 none, Cond.fieldLink RX2 15 "SoundLaws$Laws" "follows" "[I", Cond.methodLink RX6 64 yX6_findStrange, Cond.instanceMethod yX6_findStrange, Cond.selects RX6 yX6_findStrange yX6_findStrange, Cond.code yX6_findStrange cX6_findStrange 8 none, Cond.fieldLink RX6 18 "SoundLaws$Study" "strangePlaces" "[I", Cond.fieldLink RX6 130 "SoundLaws$Laws" "becomes" "[I"]
def wsX6_renew : List Cond := .code yX6_renew cX6_renew 3 none :: ((wsX6_renew_r1 ++ (wsX6_renew_r2 ++ (wsX6_renew_r3 ++ (wsX6_renew_r4 ++ wsX6_renew_r5)))) ++ wsX60 ++ wsX50 ++ wsX70 ++ wsX20)
def wsX6_strangeInSet : List Cond := .code yX6_strangeInSet cX6_strangeInSet 4 (some .int) :: ([.fieldLink RX6 18 "SoundLaws$Study" "strangePlaces" "[I"] ++ wsX60)
def wsX6_borrowedTongues : List Cond := .code yX6_borrowedTongues cX6_borrowedTongues 6 (some .int) :: ([.fieldLink RX6 35 "SoundLaws$Stock" "tongues" "I", .fieldLink RX6 18 "SoundLaws$Study" "strangePlaces" "[I", .fieldLink RX6 75 "SoundLaws$Stock" "lengths" "[I"] ++ wsX50 ++ wsX60)
def wsX6_borrowedWords : List Cond := .code yX6_borrowedWords cX6_borrowedWords 4 (some .int) :: ([.fieldLink RX6 48 "SoundLaws$Stock" "size" "I", .methodLink RX6 78 yX6_borrowedTongues, .instanceMethod yX6_borrowedTongues, .selects RX6 yX6_borrowedTongues yX6_borrowedTongues, .initialized RX6, .code yX6_borrowedTongues cX6_borrowedTongues 6 (some .int), .fieldLink RX6 35 "SoundLaws$Stock" "tongues" "I", .fieldLink RX6 18 "SoundLaws$Study" "strangePlaces" "[I", .fieldLink RX6 75 "SoundLaws$Stock" "lengths" "[I", .methodLink RX6 82 yJ6_bitCount_0f7a4, .static yJ6_bitCount_0f7a4, .initialized RJ6, .code yJ6_bitCount_0f7a4 cJ6_bitCount_0f7a4 1 (some .int), .constant RJ6 265 (1431655765), .constant RJ6 266 (858993459), .constant RJ6 267 (252645135)] ++ wsX50 ++ wsX60)
def wsX8_init_r1 : List Cond := [Cond.methodLink RX8 1 objectInit, Cond.instanceMethod objectInit, Cond.code objectInit ⟨#[0xb1]⟩ 1 none, Cond.arrayClass .int, Cond.fieldLink RX8 9 "SoundLaws" "page" "[I", Cond.classLink RX8 13 RX3, Cond.instantiable RX3 7, Cond.initialized RX3, Cond.fieldLink RX8 16 "SoundLaws" "reader" "LSoundLaws$Reader;", Cond.classLink RX8 20 RX5, Cond.instantiable RX5 5, Cond.initialized RX5, Cond.fieldLink RX8 23 "SoundLaws" "stock" "LSoundLaws$Stock;", Cond.classLink RX8 27 RX4, Cond.instantiable RX4 4, Cond.initialized RX4, Cond.fieldLink RX8 30 "SoundLaws" "sightings" "LSoundLaws$Sightings;", Cond.classLink RX8 34 RX6, Cond.instantiable RX6 6, Cond.initialized RX6, Cond.fieldLink RX8 37 "SoundLaws" "study" "LSoundLaws$Study;", Cond.fieldLink RX8 41 "SoundLaws" "keptStock" "LSoundLaws$Stock;", Cond.fieldLink RX8 44 "SoundLaws" "keptSightings" "LSoundLaws$Sightings;", Cond.classLink RX8 47 RX0]
def wsX8_init_r2 : List Cond := [Cond.instantiable RX0 5, Cond.initialized RX0, Cond.fieldLink RX8 50 "SoundLaws" "aligner" "LSoundLaws$Aligner;", Cond.classLink RX8 54 RX1, Cond.instantiable RX1 4, Cond.initialized RX1, Cond.fieldLink RX8 57 "SoundLaws" "draws" "LSoundLaws$Draws;", Cond.instanceMethod yX3_init, Cond.code yX3_init cX3_init 1 none, Cond.methodLink RX3 3 objectInit, Cond.classLink RX3 9 RX5, Cond.fieldLink RX3 12 "SoundLaws$Reader" "draft" "LSoundLaws$Stock;", Cond.instanceMethod yX5_init, Cond.code yX5_init cX5_init 1 none, Cond.methodLink RX5 3 objectInit, Cond.fieldLink RX5 9 "SoundLaws$Stock" "kinds" "[I", Cond.fieldLink RX5 15 "SoundLaws$Stock" "lengths" "[I", Cond.fieldLink RX5 18 "SoundLaws$Stock" "words" "[I", Cond.instanceMethod yX4_init, Cond.code yX4_init cX4_init 1 none, Cond.methodLink RX4 3 objectInit, Cond.fieldLink RX4 9 "SoundLaws$Sightings" "sets" "[I", Cond.fieldLink RX4 15 "SoundLaws$Sightings" "questions" "[I", Cond.arrayClass .boolean]
def wsX8_init_r3 : List Cond := [Cond.fieldLink RX4 18 "SoundLaws$Sightings" "answers" "[Z", Cond.instanceMethod yX6_init, Cond.code yX6_init cX6_init 1 none, Cond.methodLink RX6 3 objectInit, Cond.fieldLink RX6 9 "SoundLaws$Study" "sounds" "[I", Cond.fieldLink RX6 15 "SoundLaws$Study" "changes" "[I", Cond.fieldLink RX6 18 "SoundLaws$Study" "strangePlaces" "[I", Cond.classLink RX6 21 RX2, Cond.instantiable RX2 6, Cond.initialized RX2, Cond.fieldLink RX6 24 "SoundLaws$Study" "laws" "LSoundLaws$Laws;", Cond.classLink RX6 28 RX7, Cond.instantiable RX7 3, Cond.initialized RX7, Cond.fieldLink RX6 31 "SoundLaws$Study" "tree" "LSoundLaws$Tree;", Cond.instanceMethod yX2_init, Cond.code yX2_init cX2_init 1 none, Cond.methodLink RX2 3 objectInit, Cond.fieldLink RX2 9 "SoundLaws$Laws" "becomes" "[I", Cond.fieldLink RX2 15 "SoundLaws$Laws" "follows" "[I", Cond.fieldLink RX2 18 "SoundLaws$Laws" "exceptions" "[I", Cond.fieldLink RX2 21 "SoundLaws$Laws" "weights" "[I", Cond.instanceMethod yX7_init, Cond.code yX7_init cX7_init 1 none]
def wsX8_init_r4 : List Cond := [Cond.methodLink RX7 3 objectInit, Cond.fieldLink RX7 9 "SoundLaws$Tree" "sounds" "[I", Cond.fieldLink RX7 15 "SoundLaws$Tree" "least" "[I", Cond.instanceMethod yX0_init, Cond.code yX0_init cX0_init 1 none, Cond.methodLink RX0 3 objectInit, Cond.fieldLink RX0 9 "SoundLaws$Aligner" "first" "[I", Cond.fieldLink RX0 15 "SoundLaws$Aligner" "second" "[I", Cond.fieldLink RX0 18 "SoundLaws$Aligner" "row" "[I", Cond.instanceMethod yX1_init, Cond.code yX1_init cX1_init 1 none, Cond.methodLink RX1 3 objectInit, Cond.classLink RX1 9 RX7, Cond.fieldLink RX1 12 "SoundLaws$Draws" "tree" "LSoundLaws$Tree;"]
def wsX8_init : List Cond := .code yX8_init cX8_init 1 none :: ((wsX8_init_r1 ++ (wsX8_init_r2 ++ (wsX8_init_r3 ++ wsX8_init_r4))) ++ wsX80 ++ wsX30 ++ wsX50 ++ wsX40 ++ wsX60 ++ wsX00 ++ wsX10 ++ wsX20 ++ wsX70)
def wsX8_letter : List Cond := .code yX8_letter cX8_letter 2 (some .int) :: ([.fieldLink RX8 61 "SoundLaws" "letters" "I", .fieldLink RX8 9 "SoundLaws" "page" "[I"] ++ wsX80)
def wsX8_blank : List Cond := .code yX8_blank cX8_blank 2 (some .int) :: ([.fieldLink RX8 61 "SoundLaws" "letters" "I"] ++ wsX80)
def wsX8_readPage_r1 : List Cond := [Cond.fieldLink RX8 16 "SoundLaws" "reader" "LSoundLaws$Reader;", Cond.fieldLink RX8 61 "SoundLaws" "letters" "I", Cond.fieldLink RX8 9 "SoundLaws" "page" "[I", Cond.methodLink RX8 248 yX3_start, Cond.instanceMethod yX3_start, Cond.selects RX3 yX3_start yX3_start, Cond.initialized RX3, Cond.code yX3_start cX3_start 1 none, Cond.fieldLink RX3 12 "SoundLaws$Reader" "draft" "LSoundLaws$Stock;", Cond.fieldLink RX3 18 "SoundLaws$Stock" "size" "I", Cond.fieldLink RX3 22 "SoundLaws$Stock" "tongues" "I", Cond.fieldLink RX3 25 "SoundLaws$Reader" "kindIsDue" "Z", Cond.fieldLink RX3 29 "SoundLaws$Reader" "hasSilentWord" "Z", Cond.methodLink RX8 251 yX3_accepts, Cond.instanceMethod yX3_accepts, Cond.selects RX3 yX3_accepts yX3_accepts, Cond.code yX3_accepts cX3_accepts 2 (some .boolean), Cond.methodLink RX3 34 yJ0_indexOf_0f7a4, Cond.instanceMethod yJ0_indexOf_0f7a4, Cond.selects RJ0 yJ0_indexOf_0f7a4 yJ0_indexOf_0f7a4, Cond.initialized RJ0, Cond.code yJ0_indexOf_0f7a4 cJ0_indexOf_0f7a4 2 (some .int), Cond.methodLink RJ0 633 yJ0_indexOf_7cf53, Cond.instanceMethod yJ0_indexOf_7cf53]
def wsX8_readPage_r2 : List Cond := [Cond.selects RJ0 yJ0_indexOf_7cf53 yJ0_indexOf_7cf53, Cond.code yJ0_indexOf_7cf53 cJ0_indexOf_7cf53 3 (some .int), Cond.fieldLink RJ0 9 "java/lang/String" "value" "[B", Cond.methodLink RJ0 492 yJ0_isLatin1_aae02, Cond.instanceMethod yJ0_isLatin1_aae02, Cond.selects RJ0 yJ0_isLatin1_aae02 yJ0_isLatin1_aae02, Cond.code yJ0_isLatin1_aae02 cJ0_isLatin1_aae02 1 (some .boolean), Cond.fieldLink RJ0 38 "java/lang/String" "COMPACT_STRINGS" "Z", Cond.fieldLink RJ0 15 "java/lang/String" "coder" "B", Cond.methodLink RJ0 505 yJ0_length_8abf5, Cond.instanceMethod yJ0_length_8abf5, Cond.selects RJ0 yJ0_length_8abf5 yJ0_length_8abf5, Cond.code yJ0_length_8abf5 cJ0_length_8abf5 1 (some .int), Cond.methodLink RJ0 335 yJ0_coder_7d493, Cond.instanceMethod yJ0_coder_7d493, Cond.selects RJ0 yJ0_coder_7d493 yJ0_coder_7d493, Cond.code yJ0_coder_7d493 cJ0_coder_7d493 1 (some .byte), Cond.methodLink RJ0 637 yJ1_indexOf_4cfef, Cond.static yJ1_indexOf_4cfef, Cond.initialized RJ1, Cond.code yJ1_indexOf_4cfef cJ1_indexOf_4cfef 4 (some .int), Cond.methodLink RJ1 92 Lib.Math.max.name, Cond.static Lib.Math.max.name, Cond.initialized "java/lang/Math"]
def wsX8_readPage_r3 : List Cond := [Cond.code Lib.Math.max.name Lib.Math.max.code 2 (some .int), Cond.methodLink RJ1 38 Lib.Math.min.name, Cond.static Lib.Math.min.name, Cond.code Lib.Math.min.name Lib.Math.min.code 2 (some .int), Cond.methodLink RJ1 88 yJ1_canEncode_9a6ad, Cond.static yJ1_canEncode_9a6ad, Cond.code yJ1_canEncode_9a6ad cJ1_canEncode_9a6ad 1 (some .boolean), Cond.methodLink RJ1 95 yJ1_indexOfChar_4cfef, Cond.static yJ1_indexOfChar_4cfef, Cond.code yJ1_indexOfChar_4cfef cJ1_indexOfChar_4cfef 6 (some .int), Cond.methodLink RJ0 640 yJ2_indexOf_4cfef, Cond.static yJ2_indexOf_4cfef, Cond.initialized RJ2, Cond.code yJ2_indexOf_4cfef cJ2_indexOf_4cfef 4 (some .int), Cond.methodLink RJ2 224 Lib.Math.max.name, Cond.methodLink RJ2 183 Lib.Math.min.name, Cond.constant RJ2 227 (65536), Cond.methodLink RJ2 228 yJ2_indexOfChar_4cfef, Cond.static yJ2_indexOfChar_4cfef, Cond.code yJ2_indexOfChar_4cfef cJ2_indexOfChar_4cfef 4 (some .int), Cond.methodLink RJ2 96 yJ2_checkBoundsBeginEnd_d044e, Cond.static yJ2_checkBoundsBeginEnd_d044e, Cond.code yJ2_checkBoundsBeginEnd_d044e cJ2_checkBoundsBeginEnd_d044e 3 none, Cond.methodLink RJ2 48 yJ2_length_9d52b]
def wsX8_readPage_r4 : List Cond := [Cond.static yJ2_length_9d52b, Cond.code yJ2_length_9d52b cJ2_length_9d52b 1 (some .int), Cond.methodLink RJ2 241 yJ0_checkBoundsBeginEnd_23922, Cond.static yJ0_checkBoundsBeginEnd_23922, Cond.code yJ0_checkBoundsBeginEnd_23922 cJ0_checkBoundsBeginEnd_23922 3 none, Cond.fieldLink RJ0 1053 "jdk/internal/util/Preconditions" "SIOOBE_FORMATTER" "Ljava/util/function/BiFunction;", Cond.methodLink RJ0 1062 yJ3_checkFromToIndex_8c36e, Cond.static yJ3_checkFromToIndex_8c36e, Cond.initialized RJ3, Cond.code yJ3_checkFromToIndex_8c36e cJ3_checkFromToIndex_8c36e 4 (some .int), Cond.methodLink RJ2 244 yJ2_indexOfCharUnsafe_4cfef, Cond.static yJ2_indexOfCharUnsafe_4cfef, Cond.code yJ2_indexOfCharUnsafe_4cfef cJ2_indexOfCharUnsafe_4cfef 5 (some .int), Cond.methodLink RJ2 71 yJ2_getChar_3b067, Cond.static yJ2_getChar_3b067, Cond.code yJ2_getChar_3b067 cJ2_getChar_3b067 2 (some .char), Cond.fieldLink RJ2 44 "java/lang/StringUTF16" "$assertionsDisabled" "Z", Cond.fieldLink RJ2 59 "java/lang/StringUTF16" "HI_BYTE_SHIFT" "I", Cond.fieldLink RJ2 63 "java/lang/StringUTF16" "LO_BYTE_SHIFT" "I", Cond.methodLink RJ2 232 yJ2_indexOfSupplementary_4cfef, Cond.static yJ2_indexOfSupplementary_4cfef, Cond.code yJ2_indexOfSupplementary_4cfef cJ2_indexOfSupplementary_4cfef 7 (some .int), Cond.methodLink RJ2 164 yJ11_isValidCodePoint_9a6ad, Cond.static yJ11_isValidCodePoint_9a6ad]
def wsX8_readPage_r5 : List Cond := [Cond.initialized RJ11, Cond.code yJ11_isValidCodePoint_9a6ad cJ11_isValidCodePoint_9a6ad 2 (some .boolean), Cond.methodLink RJ2 157 yJ11_highSurrogate_5068e, Cond.static yJ11_highSurrogate_5068e, Cond.code yJ11_highSurrogate_5068e cJ11_highSurrogate_5068e 1 (some .char), Cond.constant RJ11 110 (55232), Cond.methodLink RJ2 161 yJ11_lowSurrogate_5068e, Cond.static yJ11_lowSurrogate_5068e, Cond.code yJ11_lowSurrogate_5068e cJ11_lowSurrogate_5068e 1 (some .char), Cond.constant RJ11 76 (56320), Cond.methodLink RX3 40 yX3_acceptsKind, Cond.instanceMethod yX3_acceptsKind, Cond.selects RX3 yX3_acceptsKind yX3_acceptsKind, Cond.code yX3_acceptsKind cX3_acceptsKind 2 (some .boolean), Cond.fieldLink RX3 65 "SoundLaws$Reader" "set" "I", Cond.fieldLink RX3 68 "SoundLaws$Stock" "kinds" "[I", Cond.fieldLink RX3 62 "SoundLaws$Reader" "tongue" "I", Cond.methodLink RX3 72 yX3_openWord, Cond.instanceMethod yX3_openWord, Cond.selects RX3 yX3_openWord yX3_openWord, Cond.code yX3_openWord cX3_openWord 1 none, Cond.fieldLink RX3 78 "SoundLaws$Reader" "place" "I", Cond.fieldLink RX3 88 "SoundLaws$Reader" "wordIsSilent" "Z", Cond.methodLink RX3 44 yX3_endsWord]
def wsX8_readPage_r6 : List Cond := [Cond.instanceMethod yX3_endsWord, Cond.selects RX3 yX3_endsWord yX3_endsWord, Cond.code yX3_endsWord cX3_endsWord 2 (some .boolean), Cond.methodLink RX3 91 yX3_wordIsWhole, Cond.instanceMethod yX3_wordIsWhole, Cond.selects RX3 yX3_wordIsWhole yX3_wordIsWhole, Cond.code yX3_wordIsWhole cX3_wordIsWhole 1 (some .boolean), Cond.fieldLink RX3 75 "SoundLaws$Stock" "lengths" "[I", Cond.methodLink RX3 59 yX3_closeWord, Cond.instanceMethod yX3_closeWord, Cond.selects RX3 yX3_closeWord yX3_closeWord, Cond.code yX3_closeWord cX3_closeWord 1 none, Cond.methodLink RX3 48 yX3_endsSet, Cond.instanceMethod yX3_endsSet, Cond.selects RX3 yX3_endsSet yX3_endsSet, Cond.code yX3_endsSet cX3_endsSet 1 (some .boolean), Cond.methodLink RX3 56 yX3_setIsWhole, Cond.instanceMethod yX3_setIsWhole, Cond.selects RX3 yX3_setIsWhole yX3_setIsWhole, Cond.code yX3_setIsWhole cX3_setIsWhole 2 (some .boolean), Cond.methodLink RX3 53 yX3_acceptsSound, Cond.instanceMethod yX3_acceptsSound, Cond.selects RX3 yX3_acceptsSound yX3_acceptsSound, Cond.code yX3_acceptsSound cX3_acceptsSound 3 (some .boolean)]
def wsX8_readPage_r7 : List Cond := [Cond.fieldLink RX3 81 "SoundLaws$Stock" "words" "[I", Cond.static yX8_wordAt, Cond.initialized RX8, Cond.code yX8_wordAt cX8_wordAt 2 (some .int)]
def wsX8_readPage : List Cond := .code yX8_readPage cX8_readPage 2 (some .int) :: ((wsX8_readPage_r1 ++ (wsX8_readPage_r2 ++ (wsX8_readPage_r3 ++ (wsX8_readPage_r4 ++ (wsX8_readPage_r5 ++ (wsX8_readPage_r6 ++ wsX8_readPage_r7)))))) ++ wsX80 ++ wsX30 ++ wsX50)
def wsX8_fault_r1 : List Cond := [Cond.methodLink RX8 65 yX8_readPage, Cond.instanceMethod yX8_readPage, Cond.selects RX8 yX8_readPage yX8_readPage, Cond.initialized RX8, Cond.code yX8_readPage cX8_readPage 2 (some .int), Cond.fieldLink RX8 16 "SoundLaws" "reader" "LSoundLaws$Reader;", Cond.fieldLink RX8 61 "SoundLaws" "letters" "I", Cond.fieldLink RX8 9 "SoundLaws" "page" "[I", Cond.methodLink RX8 248 yX3_start, Cond.instanceMethod yX3_start, Cond.selects RX3 yX3_start yX3_start, Cond.initialized RX3, Cond.code yX3_start cX3_start 1 none, Cond.fieldLink RX3 12 "SoundLaws$Reader" "draft" "LSoundLaws$Stock;", Cond.fieldLink RX3 18 "SoundLaws$Stock" "size" "I", Cond.fieldLink RX3 22 "SoundLaws$Stock" "tongues" "I", Cond.fieldLink RX3 25 "SoundLaws$Reader" "kindIsDue" "Z", Cond.fieldLink RX3 29 "SoundLaws$Reader" "hasSilentWord" "Z", Cond.methodLink RX8 251 yX3_accepts, Cond.instanceMethod yX3_accepts, Cond.selects RX3 yX3_accepts yX3_accepts, Cond.code yX3_accepts cX3_accepts 2 (some .boolean), Cond.methodLink RX3 34 yJ0_indexOf_0f7a4, Cond.instanceMethod yJ0_indexOf_0f7a4]
def wsX8_fault_r2 : List Cond := [Cond.selects RJ0 yJ0_indexOf_0f7a4 yJ0_indexOf_0f7a4, Cond.initialized RJ0, Cond.code yJ0_indexOf_0f7a4 cJ0_indexOf_0f7a4 2 (some .int), Cond.methodLink RJ0 633 yJ0_indexOf_7cf53, Cond.instanceMethod yJ0_indexOf_7cf53, Cond.selects RJ0 yJ0_indexOf_7cf53 yJ0_indexOf_7cf53, Cond.code yJ0_indexOf_7cf53 cJ0_indexOf_7cf53 3 (some .int), Cond.fieldLink RJ0 9 "java/lang/String" "value" "[B", Cond.methodLink RJ0 492 yJ0_isLatin1_aae02, Cond.instanceMethod yJ0_isLatin1_aae02, Cond.selects RJ0 yJ0_isLatin1_aae02 yJ0_isLatin1_aae02, Cond.code yJ0_isLatin1_aae02 cJ0_isLatin1_aae02 1 (some .boolean), Cond.fieldLink RJ0 38 "java/lang/String" "COMPACT_STRINGS" "Z", Cond.fieldLink RJ0 15 "java/lang/String" "coder" "B", Cond.methodLink RJ0 505 yJ0_length_8abf5, Cond.instanceMethod yJ0_length_8abf5, Cond.selects RJ0 yJ0_length_8abf5 yJ0_length_8abf5, Cond.code yJ0_length_8abf5 cJ0_length_8abf5 1 (some .int), Cond.methodLink RJ0 335 yJ0_coder_7d493, Cond.instanceMethod yJ0_coder_7d493, Cond.selects RJ0 yJ0_coder_7d493 yJ0_coder_7d493, Cond.code yJ0_coder_7d493 cJ0_coder_7d493 1 (some .byte), Cond.methodLink RJ0 637 yJ1_indexOf_4cfef, Cond.static yJ1_indexOf_4cfef]
def wsX8_fault_r3 : List Cond := [Cond.initialized RJ1, Cond.code yJ1_indexOf_4cfef cJ1_indexOf_4cfef 4 (some .int), Cond.methodLink RJ1 92 Lib.Math.max.name, Cond.static Lib.Math.max.name, Cond.initialized "java/lang/Math", Cond.code Lib.Math.max.name Lib.Math.max.code 2 (some .int), Cond.methodLink RJ1 38 Lib.Math.min.name, Cond.static Lib.Math.min.name, Cond.code Lib.Math.min.name Lib.Math.min.code 2 (some .int), Cond.methodLink RJ1 88 yJ1_canEncode_9a6ad, Cond.static yJ1_canEncode_9a6ad, Cond.code yJ1_canEncode_9a6ad cJ1_canEncode_9a6ad 1 (some .boolean), Cond.methodLink RJ1 95 yJ1_indexOfChar_4cfef, Cond.static yJ1_indexOfChar_4cfef, Cond.code yJ1_indexOfChar_4cfef cJ1_indexOfChar_4cfef 6 (some .int), Cond.methodLink RJ0 640 yJ2_indexOf_4cfef, Cond.static yJ2_indexOf_4cfef, Cond.initialized RJ2, Cond.code yJ2_indexOf_4cfef cJ2_indexOf_4cfef 4 (some .int), Cond.methodLink RJ2 224 Lib.Math.max.name, Cond.methodLink RJ2 183 Lib.Math.min.name, Cond.constant RJ2 227 (65536), Cond.methodLink RJ2 228 yJ2_indexOfChar_4cfef, Cond.static yJ2_indexOfChar_4cfef]
def wsX8_fault_r4 : List Cond := [Cond.code yJ2_indexOfChar_4cfef cJ2_indexOfChar_4cfef 4 (some .int), Cond.methodLink RJ2 96 yJ2_checkBoundsBeginEnd_d044e, Cond.static yJ2_checkBoundsBeginEnd_d044e, Cond.code yJ2_checkBoundsBeginEnd_d044e cJ2_checkBoundsBeginEnd_d044e 3 none, Cond.methodLink RJ2 48 yJ2_length_9d52b, Cond.static yJ2_length_9d52b, Cond.code yJ2_length_9d52b cJ2_length_9d52b 1 (some .int), Cond.methodLink RJ2 241 yJ0_checkBoundsBeginEnd_23922, Cond.static yJ0_checkBoundsBeginEnd_23922, Cond.code yJ0_checkBoundsBeginEnd_23922 cJ0_checkBoundsBeginEnd_23922 3 none, Cond.fieldLink RJ0 1053 "jdk/internal/util/Preconditions" "SIOOBE_FORMATTER" "Ljava/util/function/BiFunction;", Cond.methodLink RJ0 1062 yJ3_checkFromToIndex_8c36e, Cond.static yJ3_checkFromToIndex_8c36e, Cond.initialized RJ3, Cond.code yJ3_checkFromToIndex_8c36e cJ3_checkFromToIndex_8c36e 4 (some .int), Cond.methodLink RJ2 244 yJ2_indexOfCharUnsafe_4cfef, Cond.static yJ2_indexOfCharUnsafe_4cfef, Cond.code yJ2_indexOfCharUnsafe_4cfef cJ2_indexOfCharUnsafe_4cfef 5 (some .int), Cond.methodLink RJ2 71 yJ2_getChar_3b067, Cond.static yJ2_getChar_3b067, Cond.code yJ2_getChar_3b067 cJ2_getChar_3b067 2 (some .char), Cond.fieldLink RJ2 44 "java/lang/StringUTF16" "$assertionsDisabled" "Z", Cond.fieldLink RJ2 59 "java/lang/StringUTF16" "HI_BYTE_SHIFT" "I", Cond.fieldLink RJ2 63 "java/lang/StringUTF16" "LO_BYTE_SHIFT" "I"]
def wsX8_fault_r5 : List Cond := [Cond.methodLink RJ2 232 yJ2_indexOfSupplementary_4cfef, Cond.static yJ2_indexOfSupplementary_4cfef, Cond.code yJ2_indexOfSupplementary_4cfef cJ2_indexOfSupplementary_4cfef 7 (some .int), Cond.methodLink RJ2 164 yJ11_isValidCodePoint_9a6ad, Cond.static yJ11_isValidCodePoint_9a6ad, Cond.initialized RJ11, Cond.code yJ11_isValidCodePoint_9a6ad cJ11_isValidCodePoint_9a6ad 2 (some .boolean), Cond.methodLink RJ2 157 yJ11_highSurrogate_5068e, Cond.static yJ11_highSurrogate_5068e, Cond.code yJ11_highSurrogate_5068e cJ11_highSurrogate_5068e 1 (some .char), Cond.constant RJ11 110 (55232), Cond.methodLink RJ2 161 yJ11_lowSurrogate_5068e, Cond.static yJ11_lowSurrogate_5068e, Cond.code yJ11_lowSurrogate_5068e cJ11_lowSurrogate_5068e 1 (some .char), Cond.constant RJ11 76 (56320), Cond.methodLink RX3 40 yX3_acceptsKind, Cond.instanceMethod yX3_acceptsKind, Cond.selects RX3 yX3_acceptsKind yX3_acceptsKind, Cond.code yX3_acceptsKind cX3_acceptsKind 2 (some .boolean), Cond.fieldLink RX3 65 "SoundLaws$Reader" "set" "I", Cond.fieldLink RX3 68 "SoundLaws$Stock" "kinds" "[I", Cond.fieldLink RX3 62 "SoundLaws$Reader" "tongue" "I", Cond.methodLink RX3 72 yX3_openWord, Cond.instanceMethod yX3_openWord]
def wsX8_fault_r6 : List Cond := [Cond.selects RX3 yX3_openWord yX3_openWord, Cond.code yX3_openWord cX3_openWord 1 none, Cond.fieldLink RX3 78 "SoundLaws$Reader" "place" "I", Cond.fieldLink RX3 88 "SoundLaws$Reader" "wordIsSilent" "Z", Cond.methodLink RX3 44 yX3_endsWord, Cond.instanceMethod yX3_endsWord, Cond.selects RX3 yX3_endsWord yX3_endsWord, Cond.code yX3_endsWord cX3_endsWord 2 (some .boolean), Cond.methodLink RX3 91 yX3_wordIsWhole, Cond.instanceMethod yX3_wordIsWhole, Cond.selects RX3 yX3_wordIsWhole yX3_wordIsWhole, Cond.code yX3_wordIsWhole cX3_wordIsWhole 1 (some .boolean), Cond.fieldLink RX3 75 "SoundLaws$Stock" "lengths" "[I", Cond.methodLink RX3 59 yX3_closeWord, Cond.instanceMethod yX3_closeWord, Cond.selects RX3 yX3_closeWord yX3_closeWord, Cond.code yX3_closeWord cX3_closeWord 1 none, Cond.methodLink RX3 48 yX3_endsSet, Cond.instanceMethod yX3_endsSet, Cond.selects RX3 yX3_endsSet yX3_endsSet, Cond.code yX3_endsSet cX3_endsSet 1 (some .boolean), Cond.methodLink RX3 56 yX3_setIsWhole, Cond.instanceMethod yX3_setIsWhole, Cond.selects RX3 yX3_setIsWhole yX3_setIsWhole]
def wsX8_fault_r7 : List Cond := [Cond.code yX3_setIsWhole cX3_setIsWhole 2 (some .boolean), Cond.methodLink RX3 53 yX3_acceptsSound, Cond.instanceMethod yX3_acceptsSound, Cond.selects RX3 yX3_acceptsSound yX3_acceptsSound, Cond.code yX3_acceptsSound cX3_acceptsSound 3 (some .boolean), Cond.fieldLink RX3 81 "SoundLaws$Stock" "words" "[I", Cond.static yX8_wordAt, Cond.code yX8_wordAt cX8_wordAt 2 (some .int)]
def wsX8_fault : List Cond := .code yX8_fault cX8_fault 1 (some .int) :: ((wsX8_fault_r1 ++ (wsX8_fault_r2 ++ (wsX8_fault_r3 ++ (wsX8_fault_r4 ++ (wsX8_fault_r5 ++ (wsX8_fault_r6 ++ wsX8_fault_r7)))))) ++ wsX80 ++ wsX30 ++ wsX50)
def wsX8_sets_r1 : List Cond := [Cond.fieldLink RX8 61 "SoundLaws" "letters" "I", Cond.fieldLink RX8 16 "SoundLaws" "reader" "LSoundLaws$Reader;", Cond.fieldLink RX8 23 "SoundLaws" "stock" "LSoundLaws$Stock;", Cond.fieldLink RX8 73 "SoundLaws$Reader" "draft" "LSoundLaws$Stock;", Cond.fieldLink RX8 30 "SoundLaws" "sightings" "LSoundLaws$Sightings;", Cond.fieldLink RX8 83 "SoundLaws" "kept" "Z", Cond.fieldLink RX8 87 "SoundLaws" "studied" "Z", Cond.fieldLink RX8 90 "SoundLaws" "readings" "I", Cond.fieldLink RX8 93 "SoundLaws$Stock" "size" "I", Cond.methodLink RX8 65 yX8_readPage, Cond.instanceMethod yX8_readPage, Cond.selects RX8 yX8_readPage yX8_readPage, Cond.initialized RX8, Cond.code yX8_readPage cX8_readPage 2 (some .int), Cond.fieldLink RX8 9 "SoundLaws" "page" "[I", Cond.methodLink RX8 248 yX3_start, Cond.instanceMethod yX3_start, Cond.selects RX3 yX3_start yX3_start, Cond.initialized RX3, Cond.code yX3_start cX3_start 1 none, Cond.fieldLink RX3 12 "SoundLaws$Reader" "draft" "LSoundLaws$Stock;", Cond.fieldLink RX3 18 "SoundLaws$Stock" "size" "I", Cond.fieldLink RX3 22 "SoundLaws$Stock" "tongues" "I", Cond.fieldLink RX3 25 "SoundLaws$Reader" "kindIsDue" "Z"]
def wsX8_sets_r2 : List Cond := [Cond.fieldLink RX3 29 "SoundLaws$Reader" "hasSilentWord" "Z", Cond.methodLink RX8 251 yX3_accepts, Cond.instanceMethod yX3_accepts, Cond.selects RX3 yX3_accepts yX3_accepts, Cond.code yX3_accepts cX3_accepts 2 (some .boolean), Cond.methodLink RX3 34 yJ0_indexOf_0f7a4, Cond.instanceMethod yJ0_indexOf_0f7a4, Cond.selects RJ0 yJ0_indexOf_0f7a4 yJ0_indexOf_0f7a4, Cond.initialized RJ0, Cond.code yJ0_indexOf_0f7a4 cJ0_indexOf_0f7a4 2 (some .int), Cond.methodLink RJ0 633 yJ0_indexOf_7cf53, Cond.instanceMethod yJ0_indexOf_7cf53, Cond.selects RJ0 yJ0_indexOf_7cf53 yJ0_indexOf_7cf53, Cond.code yJ0_indexOf_7cf53 cJ0_indexOf_7cf53 3 (some .int), Cond.fieldLink RJ0 9 "java/lang/String" "value" "[B", Cond.methodLink RJ0 492 yJ0_isLatin1_aae02, Cond.instanceMethod yJ0_isLatin1_aae02, Cond.selects RJ0 yJ0_isLatin1_aae02 yJ0_isLatin1_aae02, Cond.code yJ0_isLatin1_aae02 cJ0_isLatin1_aae02 1 (some .boolean), Cond.fieldLink RJ0 38 "java/lang/String" "COMPACT_STRINGS" "Z", Cond.fieldLink RJ0 15 "java/lang/String" "coder" "B", Cond.methodLink RJ0 505 yJ0_length_8abf5, Cond.instanceMethod yJ0_length_8abf5, Cond.selects RJ0 yJ0_length_8abf5 yJ0_length_8abf5]
def wsX8_sets_r3 : List Cond := [Cond.code yJ0_length_8abf5 cJ0_length_8abf5 1 (some .int), Cond.methodLink RJ0 335 yJ0_coder_7d493, Cond.instanceMethod yJ0_coder_7d493, Cond.selects RJ0 yJ0_coder_7d493 yJ0_coder_7d493, Cond.code yJ0_coder_7d493 cJ0_coder_7d493 1 (some .byte), Cond.methodLink RJ0 637 yJ1_indexOf_4cfef, Cond.static yJ1_indexOf_4cfef, Cond.initialized RJ1, Cond.code yJ1_indexOf_4cfef cJ1_indexOf_4cfef 4 (some .int), Cond.methodLink RJ1 92 Lib.Math.max.name, Cond.static Lib.Math.max.name, Cond.initialized "java/lang/Math", Cond.code Lib.Math.max.name Lib.Math.max.code 2 (some .int), Cond.methodLink RJ1 38 Lib.Math.min.name, Cond.static Lib.Math.min.name, Cond.code Lib.Math.min.name Lib.Math.min.code 2 (some .int), Cond.methodLink RJ1 88 yJ1_canEncode_9a6ad, Cond.static yJ1_canEncode_9a6ad, Cond.code yJ1_canEncode_9a6ad cJ1_canEncode_9a6ad 1 (some .boolean), Cond.methodLink RJ1 95 yJ1_indexOfChar_4cfef, Cond.static yJ1_indexOfChar_4cfef, Cond.code yJ1_indexOfChar_4cfef cJ1_indexOfChar_4cfef 6 (some .int), Cond.methodLink RJ0 640 yJ2_indexOf_4cfef, Cond.static yJ2_indexOf_4cfef]
def wsX8_sets_r4 : List Cond := [Cond.initialized RJ2, Cond.code yJ2_indexOf_4cfef cJ2_indexOf_4cfef 4 (some .int), Cond.methodLink RJ2 224 Lib.Math.max.name, Cond.methodLink RJ2 183 Lib.Math.min.name, Cond.constant RJ2 227 (65536), Cond.methodLink RJ2 228 yJ2_indexOfChar_4cfef, Cond.static yJ2_indexOfChar_4cfef, Cond.code yJ2_indexOfChar_4cfef cJ2_indexOfChar_4cfef 4 (some .int), Cond.methodLink RJ2 96 yJ2_checkBoundsBeginEnd_d044e, Cond.static yJ2_checkBoundsBeginEnd_d044e, Cond.code yJ2_checkBoundsBeginEnd_d044e cJ2_checkBoundsBeginEnd_d044e 3 none, Cond.methodLink RJ2 48 yJ2_length_9d52b, Cond.static yJ2_length_9d52b, Cond.code yJ2_length_9d52b cJ2_length_9d52b 1 (some .int), Cond.methodLink RJ2 241 yJ0_checkBoundsBeginEnd_23922, Cond.static yJ0_checkBoundsBeginEnd_23922, Cond.code yJ0_checkBoundsBeginEnd_23922 cJ0_checkBoundsBeginEnd_23922 3 none, Cond.fieldLink RJ0 1053 "jdk/internal/util/Preconditions" "SIOOBE_FORMATTER" "Ljava/util/function/BiFunction;", Cond.methodLink RJ0 1062 yJ3_checkFromToIndex_8c36e, Cond.static yJ3_checkFromToIndex_8c36e, Cond.initialized RJ3, Cond.code yJ3_checkFromToIndex_8c36e cJ3_checkFromToIndex_8c36e 4 (some .int), Cond.methodLink RJ2 244 yJ2_indexOfCharUnsafe_4cfef, Cond.static yJ2_indexOfCharUnsafe_4cfef]
def wsX8_sets_r5 : List Cond := [Cond.code yJ2_indexOfCharUnsafe_4cfef cJ2_indexOfCharUnsafe_4cfef 5 (some .int), Cond.methodLink RJ2 71 yJ2_getChar_3b067, Cond.static yJ2_getChar_3b067, Cond.code yJ2_getChar_3b067 cJ2_getChar_3b067 2 (some .char), Cond.fieldLink RJ2 44 "java/lang/StringUTF16" "$assertionsDisabled" "Z", Cond.fieldLink RJ2 59 "java/lang/StringUTF16" "HI_BYTE_SHIFT" "I", Cond.fieldLink RJ2 63 "java/lang/StringUTF16" "LO_BYTE_SHIFT" "I", Cond.methodLink RJ2 232 yJ2_indexOfSupplementary_4cfef, Cond.static yJ2_indexOfSupplementary_4cfef, Cond.code yJ2_indexOfSupplementary_4cfef cJ2_indexOfSupplementary_4cfef 7 (some .int), Cond.methodLink RJ2 164 yJ11_isValidCodePoint_9a6ad, Cond.static yJ11_isValidCodePoint_9a6ad, Cond.initialized RJ11, Cond.code yJ11_isValidCodePoint_9a6ad cJ11_isValidCodePoint_9a6ad 2 (some .boolean), Cond.methodLink RJ2 157 yJ11_highSurrogate_5068e, Cond.static yJ11_highSurrogate_5068e, Cond.code yJ11_highSurrogate_5068e cJ11_highSurrogate_5068e 1 (some .char), Cond.constant RJ11 110 (55232), Cond.methodLink RJ2 161 yJ11_lowSurrogate_5068e, Cond.static yJ11_lowSurrogate_5068e, Cond.code yJ11_lowSurrogate_5068e cJ11_lowSurrogate_5068e 1 (some .char), Cond.constant RJ11 76 (56320), Cond.methodLink RX3 40 yX3_acceptsKind, Cond.instanceMethod yX3_acceptsKind]
def wsX8_sets_r6 : List Cond := [Cond.selects RX3 yX3_acceptsKind yX3_acceptsKind, Cond.code yX3_acceptsKind cX3_acceptsKind 2 (some .boolean), Cond.fieldLink RX3 65 "SoundLaws$Reader" "set" "I", Cond.fieldLink RX3 68 "SoundLaws$Stock" "kinds" "[I", Cond.fieldLink RX3 62 "SoundLaws$Reader" "tongue" "I", Cond.methodLink RX3 72 yX3_openWord, Cond.instanceMethod yX3_openWord, Cond.selects RX3 yX3_openWord yX3_openWord, Cond.code yX3_openWord cX3_openWord 1 none, Cond.fieldLink RX3 78 "SoundLaws$Reader" "place" "I", Cond.fieldLink RX3 88 "SoundLaws$Reader" "wordIsSilent" "Z", Cond.methodLink RX3 44 yX3_endsWord, Cond.instanceMethod yX3_endsWord, Cond.selects RX3 yX3_endsWord yX3_endsWord, Cond.code yX3_endsWord cX3_endsWord 2 (some .boolean), Cond.methodLink RX3 91 yX3_wordIsWhole, Cond.instanceMethod yX3_wordIsWhole, Cond.selects RX3 yX3_wordIsWhole yX3_wordIsWhole, Cond.code yX3_wordIsWhole cX3_wordIsWhole 1 (some .boolean), Cond.fieldLink RX3 75 "SoundLaws$Stock" "lengths" "[I", Cond.methodLink RX3 59 yX3_closeWord, Cond.instanceMethod yX3_closeWord, Cond.selects RX3 yX3_closeWord yX3_closeWord, Cond.code yX3_closeWord cX3_closeWord 1 none]
def wsX8_sets_r7 : List Cond := [Cond.methodLink RX3 48 yX3_endsSet, Cond.instanceMethod yX3_endsSet, Cond.selects RX3 yX3_endsSet yX3_endsSet, Cond.code yX3_endsSet cX3_endsSet 1 (some .boolean), Cond.methodLink RX3 56 yX3_setIsWhole, Cond.instanceMethod yX3_setIsWhole, Cond.selects RX3 yX3_setIsWhole yX3_setIsWhole, Cond.code yX3_setIsWhole cX3_setIsWhole 2 (some .boolean), Cond.methodLink RX3 53 yX3_acceptsSound, Cond.instanceMethod yX3_acceptsSound, Cond.selects RX3 yX3_acceptsSound yX3_acceptsSound, Cond.code yX3_acceptsSound cX3_acceptsSound 3 (some .boolean), Cond.fieldLink RX3 81 "SoundLaws$Stock" "words" "[I", Cond.static yX8_wordAt, Cond.code yX8_wordAt cX8_wordAt 2 (some .int), Cond.methodLink RX8 69 yX3_finish, Cond.instanceMethod yX3_finish, Cond.selects RX3 yX3_finish yX3_finish, Cond.code yX3_finish cX3_finish 1 (some .boolean), Cond.methodLink RX8 76 yX5_become, Cond.instanceMethod yX5_become, Cond.selects RX5 yX5_become yX5_become, Cond.initialized RX5, Cond.code yX5_become cX5_become 2 none]
def wsX8_sets_r8 : List Cond := [Cond.fieldLink RX5 21 "SoundLaws$Stock" "size" "I", Cond.fieldLink RX5 25 "SoundLaws$Stock" "tongues" "I", Cond.fieldLink RX5 9 "SoundLaws$Stock" "kinds" "[I", Cond.methodLink RX5 28 arraycopyName, Cond.native arraycopyName, Cond.static arraycopyName, Cond.initialized "java/lang/System", Cond.fieldLink RX5 15 "SoundLaws$Stock" "lengths" "[I", Cond.fieldLink RX5 18 "SoundLaws$Stock" "words" "[I", Cond.methodLink RX8 80 yX4_clear, Cond.instanceMethod yX4_clear, Cond.selects RX4 yX4_clear yX4_clear, Cond.initialized RX4, Cond.code yX4_clear cX4_clear 1 none, Cond.fieldLink RX4 22 "SoundLaws$Sightings" "size" "I"]
def wsX8_sets : List Cond := .code yX8_sets cX8_sets 1 (some .int) :: ((wsX8_sets_r1 ++ (wsX8_sets_r2 ++ (wsX8_sets_r3 ++ (wsX8_sets_r4 ++ (wsX8_sets_r5 ++ (wsX8_sets_r6 ++ (wsX8_sets_r7 ++ wsX8_sets_r8))))))) ++ wsX80 ++ wsX30 ++ wsX50 ++ wsX40)
def wsX8_isSet : List Cond := .code yX8_isSet cX8_isSet 2 (some .boolean) :: ([.fieldLink RX8 23 "SoundLaws" "stock" "LSoundLaws$Stock;", .fieldLink RX8 93 "SoundLaws$Stock" "size" "I"] ++ wsX80 ++ wsX50)
def wsX8_freshenStudy_r1 : List Cond := [Cond.fieldLink RX8 87 "SoundLaws" "studied" "Z", Cond.fieldLink RX8 37 "SoundLaws" "study" "LSoundLaws$Study;", Cond.fieldLink RX8 23 "SoundLaws" "stock" "LSoundLaws$Stock;", Cond.methodLink RX8 254 yX6_renew, Cond.instanceMethod yX6_renew, Cond.selects RX6 yX6_renew yX6_renew, Cond.initialized RX6, Cond.code yX6_renew cX6_renew 3 none, Cond.fieldLink RX6 31 "SoundLaws$Study" "tree" "LSoundLaws$Tree;", Cond.fieldLink RX6 35 "SoundLaws$Stock" "tongues" "I", Cond.fieldLink RX6 45 "SoundLaws$Study" "changesOfAll" "I", Cond.fieldLink RX6 48 "SoundLaws$Stock" "size" "I", Cond.fieldLink RX6 24 "SoundLaws$Study" "laws" "LSoundLaws$Laws;", Cond.methodLink RX6 41 yX7_plant, Cond.instanceMethod yX7_plant, Cond.selects RX7 yX7_plant yX7_plant, Cond.initialized RX7, Cond.code yX7_plant cX7_plant 2 none, Cond.fieldLink RX7 18 "SoundLaws$Tree" "tongues" "I", Cond.methodLink RX6 51 yX6_rebuild, Cond.instanceMethod yX6_rebuild, Cond.selects RX6 yX6_rebuild yX6_rebuild, Cond.code yX6_rebuild cX6_rebuild 6 none, Cond.fieldLink RX6 15 "SoundLaws$Study" "changes" "[I"]
def wsX8_freshenStudy_r2 : List Cond := [Cond.fieldLink RX6 90 "SoundLaws$Stock" "kinds" "[I", Cond.fieldLink RX6 75 "SoundLaws$Stock" "lengths" "[I", Cond.fieldLink RX6 93 "SoundLaws$Tree" "sounds" "[I", Cond.fieldLink RX6 94 "SoundLaws$Stock" "words" "[I", Cond.fieldLink RX6 9 "SoundLaws$Study" "sounds" "[I", Cond.methodLink RX6 107 arraycopyName, Cond.native arraycopyName, Cond.static arraycopyName, Cond.initialized "java/lang/System", Cond.static yX8_wordAt, Cond.initialized RX8, Cond.code yX8_wordAt cX8_wordAt 2 (some .int), Cond.methodLink RX6 100 yX7_climb, Cond.instanceMethod yX7_climb, Cond.selects RX7 yX7_climb yX7_climb, Cond.code yX7_climb cX7_climb 5 (some .int), Cond.fieldLink RX7 15 "SoundLaws$Tree" "least" "[I", Cond.fieldLink RX7 9 "SoundLaws$Tree" "sounds" "[I", Cond.static yX8_nodesOf, Cond.code yX8_nodesOf cX8_nodesOf 1 (some .int), Cond.methodLink RX7 26 yX7_pairOf, Cond.instanceMethod yX7_pairOf, Cond.selects RX7 yX7_pairOf yX7_pairOf, Cond.code yX7_pairOf cX7_pairOf 2 (some .int)]
def wsX8_freshenStudy_r3 : List Cond := [Cond.methodLink RX7 32 yX7_leastBelow, Cond.instanceMethod yX7_leastBelow, Cond.selects RX7 yX7_leastBelow yX7_leastBelow, Cond.code yX7_leastBelow cX7_leastBelow 8 (some .int), Cond.methodLink RX6 104 yX7_descend, Cond.instanceMethod yX7_descend, Cond.selects RX7 yX7_descend yX7_descend, Cond.code yX7_descend cX7_descend 3 none, Cond.methodLink RX7 36 yX7_root, Cond.instanceMethod yX7_root, Cond.selects RX7 yX7_root yX7_root, Cond.code yX7_root cX7_root 1 (some .int), Cond.methodLink RX7 40 yX7_settle, Cond.instanceMethod yX7_settle, Cond.selects RX7 yX7_settle yX7_settle, Cond.code yX7_settle cX7_settle 7 none, Cond.static yX8_costOf, Cond.code yX8_costOf cX8_costOf 2 (some .int), Cond.fieldLink RX8 288 "SoundLaws" "COSTS" "[I", Cond.static yX8_nodesAt, Cond.code yX8_nodesAt cX8_nodesAt 2 (some .int), Cond.methodLink RX6 55 yX2_clear, Cond.instanceMethod yX2_clear, Cond.selects RX2 yX2_clear yX2_clear]
def wsX8_freshenStudy_r4 : List Cond := [Cond.initialized RX2, Cond.code yX2_clear cX2_clear 1 none, Cond.fieldLink RX2 21 "SoundLaws$Laws" "weights" "[I", Cond.methodLink RX2 24 yJ7_fill_53178, Cond.static yJ7_fill_53178, Cond.initialized RJ7, Cond.code yJ7_fill_53178 cJ7_fill_53178 4 none, Cond.methodLink RX6 58 yX6_weigh, Cond.instanceMethod yX6_weigh, Cond.selects RX6 yX6_weigh yX6_weigh, Cond.code yX6_weigh cX6_weigh 8 none, Cond.methodLink RX6 116 yX6_oldSound, Cond.instanceMethod yX6_oldSound, Cond.selects RX6 yX6_oldSound yX6_oldSound, Cond.code yX6_oldSound cX6_oldSound 4 (some .int), Cond.static yX8_aheadAt, Cond.code yX8_aheadAt cX8_aheadAt 1 (some .int), Cond.static yX8_lawAt, Cond.code yX8_lawAt cX8_lawAt 3 (some .int), Cond.methodLink RX6 127 yX2_weigh, Cond.instanceMethod yX2_weigh, Cond.selects RX2 yX2_weigh yX2_weigh, Cond.code yX2_weigh cX2_weigh 4 none, Cond.methodLink RX6 61 yX2_settle]
def wsX8_freshenStudy_r5 : List Cond := [Cond.instanceMethod yX2_settle, Cond.selects RX2 yX2_settle yX2_settle, Cond.code yX2_settle cX2_settle 3 none, Cond.fieldLink RX2 30 "SoundLaws$Laws" "known" "I", Cond.fieldLink RX2 34 "SoundLaws$Laws" "exceptionsOfAll" "I", Cond.fieldLink RX2 9 "SoundLaws$Laws" "becomes" "[I", Cond.fieldLink RX2 18 "SoundLaws$Laws" "exceptions" "[I", Cond.methodLink RX2 37 yX2_settleLaw, Cond.instanceMethod yX2_settleLaw, Cond.selects RX2 yX2_settleLaw yX2_settleLaw, Cond.code yX2_settleLaw cX2_settleLaw 7 none, Cond.fieldLink RX2 15 "SoundLaws$Laws" "follows" "[I", Cond.methodLink RX6 64 yX6_findStrange, Cond.instanceMethod yX6_findStrange, Cond.selects RX6 yX6_findStrange yX6_findStrange, Cond.code yX6_findStrange cX6_findStrange 8 none, Cond.fieldLink RX6 18 "SoundLaws$Study" "strangePlaces" "[I", Cond.fieldLink RX6 130 "SoundLaws$Laws" "becomes" "[I"]
def wsX8_freshenStudy : List Cond := .code yX8_freshenStudy cX8_freshenStudy 1 none :: ((wsX8_freshenStudy_r1 ++ (wsX8_freshenStudy_r2 ++ (wsX8_freshenStudy_r3 ++ (wsX8_freshenStudy_r4 ++ wsX8_freshenStudy_r5)))) ++ wsX80 ++ wsX60 ++ wsX50 ++ wsX70 ++ wsX20)
def wsX8_tellOfSet_r1 : List Cond := [Cond.fieldLink RX8 23 "SoundLaws" "stock" "LSoundLaws$Stock;", Cond.fieldLink RX8 110 "SoundLaws$Stock" "kinds" "[I", Cond.fieldLink RX8 168 "SoundLaws$Stock" "lengths" "[I", Cond.fieldLink RX8 37 "SoundLaws" "study" "LSoundLaws$Study;", Cond.fieldLink RX8 257 "SoundLaws$Study" "changes" "[I", Cond.fieldLink RX8 30 "SoundLaws" "sightings" "LSoundLaws$Sightings;", Cond.methodLink RX8 259 yX6_strangeInSet, Cond.instanceMethod yX6_strangeInSet, Cond.selects RX6 yX6_strangeInSet yX6_strangeInSet, Cond.initialized RX6, Cond.code yX6_strangeInSet cX6_strangeInSet 4 (some .int), Cond.fieldLink RX6 18 "SoundLaws$Study" "strangePlaces" "[I", Cond.methodLink RX8 262 yX6_borrowedTongues, Cond.instanceMethod yX6_borrowedTongues, Cond.selects RX6 yX6_borrowedTongues yX6_borrowedTongues, Cond.code yX6_borrowedTongues cX6_borrowedTongues 6 (some .int), Cond.fieldLink RX6 35 "SoundLaws$Stock" "tongues" "I", Cond.fieldLink RX6 75 "SoundLaws$Stock" "lengths" "[I", Cond.methodLink RX8 266 yX4_sortsOf, Cond.instanceMethod yX4_sortsOf, Cond.selects RX4 yX4_sortsOf yX4_sortsOf, Cond.initialized RX4, Cond.code yX4_sortsOf cX4_sortsOf 5 (some .int), Cond.fieldLink RX4 22 "SoundLaws$Sightings" "size" "I"]
def wsX8_tellOfSet_r2 : List Cond := [Cond.fieldLink RX4 9 "SoundLaws$Sightings" "sets" "[I", Cond.fieldLink RX4 15 "SoundLaws$Sightings" "questions" "[I", Cond.fieldLink RX4 18 "SoundLaws$Sightings" "answers" "[Z", Cond.methodLink RX4 30 yX4_sortsThatCould, Cond.static yX4_sortsThatCould, Cond.code yX4_sortsThatCould cX4_sortsThatCould 3 (some .int), Cond.methodLink RX4 48 yX4_could, Cond.static yX4_could, Cond.code yX4_could cX4_could 2 (some .boolean), Cond.methodLink RX8 269 yX4_questionFor, Cond.instanceMethod yX4_questionFor, Cond.selects RX4 yX4_questionFor yX4_questionFor, Cond.code yX4_questionFor cX4_questionFor 8 (some .int), Cond.methodLink RX4 42 Lib.Math.max.name, Cond.static Lib.Math.max.name, Cond.initialized "java/lang/Math", Cond.code Lib.Math.max.name Lib.Math.max.code 2 (some .int), Cond.methodLink RX4 34 yX4_sortsOf, Cond.methodLink RX4 37 yJ6_bitCount_0f7a4, Cond.static yJ6_bitCount_0f7a4, Cond.initialized RJ6, Cond.code yJ6_bitCount_0f7a4 cJ6_bitCount_0f7a4 1 (some .int), Cond.constant RJ6 265 (1431655765), Cond.constant RJ6 266 (858993459)]
def wsX8_tellOfSet_r3 : List Cond := [Cond.constant RJ6 267 (252645135)]
def wsX8_tellOfSet : List Cond := .code yX8_tellOfSet cX8_tellOfSet 3 (some .int) :: ((wsX8_tellOfSet_r1 ++ (wsX8_tellOfSet_r2 ++ wsX8_tellOfSet_r3)) ++ wsX80 ++ wsX50 ++ wsX60 ++ wsX40)
def wsX8_set_r1 : List Cond := [Cond.methodLink RX8 96 yX8_isSet, Cond.instanceMethod yX8_isSet, Cond.selects RX8 yX8_isSet yX8_isSet, Cond.initialized RX8, Cond.code yX8_isSet cX8_isSet 2 (some .boolean), Cond.fieldLink RX8 23 "SoundLaws" "stock" "LSoundLaws$Stock;", Cond.fieldLink RX8 93 "SoundLaws$Stock" "size" "I", Cond.methodLink RX8 100 yX8_freshenStudy, Cond.instanceMethod yX8_freshenStudy, Cond.selects RX8 yX8_freshenStudy yX8_freshenStudy, Cond.code yX8_freshenStudy cX8_freshenStudy 1 none, Cond.fieldLink RX8 87 "SoundLaws" "studied" "Z", Cond.fieldLink RX8 37 "SoundLaws" "study" "LSoundLaws$Study;", Cond.methodLink RX8 254 yX6_renew, Cond.instanceMethod yX6_renew, Cond.selects RX6 yX6_renew yX6_renew, Cond.initialized RX6, Cond.code yX6_renew cX6_renew 3 none, Cond.fieldLink RX6 31 "SoundLaws$Study" "tree" "LSoundLaws$Tree;", Cond.fieldLink RX6 35 "SoundLaws$Stock" "tongues" "I", Cond.fieldLink RX6 45 "SoundLaws$Study" "changesOfAll" "I", Cond.fieldLink RX6 48 "SoundLaws$Stock" "size" "I", Cond.fieldLink RX6 24 "SoundLaws$Study" "laws" "LSoundLaws$Laws;", Cond.methodLink RX6 41 yX7_plant]
def wsX8_set_r2 : List Cond := [Cond.instanceMethod yX7_plant, Cond.selects RX7 yX7_plant yX7_plant, Cond.initialized RX7, Cond.code yX7_plant cX7_plant 2 none, Cond.fieldLink RX7 18 "SoundLaws$Tree" "tongues" "I", Cond.methodLink RX6 51 yX6_rebuild, Cond.instanceMethod yX6_rebuild, Cond.selects RX6 yX6_rebuild yX6_rebuild, Cond.code yX6_rebuild cX6_rebuild 6 none, Cond.fieldLink RX6 15 "SoundLaws$Study" "changes" "[I", Cond.fieldLink RX6 90 "SoundLaws$Stock" "kinds" "[I", Cond.fieldLink RX6 75 "SoundLaws$Stock" "lengths" "[I", Cond.fieldLink RX6 93 "SoundLaws$Tree" "sounds" "[I", Cond.fieldLink RX6 94 "SoundLaws$Stock" "words" "[I", Cond.fieldLink RX6 9 "SoundLaws$Study" "sounds" "[I", Cond.methodLink RX6 107 arraycopyName, Cond.native arraycopyName, Cond.static arraycopyName, Cond.initialized "java/lang/System", Cond.static yX8_wordAt, Cond.code yX8_wordAt cX8_wordAt 2 (some .int), Cond.methodLink RX6 100 yX7_climb, Cond.instanceMethod yX7_climb, Cond.selects RX7 yX7_climb yX7_climb]
def wsX8_set_r3 : List Cond := [Cond.code yX7_climb cX7_climb 5 (some .int), Cond.fieldLink RX7 15 "SoundLaws$Tree" "least" "[I", Cond.fieldLink RX7 9 "SoundLaws$Tree" "sounds" "[I", Cond.static yX8_nodesOf, Cond.code yX8_nodesOf cX8_nodesOf 1 (some .int), Cond.methodLink RX7 26 yX7_pairOf, Cond.instanceMethod yX7_pairOf, Cond.selects RX7 yX7_pairOf yX7_pairOf, Cond.code yX7_pairOf cX7_pairOf 2 (some .int), Cond.methodLink RX7 32 yX7_leastBelow, Cond.instanceMethod yX7_leastBelow, Cond.selects RX7 yX7_leastBelow yX7_leastBelow, Cond.code yX7_leastBelow cX7_leastBelow 8 (some .int), Cond.methodLink RX6 104 yX7_descend, Cond.instanceMethod yX7_descend, Cond.selects RX7 yX7_descend yX7_descend, Cond.code yX7_descend cX7_descend 3 none, Cond.methodLink RX7 36 yX7_root, Cond.instanceMethod yX7_root, Cond.selects RX7 yX7_root yX7_root, Cond.code yX7_root cX7_root 1 (some .int), Cond.methodLink RX7 40 yX7_settle, Cond.instanceMethod yX7_settle, Cond.selects RX7 yX7_settle yX7_settle]
def wsX8_set_r4 : List Cond := [Cond.code yX7_settle cX7_settle 7 none, Cond.static yX8_costOf, Cond.code yX8_costOf cX8_costOf 2 (some .int), Cond.fieldLink RX8 288 "SoundLaws" "COSTS" "[I", Cond.static yX8_nodesAt, Cond.code yX8_nodesAt cX8_nodesAt 2 (some .int), Cond.methodLink RX6 55 yX2_clear, Cond.instanceMethod yX2_clear, Cond.selects RX2 yX2_clear yX2_clear, Cond.initialized RX2, Cond.code yX2_clear cX2_clear 1 none, Cond.fieldLink RX2 21 "SoundLaws$Laws" "weights" "[I", Cond.methodLink RX2 24 yJ7_fill_53178, Cond.static yJ7_fill_53178, Cond.initialized RJ7, Cond.code yJ7_fill_53178 cJ7_fill_53178 4 none, Cond.methodLink RX6 58 yX6_weigh, Cond.instanceMethod yX6_weigh, Cond.selects RX6 yX6_weigh yX6_weigh, Cond.code yX6_weigh cX6_weigh 8 none, Cond.methodLink RX6 116 yX6_oldSound, Cond.instanceMethod yX6_oldSound, Cond.selects RX6 yX6_oldSound yX6_oldSound, Cond.code yX6_oldSound cX6_oldSound 4 (some .int)]
def wsX8_set_r5 : List Cond := [Cond.static yX8_aheadAt, Cond.code yX8_aheadAt cX8_aheadAt 1 (some .int), Cond.static yX8_lawAt, Cond.code yX8_lawAt cX8_lawAt 3 (some .int), Cond.methodLink RX6 127 yX2_weigh, Cond.instanceMethod yX2_weigh, Cond.selects RX2 yX2_weigh yX2_weigh, Cond.code yX2_weigh cX2_weigh 4 none, Cond.methodLink RX6 61 yX2_settle, Cond.instanceMethod yX2_settle, Cond.selects RX2 yX2_settle yX2_settle, Cond.code yX2_settle cX2_settle 3 none, Cond.fieldLink RX2 30 "SoundLaws$Laws" "known" "I", Cond.fieldLink RX2 34 "SoundLaws$Laws" "exceptionsOfAll" "I", Cond.fieldLink RX2 9 "SoundLaws$Laws" "becomes" "[I", Cond.fieldLink RX2 18 "SoundLaws$Laws" "exceptions" "[I", Cond.methodLink RX2 37 yX2_settleLaw, Cond.instanceMethod yX2_settleLaw, Cond.selects RX2 yX2_settleLaw yX2_settleLaw, Cond.code yX2_settleLaw cX2_settleLaw 7 none, Cond.fieldLink RX2 15 "SoundLaws$Laws" "follows" "[I", Cond.methodLink RX6 64 yX6_findStrange, Cond.instanceMethod yX6_findStrange, Cond.selects RX6 yX6_findStrange yX6_findStrange]
def wsX8_set_r6 : List Cond := [Cond.code yX6_findStrange cX6_findStrange 8 none, Cond.fieldLink RX6 18 "SoundLaws$Study" "strangePlaces" "[I", Cond.fieldLink RX6 130 "SoundLaws$Laws" "becomes" "[I", Cond.methodLink RX8 103 yX8_tellOfSet, Cond.instanceMethod yX8_tellOfSet, Cond.selects RX8 yX8_tellOfSet yX8_tellOfSet, Cond.code yX8_tellOfSet cX8_tellOfSet 3 (some .int), Cond.fieldLink RX8 110 "SoundLaws$Stock" "kinds" "[I", Cond.fieldLink RX8 168 "SoundLaws$Stock" "lengths" "[I", Cond.fieldLink RX8 257 "SoundLaws$Study" "changes" "[I", Cond.fieldLink RX8 30 "SoundLaws" "sightings" "LSoundLaws$Sightings;", Cond.methodLink RX8 259 yX6_strangeInSet, Cond.instanceMethod yX6_strangeInSet, Cond.selects RX6 yX6_strangeInSet yX6_strangeInSet, Cond.code yX6_strangeInSet cX6_strangeInSet 4 (some .int), Cond.methodLink RX8 262 yX6_borrowedTongues, Cond.instanceMethod yX6_borrowedTongues, Cond.selects RX6 yX6_borrowedTongues yX6_borrowedTongues, Cond.code yX6_borrowedTongues cX6_borrowedTongues 6 (some .int), Cond.methodLink RX8 266 yX4_sortsOf, Cond.instanceMethod yX4_sortsOf, Cond.selects RX4 yX4_sortsOf yX4_sortsOf, Cond.initialized RX4, Cond.code yX4_sortsOf cX4_sortsOf 5 (some .int)]
def wsX8_set_r7 : List Cond := [Cond.fieldLink RX4 22 "SoundLaws$Sightings" "size" "I", Cond.fieldLink RX4 9 "SoundLaws$Sightings" "sets" "[I", Cond.fieldLink RX4 15 "SoundLaws$Sightings" "questions" "[I", Cond.fieldLink RX4 18 "SoundLaws$Sightings" "answers" "[Z", Cond.methodLink RX4 30 yX4_sortsThatCould, Cond.static yX4_sortsThatCould, Cond.code yX4_sortsThatCould cX4_sortsThatCould 3 (some .int), Cond.methodLink RX4 48 yX4_could, Cond.static yX4_could, Cond.code yX4_could cX4_could 2 (some .boolean), Cond.methodLink RX8 269 yX4_questionFor, Cond.instanceMethod yX4_questionFor, Cond.selects RX4 yX4_questionFor yX4_questionFor, Cond.code yX4_questionFor cX4_questionFor 8 (some .int), Cond.methodLink RX4 42 Lib.Math.max.name, Cond.static Lib.Math.max.name, Cond.initialized "java/lang/Math", Cond.code Lib.Math.max.name Lib.Math.max.code 2 (some .int), Cond.methodLink RX4 34 yX4_sortsOf, Cond.methodLink RX4 37 yJ6_bitCount_0f7a4, Cond.static yJ6_bitCount_0f7a4, Cond.initialized RJ6, Cond.code yJ6_bitCount_0f7a4 cJ6_bitCount_0f7a4 1 (some .int), Cond.constant RJ6 265 (1431655765)]
def wsX8_set_r8 : List Cond := [Cond.constant RJ6 266 (858993459), Cond.constant RJ6 267 (252645135)]
def wsX8_set : List Cond := .code yX8_set cX8_set 3 (some .int) :: ((wsX8_set_r1 ++ (wsX8_set_r2 ++ (wsX8_set_r3 ++ (wsX8_set_r4 ++ (wsX8_set_r5 ++ (wsX8_set_r6 ++ (wsX8_set_r7 ++ wsX8_set_r8))))))) ++ wsX80 ++ wsX50 ++ wsX60 ++ wsX70 ++ wsX20 ++ wsX40)
def wsX8_isKind : List Cond := .code yX8_isKind cX8_isKind 1 (some .boolean) :: ([])
def wsX8_isOfKind : List Cond := .code yX8_isOfKind cX8_isOfKind 2 (some .boolean) :: ([])
def wsX8_as : List Cond := .code yX8_as cX8_as 3 (some .int) :: ([.fieldLink RX8 23 "SoundLaws" "stock" "LSoundLaws$Stock;", .fieldLink RX8 110 "SoundLaws$Stock" "kinds" "[I", .methodLink RX8 96 yX8_isSet, .instanceMethod yX8_isSet, .selects RX8 yX8_isSet yX8_isSet, .initialized RX8, .code yX8_isSet cX8_isSet 2 (some .boolean), .fieldLink RX8 93 "SoundLaws$Stock" "size" "I", .methodLink RX8 107 yX8_isKind, .static yX8_isKind, .code yX8_isKind cX8_isKind 1 (some .boolean), .methodLink RX8 113 yX8_isOfKind, .static yX8_isOfKind, .code yX8_isOfKind cX8_isOfKind 2 (some .boolean)] ++ wsX80 ++ wsX50)
def wsX8_isNode : List Cond := .code yX8_isNode cX8_isNode 2 (some .boolean) :: ([.fieldLink RX8 23 "SoundLaws" "stock" "LSoundLaws$Stock;", .fieldLink RX8 234 "SoundLaws$Stock" "tongues" "I", .methodLink RX8 243 yX8_nodesOf, .static yX8_nodesOf, .initialized RX8, .code yX8_nodesOf cX8_nodesOf 1 (some .int)] ++ wsX80 ++ wsX50)
def wsX8_isPlace : List Cond := .code yX8_isPlace cX8_isPlace 3 (some .boolean) :: ([.fieldLink RX8 23 "SoundLaws" "stock" "LSoundLaws$Stock;", .fieldLink RX8 168 "SoundLaws$Stock" "lengths" "[I"] ++ wsX80 ++ wsX50)
def wsX8_tellOfNode : List Cond := .code yX8_tellOfNode cX8_tellOfNode 4 (some .int) :: ([.fieldLink RX8 23 "SoundLaws" "stock" "LSoundLaws$Stock;", .fieldLink RX8 234 "SoundLaws$Stock" "tongues" "I", .fieldLink RX8 162 "SoundLaws$Stock" "words" "[I", .fieldLink RX8 145 "SoundLaws" "REBUILDS" "[I", .fieldLink RX8 110 "SoundLaws$Stock" "kinds" "[I", .fieldLink RX8 37 "SoundLaws" "study" "LSoundLaws$Study;", .fieldLink RX8 272 "SoundLaws$Study" "sounds" "[I", .methodLink RX8 165 yX8_wordAt, .static yX8_wordAt, .initialized RX8, .code yX8_wordAt cX8_wordAt 2 (some .int), .methodLink RX8 275 yX8_nodesAt, .static yX8_nodesAt, .code yX8_nodesAt cX8_nodesAt 2 (some .int)] ++ wsX80 ++ wsX50 ++ wsX60)
def wsX8_sound_r1 : List Cond := [Cond.methodLink RX8 96 yX8_isSet, Cond.instanceMethod yX8_isSet, Cond.selects RX8 yX8_isSet yX8_isSet, Cond.initialized RX8, Cond.code yX8_isSet cX8_isSet 2 (some .boolean), Cond.fieldLink RX8 23 "SoundLaws" "stock" "LSoundLaws$Stock;", Cond.fieldLink RX8 93 "SoundLaws$Stock" "size" "I", Cond.methodLink RX8 117 yX8_isNode, Cond.instanceMethod yX8_isNode, Cond.selects RX8 yX8_isNode yX8_isNode, Cond.code yX8_isNode cX8_isNode 2 (some .boolean), Cond.fieldLink RX8 234 "SoundLaws$Stock" "tongues" "I", Cond.methodLink RX8 243 yX8_nodesOf, Cond.static yX8_nodesOf, Cond.code yX8_nodesOf cX8_nodesOf 1 (some .int), Cond.methodLink RX8 120 yX8_isPlace, Cond.instanceMethod yX8_isPlace, Cond.selects RX8 yX8_isPlace yX8_isPlace, Cond.code yX8_isPlace cX8_isPlace 3 (some .boolean), Cond.fieldLink RX8 168 "SoundLaws$Stock" "lengths" "[I", Cond.methodLink RX8 100 yX8_freshenStudy, Cond.instanceMethod yX8_freshenStudy, Cond.selects RX8 yX8_freshenStudy yX8_freshenStudy, Cond.code yX8_freshenStudy cX8_freshenStudy 1 none]
def wsX8_sound_r2 : List Cond := [Cond.fieldLink RX8 87 "SoundLaws" "studied" "Z", Cond.fieldLink RX8 37 "SoundLaws" "study" "LSoundLaws$Study;", Cond.methodLink RX8 254 yX6_renew, Cond.instanceMethod yX6_renew, Cond.selects RX6 yX6_renew yX6_renew, Cond.initialized RX6, Cond.code yX6_renew cX6_renew 3 none, Cond.fieldLink RX6 31 "SoundLaws$Study" "tree" "LSoundLaws$Tree;", Cond.fieldLink RX6 35 "SoundLaws$Stock" "tongues" "I", Cond.fieldLink RX6 45 "SoundLaws$Study" "changesOfAll" "I", Cond.fieldLink RX6 48 "SoundLaws$Stock" "size" "I", Cond.fieldLink RX6 24 "SoundLaws$Study" "laws" "LSoundLaws$Laws;", Cond.methodLink RX6 41 yX7_plant, Cond.instanceMethod yX7_plant, Cond.selects RX7 yX7_plant yX7_plant, Cond.initialized RX7, Cond.code yX7_plant cX7_plant 2 none, Cond.fieldLink RX7 18 "SoundLaws$Tree" "tongues" "I", Cond.methodLink RX6 51 yX6_rebuild, Cond.instanceMethod yX6_rebuild, Cond.selects RX6 yX6_rebuild yX6_rebuild, Cond.code yX6_rebuild cX6_rebuild 6 none, Cond.fieldLink RX6 15 "SoundLaws$Study" "changes" "[I", Cond.fieldLink RX6 90 "SoundLaws$Stock" "kinds" "[I"]
def wsX8_sound_r3 : List Cond := [Cond.fieldLink RX6 75 "SoundLaws$Stock" "lengths" "[I", Cond.fieldLink RX6 93 "SoundLaws$Tree" "sounds" "[I", Cond.fieldLink RX6 94 "SoundLaws$Stock" "words" "[I", Cond.fieldLink RX6 9 "SoundLaws$Study" "sounds" "[I", Cond.methodLink RX6 107 arraycopyName, Cond.native arraycopyName, Cond.static arraycopyName, Cond.initialized "java/lang/System", Cond.static yX8_wordAt, Cond.code yX8_wordAt cX8_wordAt 2 (some .int), Cond.methodLink RX6 100 yX7_climb, Cond.instanceMethod yX7_climb, Cond.selects RX7 yX7_climb yX7_climb, Cond.code yX7_climb cX7_climb 5 (some .int), Cond.fieldLink RX7 15 "SoundLaws$Tree" "least" "[I", Cond.fieldLink RX7 9 "SoundLaws$Tree" "sounds" "[I", Cond.methodLink RX7 26 yX7_pairOf, Cond.instanceMethod yX7_pairOf, Cond.selects RX7 yX7_pairOf yX7_pairOf, Cond.code yX7_pairOf cX7_pairOf 2 (some .int), Cond.methodLink RX7 32 yX7_leastBelow, Cond.instanceMethod yX7_leastBelow, Cond.selects RX7 yX7_leastBelow yX7_leastBelow, Cond.code yX7_leastBelow cX7_leastBelow 8 (some .int)]
def wsX8_sound_r4 : List Cond := [Cond.methodLink RX6 104 yX7_descend, Cond.instanceMethod yX7_descend, Cond.selects RX7 yX7_descend yX7_descend, Cond.code yX7_descend cX7_descend 3 none, Cond.methodLink RX7 36 yX7_root, Cond.instanceMethod yX7_root, Cond.selects RX7 yX7_root yX7_root, Cond.code yX7_root cX7_root 1 (some .int), Cond.methodLink RX7 40 yX7_settle, Cond.instanceMethod yX7_settle, Cond.selects RX7 yX7_settle yX7_settle, Cond.code yX7_settle cX7_settle 7 none, Cond.static yX8_costOf, Cond.code yX8_costOf cX8_costOf 2 (some .int), Cond.fieldLink RX8 288 "SoundLaws" "COSTS" "[I", Cond.static yX8_nodesAt, Cond.code yX8_nodesAt cX8_nodesAt 2 (some .int), Cond.methodLink RX6 55 yX2_clear, Cond.instanceMethod yX2_clear, Cond.selects RX2 yX2_clear yX2_clear, Cond.initialized RX2, Cond.code yX2_clear cX2_clear 1 none, Cond.fieldLink RX2 21 "SoundLaws$Laws" "weights" "[I", Cond.methodLink RX2 24 yJ7_fill_53178]
def wsX8_sound_r5 : List Cond := [Cond.static yJ7_fill_53178, Cond.initialized RJ7, Cond.code yJ7_fill_53178 cJ7_fill_53178 4 none, Cond.methodLink RX6 58 yX6_weigh, Cond.instanceMethod yX6_weigh, Cond.selects RX6 yX6_weigh yX6_weigh, Cond.code yX6_weigh cX6_weigh 8 none, Cond.methodLink RX6 116 yX6_oldSound, Cond.instanceMethod yX6_oldSound, Cond.selects RX6 yX6_oldSound yX6_oldSound, Cond.code yX6_oldSound cX6_oldSound 4 (some .int), Cond.static yX8_aheadAt, Cond.code yX8_aheadAt cX8_aheadAt 1 (some .int), Cond.static yX8_lawAt, Cond.code yX8_lawAt cX8_lawAt 3 (some .int), Cond.methodLink RX6 127 yX2_weigh, Cond.instanceMethod yX2_weigh, Cond.selects RX2 yX2_weigh yX2_weigh, Cond.code yX2_weigh cX2_weigh 4 none, Cond.methodLink RX6 61 yX2_settle, Cond.instanceMethod yX2_settle, Cond.selects RX2 yX2_settle yX2_settle, Cond.code yX2_settle cX2_settle 3 none, Cond.fieldLink RX2 30 "SoundLaws$Laws" "known" "I"]
def wsX8_sound_r6 : List Cond := [Cond.fieldLink RX2 34 "SoundLaws$Laws" "exceptionsOfAll" "I", Cond.fieldLink RX2 9 "SoundLaws$Laws" "becomes" "[I", Cond.fieldLink RX2 18 "SoundLaws$Laws" "exceptions" "[I", Cond.methodLink RX2 37 yX2_settleLaw, Cond.instanceMethod yX2_settleLaw, Cond.selects RX2 yX2_settleLaw yX2_settleLaw, Cond.code yX2_settleLaw cX2_settleLaw 7 none, Cond.fieldLink RX2 15 "SoundLaws$Laws" "follows" "[I", Cond.methodLink RX6 64 yX6_findStrange, Cond.instanceMethod yX6_findStrange, Cond.selects RX6 yX6_findStrange yX6_findStrange, Cond.code yX6_findStrange cX6_findStrange 8 none, Cond.fieldLink RX6 18 "SoundLaws$Study" "strangePlaces" "[I", Cond.fieldLink RX6 130 "SoundLaws$Laws" "becomes" "[I", Cond.methodLink RX8 123 yX8_tellOfNode, Cond.instanceMethod yX8_tellOfNode, Cond.selects RX8 yX8_tellOfNode yX8_tellOfNode, Cond.code yX8_tellOfNode cX8_tellOfNode 4 (some .int), Cond.fieldLink RX8 162 "SoundLaws$Stock" "words" "[I", Cond.fieldLink RX8 145 "SoundLaws" "REBUILDS" "[I", Cond.fieldLink RX8 110 "SoundLaws$Stock" "kinds" "[I", Cond.fieldLink RX8 272 "SoundLaws$Study" "sounds" "[I", Cond.methodLink RX8 165 yX8_wordAt, Cond.methodLink RX8 275 yX8_nodesAt]
def wsX8_sound : List Cond := .code yX8_sound cX8_sound 4 (some .int) :: ((wsX8_sound_r1 ++ (wsX8_sound_r2 ++ (wsX8_sound_r3 ++ (wsX8_sound_r4 ++ (wsX8_sound_r5 ++ wsX8_sound_r6))))) ++ wsX80 ++ wsX50 ++ wsX60 ++ wsX70 ++ wsX20)
def wsX8_isTongue : List Cond := .code yX8_isTongue cX8_isTongue 2 (some .boolean) :: ([.fieldLink RX8 23 "SoundLaws" "stock" "LSoundLaws$Stock;", .fieldLink RX8 234 "SoundLaws$Stock" "tongues" "I"] ++ wsX80 ++ wsX50)
def wsX8_isSound : List Cond := .code yX8_isSound cX8_isSound 1 (some .boolean) :: ([])
def wsX8_law_r1 : List Cond := [Cond.fieldLink RX8 37 "SoundLaws" "study" "LSoundLaws$Study;", Cond.fieldLink RX8 133 "SoundLaws$Study" "laws" "LSoundLaws$Laws;", Cond.methodLink RX8 127 yX8_isTongue, Cond.instanceMethod yX8_isTongue, Cond.selects RX8 yX8_isTongue yX8_isTongue, Cond.initialized RX8, Cond.code yX8_isTongue cX8_isTongue 2 (some .boolean), Cond.fieldLink RX8 23 "SoundLaws" "stock" "LSoundLaws$Stock;", Cond.fieldLink RX8 234 "SoundLaws$Stock" "tongues" "I", Cond.methodLink RX8 130 yX8_isSound, Cond.static yX8_isSound, Cond.code yX8_isSound cX8_isSound 1 (some .boolean), Cond.methodLink RX8 100 yX8_freshenStudy, Cond.instanceMethod yX8_freshenStudy, Cond.selects RX8 yX8_freshenStudy yX8_freshenStudy, Cond.code yX8_freshenStudy cX8_freshenStudy 1 none, Cond.fieldLink RX8 87 "SoundLaws" "studied" "Z", Cond.methodLink RX8 254 yX6_renew, Cond.instanceMethod yX6_renew, Cond.selects RX6 yX6_renew yX6_renew, Cond.initialized RX6, Cond.code yX6_renew cX6_renew 3 none, Cond.fieldLink RX6 31 "SoundLaws$Study" "tree" "LSoundLaws$Tree;", Cond.fieldLink RX6 35 "SoundLaws$Stock" "tongues" "I"]
def wsX8_law_r2 : List Cond := [Cond.fieldLink RX6 45 "SoundLaws$Study" "changesOfAll" "I", Cond.fieldLink RX6 48 "SoundLaws$Stock" "size" "I", Cond.fieldLink RX6 24 "SoundLaws$Study" "laws" "LSoundLaws$Laws;", Cond.methodLink RX6 41 yX7_plant, Cond.instanceMethod yX7_plant, Cond.selects RX7 yX7_plant yX7_plant, Cond.initialized RX7, Cond.code yX7_plant cX7_plant 2 none, Cond.fieldLink RX7 18 "SoundLaws$Tree" "tongues" "I", Cond.methodLink RX6 51 yX6_rebuild, Cond.instanceMethod yX6_rebuild, Cond.selects RX6 yX6_rebuild yX6_rebuild, Cond.code yX6_rebuild cX6_rebuild 6 none, Cond.fieldLink RX6 15 "SoundLaws$Study" "changes" "[I", Cond.fieldLink RX6 90 "SoundLaws$Stock" "kinds" "[I", Cond.fieldLink RX6 75 "SoundLaws$Stock" "lengths" "[I", Cond.fieldLink RX6 93 "SoundLaws$Tree" "sounds" "[I", Cond.fieldLink RX6 94 "SoundLaws$Stock" "words" "[I", Cond.fieldLink RX6 9 "SoundLaws$Study" "sounds" "[I", Cond.methodLink RX6 107 arraycopyName, Cond.native arraycopyName, Cond.static arraycopyName, Cond.initialized "java/lang/System", Cond.static yX8_wordAt]
def wsX8_law_r3 : List Cond := [Cond.code yX8_wordAt cX8_wordAt 2 (some .int), Cond.methodLink RX6 100 yX7_climb, Cond.instanceMethod yX7_climb, Cond.selects RX7 yX7_climb yX7_climb, Cond.code yX7_climb cX7_climb 5 (some .int), Cond.fieldLink RX7 15 "SoundLaws$Tree" "least" "[I", Cond.fieldLink RX7 9 "SoundLaws$Tree" "sounds" "[I", Cond.static yX8_nodesOf, Cond.code yX8_nodesOf cX8_nodesOf 1 (some .int), Cond.methodLink RX7 26 yX7_pairOf, Cond.instanceMethod yX7_pairOf, Cond.selects RX7 yX7_pairOf yX7_pairOf, Cond.code yX7_pairOf cX7_pairOf 2 (some .int), Cond.methodLink RX7 32 yX7_leastBelow, Cond.instanceMethod yX7_leastBelow, Cond.selects RX7 yX7_leastBelow yX7_leastBelow, Cond.code yX7_leastBelow cX7_leastBelow 8 (some .int), Cond.methodLink RX6 104 yX7_descend, Cond.instanceMethod yX7_descend, Cond.selects RX7 yX7_descend yX7_descend, Cond.code yX7_descend cX7_descend 3 none, Cond.methodLink RX7 36 yX7_root, Cond.instanceMethod yX7_root, Cond.selects RX7 yX7_root yX7_root]
def wsX8_law_r4 : List Cond := [Cond.code yX7_root cX7_root 1 (some .int), Cond.methodLink RX7 40 yX7_settle, Cond.instanceMethod yX7_settle, Cond.selects RX7 yX7_settle yX7_settle, Cond.code yX7_settle cX7_settle 7 none, Cond.static yX8_costOf, Cond.code yX8_costOf cX8_costOf 2 (some .int), Cond.fieldLink RX8 288 "SoundLaws" "COSTS" "[I", Cond.static yX8_nodesAt, Cond.code yX8_nodesAt cX8_nodesAt 2 (some .int), Cond.methodLink RX6 55 yX2_clear, Cond.instanceMethod yX2_clear, Cond.selects RX2 yX2_clear yX2_clear, Cond.initialized RX2, Cond.code yX2_clear cX2_clear 1 none, Cond.fieldLink RX2 21 "SoundLaws$Laws" "weights" "[I", Cond.methodLink RX2 24 yJ7_fill_53178, Cond.static yJ7_fill_53178, Cond.initialized RJ7, Cond.code yJ7_fill_53178 cJ7_fill_53178 4 none, Cond.methodLink RX6 58 yX6_weigh, Cond.instanceMethod yX6_weigh, Cond.selects RX6 yX6_weigh yX6_weigh, Cond.code yX6_weigh cX6_weigh 8 none]
def wsX8_law_r5 : List Cond := [Cond.methodLink RX6 116 yX6_oldSound, Cond.instanceMethod yX6_oldSound, Cond.selects RX6 yX6_oldSound yX6_oldSound, Cond.code yX6_oldSound cX6_oldSound 4 (some .int), Cond.static yX8_aheadAt, Cond.code yX8_aheadAt cX8_aheadAt 1 (some .int), Cond.static yX8_lawAt, Cond.code yX8_lawAt cX8_lawAt 3 (some .int), Cond.methodLink RX6 127 yX2_weigh, Cond.instanceMethod yX2_weigh, Cond.selects RX2 yX2_weigh yX2_weigh, Cond.code yX2_weigh cX2_weigh 4 none, Cond.methodLink RX6 61 yX2_settle, Cond.instanceMethod yX2_settle, Cond.selects RX2 yX2_settle yX2_settle, Cond.code yX2_settle cX2_settle 3 none, Cond.fieldLink RX2 30 "SoundLaws$Laws" "known" "I", Cond.fieldLink RX2 34 "SoundLaws$Laws" "exceptionsOfAll" "I", Cond.fieldLink RX2 9 "SoundLaws$Laws" "becomes" "[I", Cond.fieldLink RX2 18 "SoundLaws$Laws" "exceptions" "[I", Cond.methodLink RX2 37 yX2_settleLaw, Cond.instanceMethod yX2_settleLaw, Cond.selects RX2 yX2_settleLaw yX2_settleLaw, Cond.code yX2_settleLaw cX2_settleLaw 7 none]
def wsX8_law_r6 : List Cond := [Cond.fieldLink RX2 15 "SoundLaws$Laws" "follows" "[I", Cond.methodLink RX6 64 yX6_findStrange, Cond.instanceMethod yX6_findStrange, Cond.selects RX6 yX6_findStrange yX6_findStrange, Cond.code yX6_findStrange cX6_findStrange 8 none, Cond.fieldLink RX6 18 "SoundLaws$Study" "strangePlaces" "[I", Cond.fieldLink RX6 130 "SoundLaws$Laws" "becomes" "[I", Cond.methodLink RX8 137 yX8_lawAt, Cond.methodLink RX8 140 yX2_tell, Cond.instanceMethod yX2_tell, Cond.selects RX2 yX2_tell yX2_tell, Cond.code yX2_tell cX2_tell 3 (some .int)]
def wsX8_law : List Cond := .code yX8_law cX8_law 5 (some .int) :: ((wsX8_law_r1 ++ (wsX8_law_r2 ++ (wsX8_law_r3 ++ (wsX8_law_r4 ++ (wsX8_law_r5 ++ wsX8_law_r6))))) ++ wsX80 ++ wsX60 ++ wsX50 ++ wsX70 ++ wsX20)
def wsX8_strange_r1 : List Cond := [Cond.fieldLink RX8 145 "SoundLaws" "REBUILDS" "[I", Cond.fieldLink RX8 23 "SoundLaws" "stock" "LSoundLaws$Stock;", Cond.fieldLink RX8 110 "SoundLaws$Stock" "kinds" "[I", Cond.fieldLink RX8 37 "SoundLaws" "study" "LSoundLaws$Study;", Cond.fieldLink RX8 148 "SoundLaws$Study" "strangePlaces" "[I", Cond.methodLink RX8 96 yX8_isSet, Cond.instanceMethod yX8_isSet, Cond.selects RX8 yX8_isSet yX8_isSet, Cond.initialized RX8, Cond.code yX8_isSet cX8_isSet 2 (some .boolean), Cond.fieldLink RX8 93 "SoundLaws$Stock" "size" "I", Cond.methodLink RX8 127 yX8_isTongue, Cond.instanceMethod yX8_isTongue, Cond.selects RX8 yX8_isTongue yX8_isTongue, Cond.code yX8_isTongue cX8_isTongue 2 (some .boolean), Cond.fieldLink RX8 234 "SoundLaws$Stock" "tongues" "I", Cond.methodLink RX8 100 yX8_freshenStudy, Cond.instanceMethod yX8_freshenStudy, Cond.selects RX8 yX8_freshenStudy yX8_freshenStudy, Cond.code yX8_freshenStudy cX8_freshenStudy 1 none, Cond.fieldLink RX8 87 "SoundLaws" "studied" "Z", Cond.methodLink RX8 254 yX6_renew, Cond.instanceMethod yX6_renew, Cond.selects RX6 yX6_renew yX6_renew]
def wsX8_strange_r2 : List Cond := [Cond.initialized RX6, Cond.code yX6_renew cX6_renew 3 none, Cond.fieldLink RX6 31 "SoundLaws$Study" "tree" "LSoundLaws$Tree;", Cond.fieldLink RX6 35 "SoundLaws$Stock" "tongues" "I", Cond.fieldLink RX6 45 "SoundLaws$Study" "changesOfAll" "I", Cond.fieldLink RX6 48 "SoundLaws$Stock" "size" "I", Cond.fieldLink RX6 24 "SoundLaws$Study" "laws" "LSoundLaws$Laws;", Cond.methodLink RX6 41 yX7_plant, Cond.instanceMethod yX7_plant, Cond.selects RX7 yX7_plant yX7_plant, Cond.initialized RX7, Cond.code yX7_plant cX7_plant 2 none, Cond.fieldLink RX7 18 "SoundLaws$Tree" "tongues" "I", Cond.methodLink RX6 51 yX6_rebuild, Cond.instanceMethod yX6_rebuild, Cond.selects RX6 yX6_rebuild yX6_rebuild, Cond.code yX6_rebuild cX6_rebuild 6 none, Cond.fieldLink RX6 15 "SoundLaws$Study" "changes" "[I", Cond.fieldLink RX6 90 "SoundLaws$Stock" "kinds" "[I", Cond.fieldLink RX6 75 "SoundLaws$Stock" "lengths" "[I", Cond.fieldLink RX6 93 "SoundLaws$Tree" "sounds" "[I", Cond.fieldLink RX6 94 "SoundLaws$Stock" "words" "[I", Cond.fieldLink RX6 9 "SoundLaws$Study" "sounds" "[I", Cond.methodLink RX6 107 arraycopyName]
def wsX8_strange_r3 : List Cond := [Cond.native arraycopyName, Cond.static arraycopyName, Cond.initialized "java/lang/System", Cond.static yX8_wordAt, Cond.code yX8_wordAt cX8_wordAt 2 (some .int), Cond.methodLink RX6 100 yX7_climb, Cond.instanceMethod yX7_climb, Cond.selects RX7 yX7_climb yX7_climb, Cond.code yX7_climb cX7_climb 5 (some .int), Cond.fieldLink RX7 15 "SoundLaws$Tree" "least" "[I", Cond.fieldLink RX7 9 "SoundLaws$Tree" "sounds" "[I", Cond.static yX8_nodesOf, Cond.code yX8_nodesOf cX8_nodesOf 1 (some .int), Cond.methodLink RX7 26 yX7_pairOf, Cond.instanceMethod yX7_pairOf, Cond.selects RX7 yX7_pairOf yX7_pairOf, Cond.code yX7_pairOf cX7_pairOf 2 (some .int), Cond.methodLink RX7 32 yX7_leastBelow, Cond.instanceMethod yX7_leastBelow, Cond.selects RX7 yX7_leastBelow yX7_leastBelow, Cond.code yX7_leastBelow cX7_leastBelow 8 (some .int), Cond.methodLink RX6 104 yX7_descend, Cond.instanceMethod yX7_descend, Cond.selects RX7 yX7_descend yX7_descend]
def wsX8_strange_r4 : List Cond := [Cond.code yX7_descend cX7_descend 3 none, Cond.methodLink RX7 36 yX7_root, Cond.instanceMethod yX7_root, Cond.selects RX7 yX7_root yX7_root, Cond.code yX7_root cX7_root 1 (some .int), Cond.methodLink RX7 40 yX7_settle, Cond.instanceMethod yX7_settle, Cond.selects RX7 yX7_settle yX7_settle, Cond.code yX7_settle cX7_settle 7 none, Cond.static yX8_costOf, Cond.code yX8_costOf cX8_costOf 2 (some .int), Cond.fieldLink RX8 288 "SoundLaws" "COSTS" "[I", Cond.static yX8_nodesAt, Cond.code yX8_nodesAt cX8_nodesAt 2 (some .int), Cond.methodLink RX6 55 yX2_clear, Cond.instanceMethod yX2_clear, Cond.selects RX2 yX2_clear yX2_clear, Cond.initialized RX2, Cond.code yX2_clear cX2_clear 1 none, Cond.fieldLink RX2 21 "SoundLaws$Laws" "weights" "[I", Cond.methodLink RX2 24 yJ7_fill_53178, Cond.static yJ7_fill_53178, Cond.initialized RJ7, Cond.code yJ7_fill_53178 cJ7_fill_53178 4 none]
def wsX8_strange_r5 : List Cond := [Cond.methodLink RX6 58 yX6_weigh, Cond.instanceMethod yX6_weigh, Cond.selects RX6 yX6_weigh yX6_weigh, Cond.code yX6_weigh cX6_weigh 8 none, Cond.methodLink RX6 116 yX6_oldSound, Cond.instanceMethod yX6_oldSound, Cond.selects RX6 yX6_oldSound yX6_oldSound, Cond.code yX6_oldSound cX6_oldSound 4 (some .int), Cond.static yX8_aheadAt, Cond.code yX8_aheadAt cX8_aheadAt 1 (some .int), Cond.static yX8_lawAt, Cond.code yX8_lawAt cX8_lawAt 3 (some .int), Cond.methodLink RX6 127 yX2_weigh, Cond.instanceMethod yX2_weigh, Cond.selects RX2 yX2_weigh yX2_weigh, Cond.code yX2_weigh cX2_weigh 4 none, Cond.methodLink RX6 61 yX2_settle, Cond.instanceMethod yX2_settle, Cond.selects RX2 yX2_settle yX2_settle, Cond.code yX2_settle cX2_settle 3 none, Cond.fieldLink RX2 30 "SoundLaws$Laws" "known" "I", Cond.fieldLink RX2 34 "SoundLaws$Laws" "exceptionsOfAll" "I", Cond.fieldLink RX2 9 "SoundLaws$Laws" "becomes" "[I", Cond.fieldLink RX2 18 "SoundLaws$Laws" "exceptions" "[I"]
def wsX8_strange_r6 : List Cond := [Cond.methodLink RX2 37 yX2_settleLaw, Cond.instanceMethod yX2_settleLaw, Cond.selects RX2 yX2_settleLaw yX2_settleLaw, Cond.code yX2_settleLaw cX2_settleLaw 7 none, Cond.fieldLink RX2 15 "SoundLaws$Laws" "follows" "[I", Cond.methodLink RX6 64 yX6_findStrange, Cond.instanceMethod yX6_findStrange, Cond.selects RX6 yX6_findStrange yX6_findStrange, Cond.code yX6_findStrange cX6_findStrange 8 none, Cond.fieldLink RX6 18 "SoundLaws$Study" "strangePlaces" "[I", Cond.fieldLink RX6 130 "SoundLaws$Laws" "becomes" "[I"]
def wsX8_strange : List Cond := .code yX8_strange cX8_strange 3 (some .int) :: ((wsX8_strange_r1 ++ (wsX8_strange_r2 ++ (wsX8_strange_r3 ++ (wsX8_strange_r4 ++ (wsX8_strange_r5 ++ wsX8_strange_r6))))) ++ wsX80 ++ wsX50 ++ wsX60 ++ wsX70 ++ wsX20)
def wsX8_say_r1 : List Cond := [Cond.fieldLink RX8 145 "SoundLaws" "REBUILDS" "[I", Cond.fieldLink RX8 23 "SoundLaws" "stock" "LSoundLaws$Stock;", Cond.fieldLink RX8 110 "SoundLaws$Stock" "kinds" "[I", Cond.fieldLink RX8 37 "SoundLaws" "study" "LSoundLaws$Study;", Cond.fieldLink RX8 133 "SoundLaws$Study" "laws" "LSoundLaws$Laws;", Cond.fieldLink RX8 155 "SoundLaws$Laws" "becomes" "[I", Cond.methodLink RX8 96 yX8_isSet, Cond.instanceMethod yX8_isSet, Cond.selects RX8 yX8_isSet yX8_isSet, Cond.initialized RX8, Cond.code yX8_isSet cX8_isSet 2 (some .boolean), Cond.fieldLink RX8 93 "SoundLaws$Stock" "size" "I", Cond.methodLink RX8 127 yX8_isTongue, Cond.instanceMethod yX8_isTongue, Cond.selects RX8 yX8_isTongue yX8_isTongue, Cond.code yX8_isTongue cX8_isTongue 2 (some .boolean), Cond.fieldLink RX8 234 "SoundLaws$Stock" "tongues" "I", Cond.methodLink RX8 120 yX8_isPlace, Cond.instanceMethod yX8_isPlace, Cond.selects RX8 yX8_isPlace yX8_isPlace, Cond.code yX8_isPlace cX8_isPlace 3 (some .boolean), Cond.fieldLink RX8 168 "SoundLaws$Stock" "lengths" "[I", Cond.methodLink RX8 100 yX8_freshenStudy, Cond.instanceMethod yX8_freshenStudy]
def wsX8_say_r2 : List Cond := [Cond.selects RX8 yX8_freshenStudy yX8_freshenStudy, Cond.code yX8_freshenStudy cX8_freshenStudy 1 none, Cond.fieldLink RX8 87 "SoundLaws" "studied" "Z", Cond.methodLink RX8 254 yX6_renew, Cond.instanceMethod yX6_renew, Cond.selects RX6 yX6_renew yX6_renew, Cond.initialized RX6, Cond.code yX6_renew cX6_renew 3 none, Cond.fieldLink RX6 31 "SoundLaws$Study" "tree" "LSoundLaws$Tree;", Cond.fieldLink RX6 35 "SoundLaws$Stock" "tongues" "I", Cond.fieldLink RX6 45 "SoundLaws$Study" "changesOfAll" "I", Cond.fieldLink RX6 48 "SoundLaws$Stock" "size" "I", Cond.fieldLink RX6 24 "SoundLaws$Study" "laws" "LSoundLaws$Laws;", Cond.methodLink RX6 41 yX7_plant, Cond.instanceMethod yX7_plant, Cond.selects RX7 yX7_plant yX7_plant, Cond.initialized RX7, Cond.code yX7_plant cX7_plant 2 none, Cond.fieldLink RX7 18 "SoundLaws$Tree" "tongues" "I", Cond.methodLink RX6 51 yX6_rebuild, Cond.instanceMethod yX6_rebuild, Cond.selects RX6 yX6_rebuild yX6_rebuild, Cond.code yX6_rebuild cX6_rebuild 6 none, Cond.fieldLink RX6 15 "SoundLaws$Study" "changes" "[I"]
def wsX8_say_r3 : List Cond := [Cond.fieldLink RX6 90 "SoundLaws$Stock" "kinds" "[I", Cond.fieldLink RX6 75 "SoundLaws$Stock" "lengths" "[I", Cond.fieldLink RX6 93 "SoundLaws$Tree" "sounds" "[I", Cond.fieldLink RX6 94 "SoundLaws$Stock" "words" "[I", Cond.fieldLink RX6 9 "SoundLaws$Study" "sounds" "[I", Cond.methodLink RX6 107 arraycopyName, Cond.native arraycopyName, Cond.static arraycopyName, Cond.initialized "java/lang/System", Cond.static yX8_wordAt, Cond.code yX8_wordAt cX8_wordAt 2 (some .int), Cond.methodLink RX6 100 yX7_climb, Cond.instanceMethod yX7_climb, Cond.selects RX7 yX7_climb yX7_climb, Cond.code yX7_climb cX7_climb 5 (some .int), Cond.fieldLink RX7 15 "SoundLaws$Tree" "least" "[I", Cond.fieldLink RX7 9 "SoundLaws$Tree" "sounds" "[I", Cond.static yX8_nodesOf, Cond.code yX8_nodesOf cX8_nodesOf 1 (some .int), Cond.methodLink RX7 26 yX7_pairOf, Cond.instanceMethod yX7_pairOf, Cond.selects RX7 yX7_pairOf yX7_pairOf, Cond.code yX7_pairOf cX7_pairOf 2 (some .int), Cond.methodLink RX7 32 yX7_leastBelow]
def wsX8_say_r4 : List Cond := [Cond.instanceMethod yX7_leastBelow, Cond.selects RX7 yX7_leastBelow yX7_leastBelow, Cond.code yX7_leastBelow cX7_leastBelow 8 (some .int), Cond.methodLink RX6 104 yX7_descend, Cond.instanceMethod yX7_descend, Cond.selects RX7 yX7_descend yX7_descend, Cond.code yX7_descend cX7_descend 3 none, Cond.methodLink RX7 36 yX7_root, Cond.instanceMethod yX7_root, Cond.selects RX7 yX7_root yX7_root, Cond.code yX7_root cX7_root 1 (some .int), Cond.methodLink RX7 40 yX7_settle, Cond.instanceMethod yX7_settle, Cond.selects RX7 yX7_settle yX7_settle, Cond.code yX7_settle cX7_settle 7 none, Cond.static yX8_costOf, Cond.code yX8_costOf cX8_costOf 2 (some .int), Cond.fieldLink RX8 288 "SoundLaws" "COSTS" "[I", Cond.static yX8_nodesAt, Cond.code yX8_nodesAt cX8_nodesAt 2 (some .int), Cond.methodLink RX6 55 yX2_clear, Cond.instanceMethod yX2_clear, Cond.selects RX2 yX2_clear yX2_clear, Cond.initialized RX2]
def wsX8_say_r5 : List Cond := [Cond.code yX2_clear cX2_clear 1 none, Cond.fieldLink RX2 21 "SoundLaws$Laws" "weights" "[I", Cond.methodLink RX2 24 yJ7_fill_53178, Cond.static yJ7_fill_53178, Cond.initialized RJ7, Cond.code yJ7_fill_53178 cJ7_fill_53178 4 none, Cond.methodLink RX6 58 yX6_weigh, Cond.instanceMethod yX6_weigh, Cond.selects RX6 yX6_weigh yX6_weigh, Cond.code yX6_weigh cX6_weigh 8 none, Cond.methodLink RX6 116 yX6_oldSound, Cond.instanceMethod yX6_oldSound, Cond.selects RX6 yX6_oldSound yX6_oldSound, Cond.code yX6_oldSound cX6_oldSound 4 (some .int), Cond.static yX8_aheadAt, Cond.code yX8_aheadAt cX8_aheadAt 1 (some .int), Cond.static yX8_lawAt, Cond.code yX8_lawAt cX8_lawAt 3 (some .int), Cond.methodLink RX6 127 yX2_weigh, Cond.instanceMethod yX2_weigh, Cond.selects RX2 yX2_weigh yX2_weigh, Cond.code yX2_weigh cX2_weigh 4 none, Cond.methodLink RX6 61 yX2_settle, Cond.instanceMethod yX2_settle]
def wsX8_say_r6 : List Cond := [Cond.selects RX2 yX2_settle yX2_settle, Cond.code yX2_settle cX2_settle 3 none, Cond.fieldLink RX2 30 "SoundLaws$Laws" "known" "I", Cond.fieldLink RX2 34 "SoundLaws$Laws" "exceptionsOfAll" "I", Cond.fieldLink RX2 9 "SoundLaws$Laws" "becomes" "[I", Cond.fieldLink RX2 18 "SoundLaws$Laws" "exceptions" "[I", Cond.methodLink RX2 37 yX2_settleLaw, Cond.instanceMethod yX2_settleLaw, Cond.selects RX2 yX2_settleLaw yX2_settleLaw, Cond.code yX2_settleLaw cX2_settleLaw 7 none, Cond.fieldLink RX2 15 "SoundLaws$Laws" "follows" "[I", Cond.methodLink RX6 64 yX6_findStrange, Cond.instanceMethod yX6_findStrange, Cond.selects RX6 yX6_findStrange yX6_findStrange, Cond.code yX6_findStrange cX6_findStrange 8 none, Cond.fieldLink RX6 18 "SoundLaws$Study" "strangePlaces" "[I", Cond.fieldLink RX6 130 "SoundLaws$Laws" "becomes" "[I", Cond.methodLink RX8 151 yX6_oldSound, Cond.methodLink RX8 158 yX8_aheadAt, Cond.methodLink RX8 137 yX8_lawAt]
def wsX8_say : List Cond := .code yX8_say cX8_say 6 (some .int) :: ((wsX8_say_r1 ++ (wsX8_say_r2 ++ (wsX8_say_r3 ++ (wsX8_say_r4 ++ (wsX8_say_r5 ++ wsX8_say_r6))))) ++ wsX80 ++ wsX50 ++ wsX60 ++ wsX20 ++ wsX70)
def wsX8_line_r1 : List Cond := [Cond.fieldLink RX8 50 "SoundLaws" "aligner" "LSoundLaws$Aligner;", Cond.fieldLink RX8 23 "SoundLaws" "stock" "LSoundLaws$Stock;", Cond.fieldLink RX8 162 "SoundLaws$Stock" "words" "[I", Cond.fieldLink RX8 168 "SoundLaws$Stock" "lengths" "[I", Cond.methodLink RX8 96 yX8_isSet, Cond.instanceMethod yX8_isSet, Cond.selects RX8 yX8_isSet yX8_isSet, Cond.initialized RX8, Cond.code yX8_isSet cX8_isSet 2 (some .boolean), Cond.fieldLink RX8 93 "SoundLaws$Stock" "size" "I", Cond.methodLink RX8 127 yX8_isTongue, Cond.instanceMethod yX8_isTongue, Cond.selects RX8 yX8_isTongue yX8_isTongue, Cond.code yX8_isTongue cX8_isTongue 2 (some .boolean), Cond.fieldLink RX8 234 "SoundLaws$Stock" "tongues" "I", Cond.methodLink RX8 165 yX8_wordAt, Cond.static yX8_wordAt, Cond.code yX8_wordAt cX8_wordAt 2 (some .int), Cond.methodLink RX8 171 yX0_readFirst, Cond.instanceMethod yX0_readFirst, Cond.selects RX0 yX0_readFirst yX0_readFirst, Cond.initialized RX0, Cond.code yX0_readFirst cX0_readFirst 4 none, Cond.fieldLink RX0 9 "SoundLaws$Aligner" "first" "[I"]
def wsX8_line_r2 : List Cond := [Cond.fieldLink RX0 25 "SoundLaws$Aligner" "firstLength" "I", Cond.methodLink RX0 21 yX0_readSounds, Cond.static yX0_readSounds, Cond.code yX0_readSounds cX0_readSounds 7 (some .int), Cond.methodLink RX8 175 yX0_readSecond, Cond.instanceMethod yX0_readSecond, Cond.selects RX0 yX0_readSecond yX0_readSecond, Cond.code yX0_readSecond cX0_readSecond 4 none, Cond.fieldLink RX0 15 "SoundLaws$Aligner" "second" "[I", Cond.fieldLink RX0 29 "SoundLaws$Aligner" "secondLength" "I", Cond.methodLink RX8 178 yX0_leastCost, Cond.instanceMethod yX0_leastCost, Cond.selects RX0 yX0_leastCost yX0_leastCost, Cond.code yX0_leastCost cX0_leastCost 6 (some .int), Cond.fieldLink RX0 18 "SoundLaws$Aligner" "row" "[I", Cond.methodLink RX0 36 Lib.Math.min.name, Cond.static Lib.Math.min.name, Cond.initialized "java/lang/Math", Cond.code Lib.Math.min.name Lib.Math.min.code 2 (some .int), Cond.static yX8_costOf, Cond.code yX8_costOf cX8_costOf 2 (some .int), Cond.fieldLink RX8 288 "SoundLaws" "COSTS" "[I"]
def wsX8_line : List Cond := .code yX8_line cX8_line 5 (some .int) :: ((wsX8_line_r1 ++ wsX8_line_r2) ++ wsX80 ++ wsX50 ++ wsX00)
def wsX8_cost : List Cond := .code yX8_cost cX8_cost 3 (some .int) :: ([.methodLink RX8 130 yX8_isSound, .static yX8_isSound, .initialized RX8, .code yX8_isSound cX8_isSound 1 (some .boolean), .methodLink RX8 181 yX8_costOf, .static yX8_costOf, .code yX8_costOf cX8_costOf 2 (some .int), .fieldLink RX8 288 "SoundLaws" "COSTS" "[I"])
def wsX8_put_r1 : List Cond := [Cond.fieldLink RX8 23 "SoundLaws" "stock" "LSoundLaws$Stock;", Cond.fieldLink RX8 162 "SoundLaws$Stock" "words" "[I", Cond.fieldLink RX8 87 "SoundLaws" "studied" "Z", Cond.methodLink RX8 96 yX8_isSet, Cond.instanceMethod yX8_isSet, Cond.selects RX8 yX8_isSet yX8_isSet, Cond.initialized RX8, Cond.code yX8_isSet cX8_isSet 2 (some .boolean), Cond.fieldLink RX8 93 "SoundLaws$Stock" "size" "I", Cond.methodLink RX8 127 yX8_isTongue, Cond.instanceMethod yX8_isTongue, Cond.selects RX8 yX8_isTongue yX8_isTongue, Cond.code yX8_isTongue cX8_isTongue 2 (some .boolean), Cond.fieldLink RX8 234 "SoundLaws$Stock" "tongues" "I", Cond.methodLink RX8 120 yX8_isPlace, Cond.instanceMethod yX8_isPlace, Cond.selects RX8 yX8_isPlace yX8_isPlace, Cond.code yX8_isPlace cX8_isPlace 3 (some .boolean), Cond.fieldLink RX8 168 "SoundLaws$Stock" "lengths" "[I", Cond.methodLink RX8 130 yX8_isSound, Cond.static yX8_isSound, Cond.code yX8_isSound cX8_isSound 1 (some .boolean), Cond.methodLink RX8 184 yX5_isSilentBut, Cond.instanceMethod yX5_isSilentBut]
def wsX8_put_r2 : List Cond := [Cond.selects RX5 yX5_isSilentBut yX5_isSilentBut, Cond.initialized RX5, Cond.code yX5_isSilentBut cX5_isSilentBut 5 (some .boolean), Cond.fieldLink RX5 15 "SoundLaws$Stock" "lengths" "[I", Cond.fieldLink RX5 18 "SoundLaws$Stock" "words" "[I", Cond.static yX8_wordAt, Cond.code yX8_wordAt cX8_wordAt 2 (some .int), Cond.methodLink RX8 165 yX8_wordAt]
def wsX8_put : List Cond := .code yX8_put cX8_put 7 (some .int) :: ((wsX8_put_r1 ++ wsX8_put_r2) ++ wsX80 ++ wsX50)
def wsX8_copy : List Cond := .code yX8_copy cX8_copy 3 (some .int) :: ([.fieldLink RX8 23 "SoundLaws" "stock" "LSoundLaws$Stock;", .fieldLink RX8 93 "SoundLaws$Stock" "size" "I", .fieldLink RX8 87 "SoundLaws" "studied" "Z", .methodLink RX8 96 yX8_isSet, .instanceMethod yX8_isSet, .selects RX8 yX8_isSet yX8_isSet, .initialized RX8, .code yX8_isSet cX8_isSet 2 (some .boolean), .methodLink RX8 188 yX5_putOver, .instanceMethod yX5_putOver, .selects RX5 yX5_putOver yX5_putOver, .initialized RX5, .code yX5_putOver cX5_putOver 3 none, .fieldLink RX5 9 "SoundLaws$Stock" "kinds" "[I", .fieldLink RX5 15 "SoundLaws$Stock" "lengths" "[I", .fieldLink RX5 18 "SoundLaws$Stock" "words" "[I", .methodLink RX5 28 arraycopyName, .native arraycopyName, .static arraycopyName, .initialized "java/lang/System", .static yX8_wordAt, .code yX8_wordAt cX8_wordAt 2 (some .int)] ++ wsX80 ++ wsX50)
def wsX8_take_r1 : List Cond := [Cond.fieldLink RX8 23 "SoundLaws" "stock" "LSoundLaws$Stock;", Cond.fieldLink RX8 93 "SoundLaws$Stock" "size" "I", Cond.fieldLink RX8 30 "SoundLaws" "sightings" "LSoundLaws$Sightings;", Cond.fieldLink RX8 87 "SoundLaws" "studied" "Z", Cond.methodLink RX8 96 yX8_isSet, Cond.instanceMethod yX8_isSet, Cond.selects RX8 yX8_isSet yX8_isSet, Cond.initialized RX8, Cond.code yX8_isSet cX8_isSet 2 (some .boolean), Cond.methodLink RX8 192 yX5_remove, Cond.instanceMethod yX5_remove, Cond.selects RX5 yX5_remove yX5_remove, Cond.initialized RX5, Cond.code yX5_remove cX5_remove 3 none, Cond.fieldLink RX5 21 "SoundLaws$Stock" "size" "I", Cond.methodLink RX5 38 yX5_putOver, Cond.instanceMethod yX5_putOver, Cond.selects RX5 yX5_putOver yX5_putOver, Cond.code yX5_putOver cX5_putOver 3 none, Cond.fieldLink RX5 9 "SoundLaws$Stock" "kinds" "[I", Cond.fieldLink RX5 15 "SoundLaws$Stock" "lengths" "[I", Cond.fieldLink RX5 18 "SoundLaws$Stock" "words" "[I", Cond.methodLink RX5 28 arraycopyName, Cond.native arraycopyName]
def wsX8_take_r2 : List Cond := [Cond.static arraycopyName, Cond.initialized "java/lang/System", Cond.static yX8_wordAt, Cond.code yX8_wordAt cX8_wordAt 2 (some .int), Cond.methodLink RX8 196 yX4_loseSet, Cond.instanceMethod yX4_loseSet, Cond.selects RX4 yX4_loseSet yX4_loseSet, Cond.initialized RX4, Cond.code yX4_loseSet cX4_loseSet 3 none, Cond.fieldLink RX4 22 "SoundLaws$Sightings" "size" "I", Cond.fieldLink RX4 9 "SoundLaws$Sightings" "sets" "[I"]
def wsX8_take : List Cond := .code yX8_take cX8_take 2 (some .int) :: ((wsX8_take_r1 ++ wsX8_take_r2) ++ wsX80 ++ wsX50 ++ wsX40)
def wsX8_change : List Cond := .code yX8_change cX8_change 4 (some .int) :: ([.fieldLink RX8 23 "SoundLaws" "stock" "LSoundLaws$Stock;", .fieldLink RX8 110 "SoundLaws$Stock" "kinds" "[I", .fieldLink RX8 87 "SoundLaws" "studied" "Z", .methodLink RX8 96 yX8_isSet, .instanceMethod yX8_isSet, .selects RX8 yX8_isSet yX8_isSet, .initialized RX8, .code yX8_isSet cX8_isSet 2 (some .boolean), .fieldLink RX8 93 "SoundLaws$Stock" "size" "I", .methodLink RX8 107 yX8_isKind, .static yX8_isKind, .code yX8_isKind cX8_isKind 1 (some .boolean)] ++ wsX80 ++ wsX50)
def wsX8_swap_r1 : List Cond := [Cond.fieldLink RX8 23 "SoundLaws" "stock" "LSoundLaws$Stock;", Cond.fieldLink RX8 87 "SoundLaws" "studied" "Z", Cond.fieldLink RX8 37 "SoundLaws" "study" "LSoundLaws$Study;", Cond.fieldLink RX8 202 "SoundLaws$Study" "changesOfAll" "I", Cond.methodLink RX8 127 yX8_isTongue, Cond.instanceMethod yX8_isTongue, Cond.selects RX8 yX8_isTongue yX8_isTongue, Cond.initialized RX8, Cond.code yX8_isTongue cX8_isTongue 2 (some .boolean), Cond.fieldLink RX8 234 "SoundLaws$Stock" "tongues" "I", Cond.methodLink RX8 199 yX5_exchange, Cond.instanceMethod yX5_exchange, Cond.selects RX5 yX5_exchange yX5_exchange, Cond.initialized RX5, Cond.code yX5_exchange cX5_exchange 8 none, Cond.fieldLink RX5 21 "SoundLaws$Stock" "size" "I", Cond.fieldLink RX5 15 "SoundLaws$Stock" "lengths" "[I", Cond.fieldLink RX5 18 "SoundLaws$Stock" "words" "[I", Cond.static yX8_wordAt, Cond.code yX8_wordAt cX8_wordAt 2 (some .int), Cond.methodLink RX8 100 yX8_freshenStudy, Cond.instanceMethod yX8_freshenStudy, Cond.selects RX8 yX8_freshenStudy yX8_freshenStudy, Cond.code yX8_freshenStudy cX8_freshenStudy 1 none]
def wsX8_swap_r2 : List Cond := [Cond.methodLink RX8 254 yX6_renew, Cond.instanceMethod yX6_renew, Cond.selects RX6 yX6_renew yX6_renew, Cond.initialized RX6, Cond.code yX6_renew cX6_renew 3 none, Cond.fieldLink RX6 31 "SoundLaws$Study" "tree" "LSoundLaws$Tree;", Cond.fieldLink RX6 35 "SoundLaws$Stock" "tongues" "I", Cond.fieldLink RX6 45 "SoundLaws$Study" "changesOfAll" "I", Cond.fieldLink RX6 48 "SoundLaws$Stock" "size" "I", Cond.fieldLink RX6 24 "SoundLaws$Study" "laws" "LSoundLaws$Laws;", Cond.methodLink RX6 41 yX7_plant, Cond.instanceMethod yX7_plant, Cond.selects RX7 yX7_plant yX7_plant, Cond.initialized RX7, Cond.code yX7_plant cX7_plant 2 none, Cond.fieldLink RX7 18 "SoundLaws$Tree" "tongues" "I", Cond.methodLink RX6 51 yX6_rebuild, Cond.instanceMethod yX6_rebuild, Cond.selects RX6 yX6_rebuild yX6_rebuild, Cond.code yX6_rebuild cX6_rebuild 6 none, Cond.fieldLink RX6 15 "SoundLaws$Study" "changes" "[I", Cond.fieldLink RX6 90 "SoundLaws$Stock" "kinds" "[I", Cond.fieldLink RX6 75 "SoundLaws$Stock" "lengths" "[I", Cond.fieldLink RX6 93 "SoundLaws$Tree" "sounds" "[I"]
def wsX8_swap_r3 : List Cond := [Cond.fieldLink RX6 94 "SoundLaws$Stock" "words" "[I", Cond.fieldLink RX6 9 "SoundLaws$Study" "sounds" "[I", Cond.methodLink RX6 107 arraycopyName, Cond.native arraycopyName, Cond.static arraycopyName, Cond.initialized "java/lang/System", Cond.methodLink RX6 100 yX7_climb, Cond.instanceMethod yX7_climb, Cond.selects RX7 yX7_climb yX7_climb, Cond.code yX7_climb cX7_climb 5 (some .int), Cond.fieldLink RX7 15 "SoundLaws$Tree" "least" "[I", Cond.fieldLink RX7 9 "SoundLaws$Tree" "sounds" "[I", Cond.static yX8_nodesOf, Cond.code yX8_nodesOf cX8_nodesOf 1 (some .int), Cond.methodLink RX7 26 yX7_pairOf, Cond.instanceMethod yX7_pairOf, Cond.selects RX7 yX7_pairOf yX7_pairOf, Cond.code yX7_pairOf cX7_pairOf 2 (some .int), Cond.methodLink RX7 32 yX7_leastBelow, Cond.instanceMethod yX7_leastBelow, Cond.selects RX7 yX7_leastBelow yX7_leastBelow, Cond.code yX7_leastBelow cX7_leastBelow 8 (some .int), Cond.methodLink RX6 104 yX7_descend, Cond.instanceMethod yX7_descend]
def wsX8_swap_r4 : List Cond := [Cond.selects RX7 yX7_descend yX7_descend, Cond.code yX7_descend cX7_descend 3 none, Cond.methodLink RX7 36 yX7_root, Cond.instanceMethod yX7_root, Cond.selects RX7 yX7_root yX7_root, Cond.code yX7_root cX7_root 1 (some .int), Cond.methodLink RX7 40 yX7_settle, Cond.instanceMethod yX7_settle, Cond.selects RX7 yX7_settle yX7_settle, Cond.code yX7_settle cX7_settle 7 none, Cond.static yX8_costOf, Cond.code yX8_costOf cX8_costOf 2 (some .int), Cond.fieldLink RX8 288 "SoundLaws" "COSTS" "[I", Cond.static yX8_nodesAt, Cond.code yX8_nodesAt cX8_nodesAt 2 (some .int), Cond.methodLink RX6 55 yX2_clear, Cond.instanceMethod yX2_clear, Cond.selects RX2 yX2_clear yX2_clear, Cond.initialized RX2, Cond.code yX2_clear cX2_clear 1 none, Cond.fieldLink RX2 21 "SoundLaws$Laws" "weights" "[I", Cond.methodLink RX2 24 yJ7_fill_53178, Cond.static yJ7_fill_53178, Cond.initialized RJ7]
def wsX8_swap_r5 : List Cond := [Cond.code yJ7_fill_53178 cJ7_fill_53178 4 none, Cond.methodLink RX6 58 yX6_weigh, Cond.instanceMethod yX6_weigh, Cond.selects RX6 yX6_weigh yX6_weigh, Cond.code yX6_weigh cX6_weigh 8 none, Cond.methodLink RX6 116 yX6_oldSound, Cond.instanceMethod yX6_oldSound, Cond.selects RX6 yX6_oldSound yX6_oldSound, Cond.code yX6_oldSound cX6_oldSound 4 (some .int), Cond.static yX8_aheadAt, Cond.code yX8_aheadAt cX8_aheadAt 1 (some .int), Cond.static yX8_lawAt, Cond.code yX8_lawAt cX8_lawAt 3 (some .int), Cond.methodLink RX6 127 yX2_weigh, Cond.instanceMethod yX2_weigh, Cond.selects RX2 yX2_weigh yX2_weigh, Cond.code yX2_weigh cX2_weigh 4 none, Cond.methodLink RX6 61 yX2_settle, Cond.instanceMethod yX2_settle, Cond.selects RX2 yX2_settle yX2_settle, Cond.code yX2_settle cX2_settle 3 none, Cond.fieldLink RX2 30 "SoundLaws$Laws" "known" "I", Cond.fieldLink RX2 34 "SoundLaws$Laws" "exceptionsOfAll" "I", Cond.fieldLink RX2 9 "SoundLaws$Laws" "becomes" "[I"]
def wsX8_swap_r6 : List Cond := [Cond.fieldLink RX2 18 "SoundLaws$Laws" "exceptions" "[I", Cond.methodLink RX2 37 yX2_settleLaw, Cond.instanceMethod yX2_settleLaw, Cond.selects RX2 yX2_settleLaw yX2_settleLaw, Cond.code yX2_settleLaw cX2_settleLaw 7 none, Cond.fieldLink RX2 15 "SoundLaws$Laws" "follows" "[I", Cond.methodLink RX6 64 yX6_findStrange, Cond.instanceMethod yX6_findStrange, Cond.selects RX6 yX6_findStrange yX6_findStrange, Cond.code yX6_findStrange cX6_findStrange 8 none, Cond.fieldLink RX6 18 "SoundLaws$Study" "strangePlaces" "[I", Cond.fieldLink RX6 130 "SoundLaws$Laws" "becomes" "[I"]
def wsX8_swap : List Cond := .code yX8_swap cX8_swap 3 (some .int) :: ((wsX8_swap_r1 ++ (wsX8_swap_r2 ++ (wsX8_swap_r3 ++ (wsX8_swap_r4 ++ (wsX8_swap_r5 ++ wsX8_swap_r6))))) ++ wsX80 ++ wsX60 ++ wsX50 ++ wsX70 ++ wsX20)
def wsX8_see : List Cond := .code yX8_see cX8_see 4 (some .int) :: ([.fieldLink RX8 30 "SoundLaws" "sightings" "LSoundLaws$Sightings;", .fieldLink RX8 205 "SoundLaws$Sightings" "size" "I", .methodLink RX8 96 yX8_isSet, .instanceMethod yX8_isSet, .selects RX8 yX8_isSet yX8_isSet, .initialized RX8, .code yX8_isSet cX8_isSet 2 (some .boolean), .fieldLink RX8 23 "SoundLaws" "stock" "LSoundLaws$Stock;", .fieldLink RX8 93 "SoundLaws$Stock" "size" "I", .methodLink RX8 206 yX4_add, .instanceMethod yX4_add, .selects RX4 yX4_add yX4_add, .initialized RX4, .code yX4_add cX4_add 4 none, .fieldLink RX4 9 "SoundLaws$Sightings" "sets" "[I", .fieldLink RX4 22 "SoundLaws$Sightings" "size" "I", .fieldLink RX4 15 "SoundLaws$Sightings" "questions" "[I", .fieldLink RX4 18 "SoundLaws$Sightings" "answers" "[Z"] ++ wsX80 ++ wsX40 ++ wsX50)
def wsX8_forget : List Cond := .code yX8_forget cX8_forget 2 (some .int) :: ([.fieldLink RX8 30 "SoundLaws" "sightings" "LSoundLaws$Sightings;", .fieldLink RX8 205 "SoundLaws$Sightings" "size" "I", .methodLink RX8 80 yX4_clear, .instanceMethod yX4_clear, .selects RX4 yX4_clear yX4_clear, .initialized RX4, .code yX4_clear cX4_clear 1 none, .fieldLink RX4 22 "SoundLaws$Sightings" "size" "I"] ++ wsX80 ++ wsX40)
def wsX8_drawn_r1 : List Cond := [Cond.fieldLink RX8 57 "SoundLaws" "draws" "LSoundLaws$Draws;", Cond.fieldLink RX8 213 "SoundLaws$Draws" "changes" "I", Cond.fieldLink RX8 216 "SoundLaws$Draws" "foreign" "I", Cond.fieldLink RX8 219 "SoundLaws$Draws" "seed" "I", Cond.methodLink RX8 210 yX1_drawSets, Cond.instanceMethod yX1_drawSets, Cond.selects RX1 yX1_drawSets yX1_drawSets, Cond.initialized RX1, Cond.code yX1_drawSets cX1_drawSets 5 none, Cond.fieldLink RX1 18 "SoundLaws$Draws" "seed" "I", Cond.fieldLink RX1 22 "SoundLaws$Draws" "changes" "I", Cond.fieldLink RX1 25 "SoundLaws$Draws" "foreign" "I", Cond.fieldLink RX1 12 "SoundLaws$Draws" "tree" "LSoundLaws$Tree;", Cond.fieldLink RX1 32 "SoundLaws$Tree" "sounds" "[I", Cond.methodLink RX1 28 yX7_plant, Cond.instanceMethod yX7_plant, Cond.selects RX7 yX7_plant yX7_plant, Cond.initialized RX7, Cond.code yX7_plant cX7_plant 2 none, Cond.fieldLink RX7 18 "SoundLaws$Tree" "tongues" "I", Cond.methodLink RX1 36 yX1_drawSound, Cond.instanceMethod yX1_drawSound, Cond.selects RX1 yX1_drawSound yX1_drawSound, Cond.code yX1_drawSound cX1_drawSound 1 (some .int)]
def wsX8_drawn_r2 : List Cond := [Cond.constantLong RX1 50 (1103515245), Cond.constantLong RX1 52 (12345), Cond.constantLong RX1 54 (2147483648), Cond.constant RX1 56 (65536), Cond.methodLink RX1 40 yX7_climb, Cond.instanceMethod yX7_climb, Cond.selects RX7 yX7_climb yX7_climb, Cond.code yX7_climb cX7_climb 5 (some .int), Cond.fieldLink RX7 15 "SoundLaws$Tree" "least" "[I", Cond.fieldLink RX7 9 "SoundLaws$Tree" "sounds" "[I", Cond.static yX8_nodesOf, Cond.initialized RX8, Cond.code yX8_nodesOf cX8_nodesOf 1 (some .int), Cond.methodLink RX7 26 yX7_pairOf, Cond.instanceMethod yX7_pairOf, Cond.selects RX7 yX7_pairOf yX7_pairOf, Cond.code yX7_pairOf cX7_pairOf 2 (some .int), Cond.methodLink RX7 32 yX7_leastBelow, Cond.instanceMethod yX7_leastBelow, Cond.selects RX7 yX7_leastBelow yX7_leastBelow, Cond.code yX7_leastBelow cX7_leastBelow 8 (some .int), Cond.methodLink RX1 43 yX7_root, Cond.instanceMethod yX7_root, Cond.selects RX7 yX7_root yX7_root]
def wsX8_drawn_r3 : List Cond := [Cond.code yX7_root cX7_root 1 (some .int), Cond.methodLink RX1 46 yX1_isForeign, Cond.instanceMethod yX1_isForeign, Cond.selects RX1 yX1_isForeign yX1_isForeign, Cond.code yX1_isForeign cX1_isForeign 3 (some .boolean)]
def wsX8_drawn : List Cond := .code yX8_drawn cX8_drawn 4 (some .int) :: ((wsX8_drawn_r1 ++ (wsX8_drawn_r2 ++ wsX8_drawn_r3)) ++ wsX80 ++ wsX10 ++ wsX70)
def wsX8_image_r1 : List Cond := [Cond.fieldLink RX8 23 "SoundLaws" "stock" "LSoundLaws$Stock;", Cond.fieldLink RX8 93 "SoundLaws$Stock" "size" "I", Cond.fieldLink RX8 41 "SoundLaws" "keptStock" "LSoundLaws$Stock;", Cond.fieldLink RX8 44 "SoundLaws" "keptSightings" "LSoundLaws$Sightings;", Cond.fieldLink RX8 30 "SoundLaws" "sightings" "LSoundLaws$Sightings;", Cond.fieldLink RX8 83 "SoundLaws" "kept" "Z", Cond.methodLink RX8 76 yX5_become, Cond.instanceMethod yX5_become, Cond.selects RX5 yX5_become yX5_become, Cond.initialized RX5, Cond.code yX5_become cX5_become 2 none, Cond.fieldLink RX5 21 "SoundLaws$Stock" "size" "I", Cond.fieldLink RX5 25 "SoundLaws$Stock" "tongues" "I", Cond.fieldLink RX5 9 "SoundLaws$Stock" "kinds" "[I", Cond.methodLink RX5 28 arraycopyName, Cond.native arraycopyName, Cond.static arraycopyName, Cond.initialized "java/lang/System", Cond.fieldLink RX5 15 "SoundLaws$Stock" "lengths" "[I", Cond.fieldLink RX5 18 "SoundLaws$Stock" "words" "[I", Cond.methodLink RX8 222 yX4_become, Cond.instanceMethod yX4_become, Cond.selects RX4 yX4_become yX4_become, Cond.initialized RX4]
def wsX8_image_r2 : List Cond := [Cond.code yX4_become cX4_become 3 none, Cond.fieldLink RX4 22 "SoundLaws$Sightings" "size" "I", Cond.fieldLink RX4 9 "SoundLaws$Sightings" "sets" "[I", Cond.fieldLink RX4 15 "SoundLaws$Sightings" "questions" "[I", Cond.fieldLink RX4 18 "SoundLaws$Sightings" "answers" "[Z", Cond.methodLink RX4 26 yX4_add, Cond.instanceMethod yX4_add, Cond.selects RX4 yX4_add yX4_add, Cond.code yX4_add cX4_add 4 none]
def wsX8_image : List Cond := .code yX8_image cX8_image 1 (some .int) :: ((wsX8_image_r1 ++ wsX8_image_r2) ++ wsX80 ++ wsX50 ++ wsX40)
def wsX8_restore_r1 : List Cond := [Cond.fieldLink RX8 83 "SoundLaws" "kept" "Z", Cond.fieldLink RX8 23 "SoundLaws" "stock" "LSoundLaws$Stock;", Cond.fieldLink RX8 41 "SoundLaws" "keptStock" "LSoundLaws$Stock;", Cond.fieldLink RX8 30 "SoundLaws" "sightings" "LSoundLaws$Sightings;", Cond.fieldLink RX8 44 "SoundLaws" "keptSightings" "LSoundLaws$Sightings;", Cond.fieldLink RX8 87 "SoundLaws" "studied" "Z", Cond.fieldLink RX8 93 "SoundLaws$Stock" "size" "I", Cond.methodLink RX8 76 yX5_become, Cond.instanceMethod yX5_become, Cond.selects RX5 yX5_become yX5_become, Cond.initialized RX5, Cond.code yX5_become cX5_become 2 none, Cond.fieldLink RX5 21 "SoundLaws$Stock" "size" "I", Cond.fieldLink RX5 25 "SoundLaws$Stock" "tongues" "I", Cond.fieldLink RX5 9 "SoundLaws$Stock" "kinds" "[I", Cond.methodLink RX5 28 arraycopyName, Cond.native arraycopyName, Cond.static arraycopyName, Cond.initialized "java/lang/System", Cond.fieldLink RX5 15 "SoundLaws$Stock" "lengths" "[I", Cond.fieldLink RX5 18 "SoundLaws$Stock" "words" "[I", Cond.methodLink RX8 222 yX4_become, Cond.instanceMethod yX4_become, Cond.selects RX4 yX4_become yX4_become]
def wsX8_restore_r2 : List Cond := [Cond.initialized RX4, Cond.code yX4_become cX4_become 3 none, Cond.fieldLink RX4 22 "SoundLaws$Sightings" "size" "I", Cond.fieldLink RX4 9 "SoundLaws$Sightings" "sets" "[I", Cond.fieldLink RX4 15 "SoundLaws$Sightings" "questions" "[I", Cond.fieldLink RX4 18 "SoundLaws$Sightings" "answers" "[Z", Cond.methodLink RX4 26 yX4_add, Cond.instanceMethod yX4_add, Cond.selects RX4 yX4_add yX4_add, Cond.code yX4_add cX4_add 4 none]
def wsX8_restore : List Cond := .code yX8_restore cX8_restore 1 (some .int) :: ((wsX8_restore_r1 ++ wsX8_restore_r2) ++ wsX80 ++ wsX50 ++ wsX40)
def wsX8_tellOfAll_r1 : List Cond := [Cond.fieldLink RX8 23 "SoundLaws" "stock" "LSoundLaws$Stock;", Cond.fieldLink RX8 93 "SoundLaws$Stock" "size" "I", Cond.fieldLink RX8 234 "SoundLaws$Stock" "tongues" "I", Cond.fieldLink RX8 37 "SoundLaws" "study" "LSoundLaws$Study;", Cond.fieldLink RX8 202 "SoundLaws$Study" "changesOfAll" "I", Cond.fieldLink RX8 133 "SoundLaws$Study" "laws" "LSoundLaws$Laws;", Cond.fieldLink RX8 278 "SoundLaws$Laws" "known" "I", Cond.fieldLink RX8 281 "SoundLaws$Laws" "exceptionsOfAll" "I", Cond.fieldLink RX8 30 "SoundLaws" "sightings" "LSoundLaws$Sightings;", Cond.fieldLink RX8 205 "SoundLaws$Sightings" "size" "I", Cond.fieldLink RX8 61 "SoundLaws" "letters" "I", Cond.fieldLink RX8 90 "SoundLaws" "readings" "I", Cond.methodLink RX8 243 yX8_nodesOf, Cond.static yX8_nodesOf, Cond.initialized RX8, Cond.code yX8_nodesOf cX8_nodesOf 1 (some .int), Cond.methodLink RX8 284 yX6_borrowedWords, Cond.instanceMethod yX6_borrowedWords, Cond.selects RX6 yX6_borrowedWords yX6_borrowedWords, Cond.initialized RX6, Cond.code yX6_borrowedWords cX6_borrowedWords 4 (some .int), Cond.fieldLink RX6 48 "SoundLaws$Stock" "size" "I", Cond.methodLink RX6 78 yX6_borrowedTongues, Cond.instanceMethod yX6_borrowedTongues]
def wsX8_tellOfAll_r2 : List Cond := [Cond.selects RX6 yX6_borrowedTongues yX6_borrowedTongues, Cond.code yX6_borrowedTongues cX6_borrowedTongues 6 (some .int), Cond.fieldLink RX6 35 "SoundLaws$Stock" "tongues" "I", Cond.fieldLink RX6 18 "SoundLaws$Study" "strangePlaces" "[I", Cond.fieldLink RX6 75 "SoundLaws$Stock" "lengths" "[I", Cond.methodLink RX6 82 yJ6_bitCount_0f7a4, Cond.static yJ6_bitCount_0f7a4, Cond.initialized RJ6, Cond.code yJ6_bitCount_0f7a4 cJ6_bitCount_0f7a4 1 (some .int), Cond.constant RJ6 265 (1431655765), Cond.constant RJ6 266 (858993459), Cond.constant RJ6 267 (252645135)]
def wsX8_tellOfAll : List Cond := .code yX8_tellOfAll cX8_tellOfAll 2 (some .int) :: ((wsX8_tellOfAll_r1 ++ wsX8_tellOfAll_r2) ++ wsX80 ++ wsX50 ++ wsX60 ++ wsX20 ++ wsX40)
def wsX8_count_r1 : List Cond := [Cond.methodLink RX8 100 yX8_freshenStudy, Cond.instanceMethod yX8_freshenStudy, Cond.selects RX8 yX8_freshenStudy yX8_freshenStudy, Cond.initialized RX8, Cond.code yX8_freshenStudy cX8_freshenStudy 1 none, Cond.fieldLink RX8 87 "SoundLaws" "studied" "Z", Cond.fieldLink RX8 37 "SoundLaws" "study" "LSoundLaws$Study;", Cond.fieldLink RX8 23 "SoundLaws" "stock" "LSoundLaws$Stock;", Cond.methodLink RX8 254 yX6_renew, Cond.instanceMethod yX6_renew, Cond.selects RX6 yX6_renew yX6_renew, Cond.initialized RX6, Cond.code yX6_renew cX6_renew 3 none, Cond.fieldLink RX6 31 "SoundLaws$Study" "tree" "LSoundLaws$Tree;", Cond.fieldLink RX6 35 "SoundLaws$Stock" "tongues" "I", Cond.fieldLink RX6 45 "SoundLaws$Study" "changesOfAll" "I", Cond.fieldLink RX6 48 "SoundLaws$Stock" "size" "I", Cond.fieldLink RX6 24 "SoundLaws$Study" "laws" "LSoundLaws$Laws;", Cond.methodLink RX6 41 yX7_plant, Cond.instanceMethod yX7_plant, Cond.selects RX7 yX7_plant yX7_plant, Cond.initialized RX7, Cond.code yX7_plant cX7_plant 2 none, Cond.fieldLink RX7 18 "SoundLaws$Tree" "tongues" "I"]
def wsX8_count_r2 : List Cond := [Cond.methodLink RX6 51 yX6_rebuild, Cond.instanceMethod yX6_rebuild, Cond.selects RX6 yX6_rebuild yX6_rebuild, Cond.code yX6_rebuild cX6_rebuild 6 none, Cond.fieldLink RX6 15 "SoundLaws$Study" "changes" "[I", Cond.fieldLink RX6 90 "SoundLaws$Stock" "kinds" "[I", Cond.fieldLink RX6 75 "SoundLaws$Stock" "lengths" "[I", Cond.fieldLink RX6 93 "SoundLaws$Tree" "sounds" "[I", Cond.fieldLink RX6 94 "SoundLaws$Stock" "words" "[I", Cond.fieldLink RX6 9 "SoundLaws$Study" "sounds" "[I", Cond.methodLink RX6 107 arraycopyName, Cond.native arraycopyName, Cond.static arraycopyName, Cond.initialized "java/lang/System", Cond.static yX8_wordAt, Cond.code yX8_wordAt cX8_wordAt 2 (some .int), Cond.methodLink RX6 100 yX7_climb, Cond.instanceMethod yX7_climb, Cond.selects RX7 yX7_climb yX7_climb, Cond.code yX7_climb cX7_climb 5 (some .int), Cond.fieldLink RX7 15 "SoundLaws$Tree" "least" "[I", Cond.fieldLink RX7 9 "SoundLaws$Tree" "sounds" "[I", Cond.static yX8_nodesOf, Cond.code yX8_nodesOf cX8_nodesOf 1 (some .int)]
def wsX8_count_r3 : List Cond := [Cond.methodLink RX7 26 yX7_pairOf, Cond.instanceMethod yX7_pairOf, Cond.selects RX7 yX7_pairOf yX7_pairOf, Cond.code yX7_pairOf cX7_pairOf 2 (some .int), Cond.methodLink RX7 32 yX7_leastBelow, Cond.instanceMethod yX7_leastBelow, Cond.selects RX7 yX7_leastBelow yX7_leastBelow, Cond.code yX7_leastBelow cX7_leastBelow 8 (some .int), Cond.methodLink RX6 104 yX7_descend, Cond.instanceMethod yX7_descend, Cond.selects RX7 yX7_descend yX7_descend, Cond.code yX7_descend cX7_descend 3 none, Cond.methodLink RX7 36 yX7_root, Cond.instanceMethod yX7_root, Cond.selects RX7 yX7_root yX7_root, Cond.code yX7_root cX7_root 1 (some .int), Cond.methodLink RX7 40 yX7_settle, Cond.instanceMethod yX7_settle, Cond.selects RX7 yX7_settle yX7_settle, Cond.code yX7_settle cX7_settle 7 none, Cond.static yX8_costOf, Cond.code yX8_costOf cX8_costOf 2 (some .int), Cond.fieldLink RX8 288 "SoundLaws" "COSTS" "[I", Cond.static yX8_nodesAt]
def wsX8_count_r4 : List Cond := [Cond.code yX8_nodesAt cX8_nodesAt 2 (some .int), Cond.methodLink RX6 55 yX2_clear, Cond.instanceMethod yX2_clear, Cond.selects RX2 yX2_clear yX2_clear, Cond.initialized RX2, Cond.code yX2_clear cX2_clear 1 none, Cond.fieldLink RX2 21 "SoundLaws$Laws" "weights" "[I", Cond.methodLink RX2 24 yJ7_fill_53178, Cond.static yJ7_fill_53178, Cond.initialized RJ7, Cond.code yJ7_fill_53178 cJ7_fill_53178 4 none, Cond.methodLink RX6 58 yX6_weigh, Cond.instanceMethod yX6_weigh, Cond.selects RX6 yX6_weigh yX6_weigh, Cond.code yX6_weigh cX6_weigh 8 none, Cond.methodLink RX6 116 yX6_oldSound, Cond.instanceMethod yX6_oldSound, Cond.selects RX6 yX6_oldSound yX6_oldSound, Cond.code yX6_oldSound cX6_oldSound 4 (some .int), Cond.static yX8_aheadAt, Cond.code yX8_aheadAt cX8_aheadAt 1 (some .int), Cond.static yX8_lawAt, Cond.code yX8_lawAt cX8_lawAt 3 (some .int), Cond.methodLink RX6 127 yX2_weigh]
def wsX8_count_r5 : List Cond := [Cond.instanceMethod yX2_weigh, Cond.selects RX2 yX2_weigh yX2_weigh, Cond.code yX2_weigh cX2_weigh 4 none, Cond.methodLink RX6 61 yX2_settle, Cond.instanceMethod yX2_settle, Cond.selects RX2 yX2_settle yX2_settle, Cond.code yX2_settle cX2_settle 3 none, Cond.fieldLink RX2 30 "SoundLaws$Laws" "known" "I", Cond.fieldLink RX2 34 "SoundLaws$Laws" "exceptionsOfAll" "I", Cond.fieldLink RX2 9 "SoundLaws$Laws" "becomes" "[I", Cond.fieldLink RX2 18 "SoundLaws$Laws" "exceptions" "[I", Cond.methodLink RX2 37 yX2_settleLaw, Cond.instanceMethod yX2_settleLaw, Cond.selects RX2 yX2_settleLaw yX2_settleLaw, Cond.code yX2_settleLaw cX2_settleLaw 7 none, Cond.fieldLink RX2 15 "SoundLaws$Laws" "follows" "[I", Cond.methodLink RX6 64 yX6_findStrange, Cond.instanceMethod yX6_findStrange, Cond.selects RX6 yX6_findStrange yX6_findStrange, Cond.code yX6_findStrange cX6_findStrange 8 none, Cond.fieldLink RX6 18 "SoundLaws$Study" "strangePlaces" "[I", Cond.fieldLink RX6 130 "SoundLaws$Laws" "becomes" "[I", Cond.methodLink RX8 225 yX8_tellOfAll, Cond.instanceMethod yX8_tellOfAll]
def wsX8_count_r6 : List Cond := [Cond.selects RX8 yX8_tellOfAll yX8_tellOfAll, Cond.code yX8_tellOfAll cX8_tellOfAll 2 (some .int), Cond.fieldLink RX8 93 "SoundLaws$Stock" "size" "I", Cond.fieldLink RX8 234 "SoundLaws$Stock" "tongues" "I", Cond.fieldLink RX8 202 "SoundLaws$Study" "changesOfAll" "I", Cond.fieldLink RX8 133 "SoundLaws$Study" "laws" "LSoundLaws$Laws;", Cond.fieldLink RX8 278 "SoundLaws$Laws" "known" "I", Cond.fieldLink RX8 281 "SoundLaws$Laws" "exceptionsOfAll" "I", Cond.fieldLink RX8 30 "SoundLaws" "sightings" "LSoundLaws$Sightings;", Cond.fieldLink RX8 205 "SoundLaws$Sightings" "size" "I", Cond.fieldLink RX8 61 "SoundLaws" "letters" "I", Cond.fieldLink RX8 90 "SoundLaws" "readings" "I", Cond.methodLink RX8 243 yX8_nodesOf, Cond.methodLink RX8 284 yX6_borrowedWords, Cond.instanceMethod yX6_borrowedWords, Cond.selects RX6 yX6_borrowedWords yX6_borrowedWords, Cond.code yX6_borrowedWords cX6_borrowedWords 4 (some .int), Cond.methodLink RX6 78 yX6_borrowedTongues, Cond.instanceMethod yX6_borrowedTongues, Cond.selects RX6 yX6_borrowedTongues yX6_borrowedTongues, Cond.code yX6_borrowedTongues cX6_borrowedTongues 6 (some .int), Cond.methodLink RX6 82 yJ6_bitCount_0f7a4, Cond.static yJ6_bitCount_0f7a4, Cond.initialized RJ6]
def wsX8_count_r7 : List Cond := [Cond.code yJ6_bitCount_0f7a4 cJ6_bitCount_0f7a4 1 (some .int), Cond.constant RJ6 265 (1431655765), Cond.constant RJ6 266 (858993459), Cond.constant RJ6 267 (252645135)]
def wsX8_count : List Cond := .code yX8_count cX8_count 2 (some .int) :: ((wsX8_count_r1 ++ (wsX8_count_r2 ++ (wsX8_count_r3 ++ (wsX8_count_r4 ++ (wsX8_count_r5 ++ (wsX8_count_r6 ++ wsX8_count_r7)))))) ++ wsX80 ++ wsX60 ++ wsX50 ++ wsX70 ++ wsX20 ++ wsX40)
def wsX8_mixed : List Cond := .code yX8_mixed cX8_mixed 3 (some .long) :: ([.constantLong RX8 246 (31)])
def wsX8_digestSet_r1 : List Cond := [Cond.fieldLink RX8 23 "SoundLaws" "stock" "LSoundLaws$Stock;", Cond.fieldLink RX8 234 "SoundLaws$Stock" "tongues" "I", Cond.fieldLink RX8 168 "SoundLaws$Stock" "lengths" "[I", Cond.methodLink RX8 103 yX8_tellOfSet, Cond.instanceMethod yX8_tellOfSet, Cond.selects RX8 yX8_tellOfSet yX8_tellOfSet, Cond.initialized RX8, Cond.code yX8_tellOfSet cX8_tellOfSet 3 (some .int), Cond.fieldLink RX8 110 "SoundLaws$Stock" "kinds" "[I", Cond.fieldLink RX8 37 "SoundLaws" "study" "LSoundLaws$Study;", Cond.fieldLink RX8 257 "SoundLaws$Study" "changes" "[I", Cond.fieldLink RX8 30 "SoundLaws" "sightings" "LSoundLaws$Sightings;", Cond.methodLink RX8 259 yX6_strangeInSet, Cond.instanceMethod yX6_strangeInSet, Cond.selects RX6 yX6_strangeInSet yX6_strangeInSet, Cond.initialized RX6, Cond.code yX6_strangeInSet cX6_strangeInSet 4 (some .int), Cond.fieldLink RX6 18 "SoundLaws$Study" "strangePlaces" "[I", Cond.methodLink RX8 262 yX6_borrowedTongues, Cond.instanceMethod yX6_borrowedTongues, Cond.selects RX6 yX6_borrowedTongues yX6_borrowedTongues, Cond.code yX6_borrowedTongues cX6_borrowedTongues 6 (some .int), Cond.fieldLink RX6 35 "SoundLaws$Stock" "tongues" "I", Cond.fieldLink RX6 75 "SoundLaws$Stock" "lengths" "[I"]
def wsX8_digestSet_r2 : List Cond := [Cond.methodLink RX8 266 yX4_sortsOf, Cond.instanceMethod yX4_sortsOf, Cond.selects RX4 yX4_sortsOf yX4_sortsOf, Cond.initialized RX4, Cond.code yX4_sortsOf cX4_sortsOf 5 (some .int), Cond.fieldLink RX4 22 "SoundLaws$Sightings" "size" "I", Cond.fieldLink RX4 9 "SoundLaws$Sightings" "sets" "[I", Cond.fieldLink RX4 15 "SoundLaws$Sightings" "questions" "[I", Cond.fieldLink RX4 18 "SoundLaws$Sightings" "answers" "[Z", Cond.methodLink RX4 30 yX4_sortsThatCould, Cond.static yX4_sortsThatCould, Cond.code yX4_sortsThatCould cX4_sortsThatCould 3 (some .int), Cond.methodLink RX4 48 yX4_could, Cond.static yX4_could, Cond.code yX4_could cX4_could 2 (some .boolean), Cond.methodLink RX8 269 yX4_questionFor, Cond.instanceMethod yX4_questionFor, Cond.selects RX4 yX4_questionFor yX4_questionFor, Cond.code yX4_questionFor cX4_questionFor 8 (some .int), Cond.methodLink RX4 42 Lib.Math.max.name, Cond.static Lib.Math.max.name, Cond.initialized "java/lang/Math", Cond.code Lib.Math.max.name Lib.Math.max.code 2 (some .int), Cond.methodLink RX4 34 yX4_sortsOf]
def wsX8_digestSet_r3 : List Cond := [Cond.methodLink RX4 37 yJ6_bitCount_0f7a4, Cond.static yJ6_bitCount_0f7a4, Cond.initialized RJ6, Cond.code yJ6_bitCount_0f7a4 cJ6_bitCount_0f7a4 1 (some .int), Cond.constant RJ6 265 (1431655765), Cond.constant RJ6 266 (858993459), Cond.constant RJ6 267 (252645135), Cond.methodLink RX8 240 yX8_mixed, Cond.static yX8_mixed, Cond.code yX8_mixed cX8_mixed 3 (some .long), Cond.constantLong RX8 246 (31), Cond.methodLink RX8 243 yX8_nodesOf, Cond.static yX8_nodesOf, Cond.code yX8_nodesOf cX8_nodesOf 1 (some .int), Cond.methodLink RX8 123 yX8_tellOfNode, Cond.instanceMethod yX8_tellOfNode, Cond.selects RX8 yX8_tellOfNode yX8_tellOfNode, Cond.code yX8_tellOfNode cX8_tellOfNode 4 (some .int), Cond.fieldLink RX8 162 "SoundLaws$Stock" "words" "[I", Cond.fieldLink RX8 145 "SoundLaws" "REBUILDS" "[I", Cond.fieldLink RX8 272 "SoundLaws$Study" "sounds" "[I", Cond.methodLink RX8 165 yX8_wordAt, Cond.static yX8_wordAt, Cond.code yX8_wordAt cX8_wordAt 2 (some .int)]
def wsX8_digestSet_r4 : List Cond := [Cond.methodLink RX8 275 yX8_nodesAt, Cond.static yX8_nodesAt, Cond.code yX8_nodesAt cX8_nodesAt 2 (some .int)]
def wsX8_digestSet : List Cond := .code yX8_digestSet cX8_digestSet 9 (some .long) :: ((wsX8_digestSet_r1 ++ (wsX8_digestSet_r2 ++ (wsX8_digestSet_r3 ++ wsX8_digestSet_r4))) ++ wsX80 ++ wsX50 ++ wsX60 ++ wsX40)
def wsX8_digestLaws : List Cond := .code yX8_digestLaws cX8_digestLaws 10 (some .long) :: ([.fieldLink RX8 37 "SoundLaws" "study" "LSoundLaws$Study;", .fieldLink RX8 133 "SoundLaws$Study" "laws" "LSoundLaws$Laws;", .methodLink RX8 137 yX8_lawAt, .static yX8_lawAt, .initialized RX8, .code yX8_lawAt cX8_lawAt 3 (some .int), .methodLink RX8 140 yX2_tell, .instanceMethod yX2_tell, .selects RX2 yX2_tell yX2_tell, .initialized RX2, .code yX2_tell cX2_tell 3 (some .int), .fieldLink RX2 9 "SoundLaws$Laws" "becomes" "[I", .fieldLink RX2 15 "SoundLaws$Laws" "follows" "[I", .fieldLink RX2 18 "SoundLaws$Laws" "exceptions" "[I", .methodLink RX8 240 yX8_mixed, .static yX8_mixed, .code yX8_mixed cX8_mixed 3 (some .long), .constantLong RX8 246 (31)] ++ wsX80 ++ wsX60 ++ wsX20)
def wsX8_digest_r1 : List Cond := [Cond.constantLong RX8 228 (1459), Cond.fieldLink RX8 23 "SoundLaws" "stock" "LSoundLaws$Stock;", Cond.fieldLink RX8 93 "SoundLaws$Stock" "size" "I", Cond.fieldLink RX8 234 "SoundLaws$Stock" "tongues" "I", Cond.fieldLink RX8 61 "SoundLaws" "letters" "I", Cond.fieldLink RX8 9 "SoundLaws" "page" "[I", Cond.methodLink RX8 100 yX8_freshenStudy, Cond.instanceMethod yX8_freshenStudy, Cond.selects RX8 yX8_freshenStudy yX8_freshenStudy, Cond.initialized RX8, Cond.code yX8_freshenStudy cX8_freshenStudy 1 none, Cond.fieldLink RX8 87 "SoundLaws" "studied" "Z", Cond.fieldLink RX8 37 "SoundLaws" "study" "LSoundLaws$Study;", Cond.methodLink RX8 254 yX6_renew, Cond.instanceMethod yX6_renew, Cond.selects RX6 yX6_renew yX6_renew, Cond.initialized RX6, Cond.code yX6_renew cX6_renew 3 none, Cond.fieldLink RX6 31 "SoundLaws$Study" "tree" "LSoundLaws$Tree;", Cond.fieldLink RX6 35 "SoundLaws$Stock" "tongues" "I", Cond.fieldLink RX6 45 "SoundLaws$Study" "changesOfAll" "I", Cond.fieldLink RX6 48 "SoundLaws$Stock" "size" "I", Cond.fieldLink RX6 24 "SoundLaws$Study" "laws" "LSoundLaws$Laws;", Cond.methodLink RX6 41 yX7_plant]
def wsX8_digest_r2 : List Cond := [Cond.instanceMethod yX7_plant, Cond.selects RX7 yX7_plant yX7_plant, Cond.initialized RX7, Cond.code yX7_plant cX7_plant 2 none, Cond.fieldLink RX7 18 "SoundLaws$Tree" "tongues" "I", Cond.methodLink RX6 51 yX6_rebuild, Cond.instanceMethod yX6_rebuild, Cond.selects RX6 yX6_rebuild yX6_rebuild, Cond.code yX6_rebuild cX6_rebuild 6 none, Cond.fieldLink RX6 15 "SoundLaws$Study" "changes" "[I", Cond.fieldLink RX6 90 "SoundLaws$Stock" "kinds" "[I", Cond.fieldLink RX6 75 "SoundLaws$Stock" "lengths" "[I", Cond.fieldLink RX6 93 "SoundLaws$Tree" "sounds" "[I", Cond.fieldLink RX6 94 "SoundLaws$Stock" "words" "[I", Cond.fieldLink RX6 9 "SoundLaws$Study" "sounds" "[I", Cond.methodLink RX6 107 arraycopyName, Cond.native arraycopyName, Cond.static arraycopyName, Cond.initialized "java/lang/System", Cond.static yX8_wordAt, Cond.code yX8_wordAt cX8_wordAt 2 (some .int), Cond.methodLink RX6 100 yX7_climb, Cond.instanceMethod yX7_climb, Cond.selects RX7 yX7_climb yX7_climb]
def wsX8_digest_r3 : List Cond := [Cond.code yX7_climb cX7_climb 5 (some .int), Cond.fieldLink RX7 15 "SoundLaws$Tree" "least" "[I", Cond.fieldLink RX7 9 "SoundLaws$Tree" "sounds" "[I", Cond.static yX8_nodesOf, Cond.code yX8_nodesOf cX8_nodesOf 1 (some .int), Cond.methodLink RX7 26 yX7_pairOf, Cond.instanceMethod yX7_pairOf, Cond.selects RX7 yX7_pairOf yX7_pairOf, Cond.code yX7_pairOf cX7_pairOf 2 (some .int), Cond.methodLink RX7 32 yX7_leastBelow, Cond.instanceMethod yX7_leastBelow, Cond.selects RX7 yX7_leastBelow yX7_leastBelow, Cond.code yX7_leastBelow cX7_leastBelow 8 (some .int), Cond.methodLink RX6 104 yX7_descend, Cond.instanceMethod yX7_descend, Cond.selects RX7 yX7_descend yX7_descend, Cond.code yX7_descend cX7_descend 3 none, Cond.methodLink RX7 36 yX7_root, Cond.instanceMethod yX7_root, Cond.selects RX7 yX7_root yX7_root, Cond.code yX7_root cX7_root 1 (some .int), Cond.methodLink RX7 40 yX7_settle, Cond.instanceMethod yX7_settle, Cond.selects RX7 yX7_settle yX7_settle]
def wsX8_digest_r4 : List Cond := [Cond.code yX7_settle cX7_settle 7 none, Cond.static yX8_costOf, Cond.code yX8_costOf cX8_costOf 2 (some .int), Cond.fieldLink RX8 288 "SoundLaws" "COSTS" "[I", Cond.static yX8_nodesAt, Cond.code yX8_nodesAt cX8_nodesAt 2 (some .int), Cond.methodLink RX6 55 yX2_clear, Cond.instanceMethod yX2_clear, Cond.selects RX2 yX2_clear yX2_clear, Cond.initialized RX2, Cond.code yX2_clear cX2_clear 1 none, Cond.fieldLink RX2 21 "SoundLaws$Laws" "weights" "[I", Cond.methodLink RX2 24 yJ7_fill_53178, Cond.static yJ7_fill_53178, Cond.initialized RJ7, Cond.code yJ7_fill_53178 cJ7_fill_53178 4 none, Cond.methodLink RX6 58 yX6_weigh, Cond.instanceMethod yX6_weigh, Cond.selects RX6 yX6_weigh yX6_weigh, Cond.code yX6_weigh cX6_weigh 8 none, Cond.methodLink RX6 116 yX6_oldSound, Cond.instanceMethod yX6_oldSound, Cond.selects RX6 yX6_oldSound yX6_oldSound, Cond.code yX6_oldSound cX6_oldSound 4 (some .int)]
def wsX8_digest_r5 : List Cond := [Cond.static yX8_aheadAt, Cond.code yX8_aheadAt cX8_aheadAt 1 (some .int), Cond.static yX8_lawAt, Cond.code yX8_lawAt cX8_lawAt 3 (some .int), Cond.methodLink RX6 127 yX2_weigh, Cond.instanceMethod yX2_weigh, Cond.selects RX2 yX2_weigh yX2_weigh, Cond.code yX2_weigh cX2_weigh 4 none, Cond.methodLink RX6 61 yX2_settle, Cond.instanceMethod yX2_settle, Cond.selects RX2 yX2_settle yX2_settle, Cond.code yX2_settle cX2_settle 3 none, Cond.fieldLink RX2 30 "SoundLaws$Laws" "known" "I", Cond.fieldLink RX2 34 "SoundLaws$Laws" "exceptionsOfAll" "I", Cond.fieldLink RX2 9 "SoundLaws$Laws" "becomes" "[I", Cond.fieldLink RX2 18 "SoundLaws$Laws" "exceptions" "[I", Cond.methodLink RX2 37 yX2_settleLaw, Cond.instanceMethod yX2_settleLaw, Cond.selects RX2 yX2_settleLaw yX2_settleLaw, Cond.code yX2_settleLaw cX2_settleLaw 7 none, Cond.fieldLink RX2 15 "SoundLaws$Laws" "follows" "[I", Cond.methodLink RX6 64 yX6_findStrange, Cond.instanceMethod yX6_findStrange, Cond.selects RX6 yX6_findStrange yX6_findStrange]
def wsX8_digest_r6 : List Cond := [Cond.code yX6_findStrange cX6_findStrange 8 none, Cond.fieldLink RX6 18 "SoundLaws$Study" "strangePlaces" "[I", Cond.fieldLink RX6 130 "SoundLaws$Laws" "becomes" "[I", Cond.methodLink RX8 230 yX8_digestSet, Cond.instanceMethod yX8_digestSet, Cond.selects RX8 yX8_digestSet yX8_digestSet, Cond.code yX8_digestSet cX8_digestSet 9 (some .long), Cond.fieldLink RX8 168 "SoundLaws$Stock" "lengths" "[I", Cond.methodLink RX8 103 yX8_tellOfSet, Cond.instanceMethod yX8_tellOfSet, Cond.selects RX8 yX8_tellOfSet yX8_tellOfSet, Cond.code yX8_tellOfSet cX8_tellOfSet 3 (some .int), Cond.fieldLink RX8 110 "SoundLaws$Stock" "kinds" "[I", Cond.fieldLink RX8 257 "SoundLaws$Study" "changes" "[I", Cond.fieldLink RX8 30 "SoundLaws" "sightings" "LSoundLaws$Sightings;", Cond.methodLink RX8 259 yX6_strangeInSet, Cond.instanceMethod yX6_strangeInSet, Cond.selects RX6 yX6_strangeInSet yX6_strangeInSet, Cond.code yX6_strangeInSet cX6_strangeInSet 4 (some .int), Cond.methodLink RX8 262 yX6_borrowedTongues, Cond.instanceMethod yX6_borrowedTongues, Cond.selects RX6 yX6_borrowedTongues yX6_borrowedTongues, Cond.code yX6_borrowedTongues cX6_borrowedTongues 6 (some .int), Cond.methodLink RX8 266 yX4_sortsOf]
def wsX8_digest_r7 : List Cond := [Cond.instanceMethod yX4_sortsOf, Cond.selects RX4 yX4_sortsOf yX4_sortsOf, Cond.initialized RX4, Cond.code yX4_sortsOf cX4_sortsOf 5 (some .int), Cond.fieldLink RX4 22 "SoundLaws$Sightings" "size" "I", Cond.fieldLink RX4 9 "SoundLaws$Sightings" "sets" "[I", Cond.fieldLink RX4 15 "SoundLaws$Sightings" "questions" "[I", Cond.fieldLink RX4 18 "SoundLaws$Sightings" "answers" "[Z", Cond.methodLink RX4 30 yX4_sortsThatCould, Cond.static yX4_sortsThatCould, Cond.code yX4_sortsThatCould cX4_sortsThatCould 3 (some .int), Cond.methodLink RX4 48 yX4_could, Cond.static yX4_could, Cond.code yX4_could cX4_could 2 (some .boolean), Cond.methodLink RX8 269 yX4_questionFor, Cond.instanceMethod yX4_questionFor, Cond.selects RX4 yX4_questionFor yX4_questionFor, Cond.code yX4_questionFor cX4_questionFor 8 (some .int), Cond.methodLink RX4 42 Lib.Math.max.name, Cond.static Lib.Math.max.name, Cond.initialized "java/lang/Math", Cond.code Lib.Math.max.name Lib.Math.max.code 2 (some .int), Cond.methodLink RX4 34 yX4_sortsOf, Cond.methodLink RX4 37 yJ6_bitCount_0f7a4]
def wsX8_digest_r8 : List Cond := [Cond.static yJ6_bitCount_0f7a4, Cond.initialized RJ6, Cond.code yJ6_bitCount_0f7a4 cJ6_bitCount_0f7a4 1 (some .int), Cond.constant RJ6 265 (1431655765), Cond.constant RJ6 266 (858993459), Cond.constant RJ6 267 (252645135), Cond.methodLink RX8 240 yX8_mixed, Cond.static yX8_mixed, Cond.code yX8_mixed cX8_mixed 3 (some .long), Cond.constantLong RX8 246 (31), Cond.methodLink RX8 243 yX8_nodesOf, Cond.methodLink RX8 123 yX8_tellOfNode, Cond.instanceMethod yX8_tellOfNode, Cond.selects RX8 yX8_tellOfNode yX8_tellOfNode, Cond.code yX8_tellOfNode cX8_tellOfNode 4 (some .int), Cond.fieldLink RX8 162 "SoundLaws$Stock" "words" "[I", Cond.fieldLink RX8 145 "SoundLaws" "REBUILDS" "[I", Cond.fieldLink RX8 272 "SoundLaws$Study" "sounds" "[I", Cond.methodLink RX8 165 yX8_wordAt, Cond.methodLink RX8 275 yX8_nodesAt, Cond.methodLink RX8 237 yX8_digestLaws, Cond.instanceMethod yX8_digestLaws, Cond.selects RX8 yX8_digestLaws yX8_digestLaws, Cond.code yX8_digestLaws cX8_digestLaws 10 (some .long)]
def wsX8_digest_r9 : List Cond := [Cond.fieldLink RX8 133 "SoundLaws$Study" "laws" "LSoundLaws$Laws;", Cond.methodLink RX8 137 yX8_lawAt, Cond.methodLink RX8 140 yX2_tell, Cond.instanceMethod yX2_tell, Cond.selects RX2 yX2_tell yX2_tell, Cond.code yX2_tell cX2_tell 3 (some .int), Cond.methodLink RX8 225 yX8_tellOfAll, Cond.instanceMethod yX8_tellOfAll, Cond.selects RX8 yX8_tellOfAll yX8_tellOfAll, Cond.code yX8_tellOfAll cX8_tellOfAll 2 (some .int), Cond.fieldLink RX8 202 "SoundLaws$Study" "changesOfAll" "I", Cond.fieldLink RX8 278 "SoundLaws$Laws" "known" "I", Cond.fieldLink RX8 281 "SoundLaws$Laws" "exceptionsOfAll" "I", Cond.fieldLink RX8 205 "SoundLaws$Sightings" "size" "I", Cond.fieldLink RX8 90 "SoundLaws" "readings" "I", Cond.methodLink RX8 284 yX6_borrowedWords, Cond.instanceMethod yX6_borrowedWords, Cond.selects RX6 yX6_borrowedWords yX6_borrowedWords, Cond.code yX6_borrowedWords cX6_borrowedWords 4 (some .int), Cond.methodLink RX6 78 yX6_borrowedTongues, Cond.methodLink RX6 82 yJ6_bitCount_0f7a4]
def wsX8_digest : List Cond := .code yX8_digest cX8_digest 4 (some .long) :: ((wsX8_digest_r1 ++ (wsX8_digest_r2 ++ (wsX8_digest_r3 ++ (wsX8_digest_r4 ++ (wsX8_digest_r5 ++ (wsX8_digest_r6 ++ (wsX8_digest_r7 ++ (wsX8_digest_r8 ++ wsX8_digest_r9)))))))) ++ wsX80 ++ wsX50 ++ wsX60 ++ wsX70 ++ wsX20 ++ wsX40)
def wsX9_init_r1 : List Cond := [Cond.methodLink RX9 1 objectInit, Cond.instanceMethod objectInit, Cond.code objectInit ⟨#[0xb1]⟩ 1 none, Cond.arrayClass .int, Cond.fieldLink RX9 7 "SoundLawsModel" "page" "[I", Cond.fieldLink RX9 13 "SoundLawsModel" "readKinds" "[I", Cond.fieldLink RX9 16 "SoundLawsModel" "readLongs" "[I", Cond.fieldLink RX9 19 "SoundLawsModel" "readSounds" "[I", Cond.fieldLink RX9 22 "SoundLawsModel" "kinds" "[I", Cond.fieldLink RX9 25 "SoundLawsModel" "longs" "[I", Cond.fieldLink RX9 28 "SoundLawsModel" "words" "[I", Cond.fieldLink RX9 31 "SoundLawsModel" "costs" "[I", Cond.fieldLink RX9 34 "SoundLawsModel" "had" "[I", Cond.fieldLink RX9 37 "SoundLawsModel" "said" "[I", Cond.fieldLink RX9 40 "SoundLawsModel" "rebuilt" "[I", Cond.fieldLink RX9 43 "SoundLawsModel" "changes" "[I", Cond.fieldLink RX9 46 "SoundLawsModel" "laws" "[I", Cond.fieldLink RX9 49 "SoundLawsModel" "follows" "[I", Cond.fieldLink RX9 52 "SoundLawsModel" "exceptions" "[I", Cond.fieldLink RX9 55 "SoundLawsModel" "tally" "[I", Cond.fieldLink RX9 58 "SoundLawsModel" "one" "[I", Cond.fieldLink RX9 61 "SoundLawsModel" "other" "[I", Cond.fieldLink RX9 64 "SoundLawsModel" "lines" "[I", Cond.fieldLink RX9 67 "SoundLawsModel" "sights" "[I"]
def wsX9_init_r2 : List Cond := [Cond.fieldLink RX9 70 "SoundLawsModel" "keptKinds" "[I", Cond.fieldLink RX9 73 "SoundLawsModel" "keptLongs" "[I", Cond.fieldLink RX9 76 "SoundLawsModel" "keptWords" "[I", Cond.fieldLink RX9 79 "SoundLawsModel" "keptSights" "[I", Cond.fieldLink RX9 82 "SoundLawsModel" "keptSets" "I"]
def wsX9_init : List Cond := .code yX9_init cX9_init 1 none :: ((wsX9_init_r1 ++ wsX9_init_r2) ++ wsX90)
def wsX9_in : List Cond := .code yX9_in cX9_in 6 (some .boolean) :: ([])
def wsX9_copyRow : List Cond := .code yX9_copyRow cX9_copyRow 3 none :: ([])
def wsX9_letter : List Cond := .code yX9_letter cX9_letter 2 (some .int) :: ([.constantLong RX9 86 (126), .fieldLink RX9 92 "SoundLawsModel" "pageMany" "I", .fieldLink RX9 7 "SoundLawsModel" "page" "[I", .methodLink RX9 88 yX9_in, .static yX9_in, .initialized RX9, .code yX9_in cX9_in 6 (some .boolean)] ++ wsX90)
def wsX9_blank : List Cond := .code yX9_blank cX9_blank 2 (some .int) :: ([.fieldLink RX9 92 "SoundLawsModel" "pageMany" "I"] ++ wsX90)
def wsX9_kindBy : List Cond := .code yX9_kindBy cX9_kindBy 1 (some .int) :: ([])
def wsX9_soundBy : List Cond := .code yX9_soundBy cX9_soundBy 1 (some .int) :: ([])
def wsX9_isWordWhole : List Cond := .code yX9_isWordWhole cX9_isWordWhole 1 (some .boolean) :: ([.fieldLink RX9 95 "SoundLawsModel" "readHere" "I", .fieldLink RX9 98 "SoundLawsModel" "readWords" "I", .fieldLink RX9 101 "SoundLawsModel" "readLong" "I"] ++ wsX90)
def wsX9_isSetWhole : List Cond := .code yX9_isSetWhole cX9_isSetWhole 1 (some .boolean) :: ([.fieldLink RX9 108 "SoundLawsModel" "readTongues" "I", .fieldLink RX9 98 "SoundLawsModel" "readWords" "I", .methodLink RX9 104 yX9_isWordWhole, .instanceMethod yX9_isWordWhole, .selects RX9 yX9_isWordWhole yX9_isWordWhole, .initialized RX9, .code yX9_isWordWhole cX9_isWordWhole 1 (some .boolean), .fieldLink RX9 95 "SoundLawsModel" "readHere" "I", .fieldLink RX9 101 "SoundLawsModel" "readLong" "I"] ++ wsX90)
def wsX9_isBegun : List Cond := .code yX9_isBegun cX9_isBegun 2 (some .boolean) :: ([.fieldLink RX9 115 "SoundLawsModel" "readSets" "I", .fieldLink RX9 13 "SoundLawsModel" "readKinds" "[I", .fieldLink RX9 98 "SoundLawsModel" "readWords" "I", .fieldLink RX9 95 "SoundLawsModel" "readHere" "I", .fieldLink RX9 101 "SoundLawsModel" "readLong" "I", .methodLink RX9 111 yX9_kindBy, .static yX9_kindBy, .initialized RX9, .code yX9_kindBy cX9_kindBy 1 (some .int)] ++ wsX90)
def wsX9_isSlash : List Cond := .code yX9_isSlash cX9_isSlash 2 (some .boolean) :: ([.fieldLink RX9 98 "SoundLawsModel" "readWords" "I", .fieldLink RX9 108 "SoundLawsModel" "readTongues" "I", .fieldLink RX9 95 "SoundLawsModel" "readHere" "I", .fieldLink RX9 101 "SoundLawsModel" "readLong" "I", .methodLink RX9 104 yX9_isWordWhole, .instanceMethod yX9_isWordWhole, .selects RX9 yX9_isWordWhole yX9_isWordWhole, .initialized RX9, .code yX9_isWordWhole cX9_isWordWhole 1 (some .boolean)] ++ wsX90)
def wsX9_isComma : List Cond := .code yX9_isComma cX9_isComma 2 (some .boolean) :: ([.fieldLink RX9 115 "SoundLawsModel" "readSets" "I", .fieldLink RX9 108 "SoundLawsModel" "readTongues" "I", .fieldLink RX9 98 "SoundLawsModel" "readWords" "I", .methodLink RX9 118 yX9_isSetWhole, .instanceMethod yX9_isSetWhole, .selects RX9 yX9_isSetWhole yX9_isSetWhole, .initialized RX9, .code yX9_isSetWhole cX9_isSetWhole 1 (some .boolean), .methodLink RX9 104 yX9_isWordWhole, .instanceMethod yX9_isWordWhole, .selects RX9 yX9_isWordWhole yX9_isWordWhole, .code yX9_isWordWhole cX9_isWordWhole 1 (some .boolean), .fieldLink RX9 95 "SoundLawsModel" "readHere" "I", .fieldLink RX9 101 "SoundLawsModel" "readLong" "I"] ++ wsX90)
def wsX9_isSound : List Cond := .code yX9_isSound cX9_isSound 2 (some .boolean) :: ([.fieldLink RX9 95 "SoundLawsModel" "readHere" "I", .fieldLink RX9 98 "SoundLawsModel" "readWords" "I", .fieldLink RX9 101 "SoundLawsModel" "readLong" "I", .fieldLink RX9 19 "SoundLawsModel" "readSounds" "[I", .fieldLink RX9 115 "SoundLawsModel" "readSets" "I", .fieldLink RX9 16 "SoundLawsModel" "readLongs" "[I", .methodLink RX9 121 yX9_soundBy, .static yX9_soundBy, .initialized RX9, .code yX9_soundBy cX9_soundBy 1 (some .int)] ++ wsX90)
def wsX9_isGood_r1 : List Cond := [Cond.fieldLink RX9 98 "SoundLawsModel" "readWords" "I", Cond.methodLink RX9 124 yX9_isBegun, Cond.instanceMethod yX9_isBegun, Cond.selects RX9 yX9_isBegun yX9_isBegun, Cond.initialized RX9, Cond.code yX9_isBegun cX9_isBegun 2 (some .boolean), Cond.fieldLink RX9 115 "SoundLawsModel" "readSets" "I", Cond.fieldLink RX9 13 "SoundLawsModel" "readKinds" "[I", Cond.fieldLink RX9 95 "SoundLawsModel" "readHere" "I", Cond.fieldLink RX9 101 "SoundLawsModel" "readLong" "I", Cond.methodLink RX9 111 yX9_kindBy, Cond.static yX9_kindBy, Cond.code yX9_kindBy cX9_kindBy 1 (some .int), Cond.methodLink RX9 128 yX9_isSlash, Cond.instanceMethod yX9_isSlash, Cond.selects RX9 yX9_isSlash yX9_isSlash, Cond.code yX9_isSlash cX9_isSlash 2 (some .boolean), Cond.fieldLink RX9 108 "SoundLawsModel" "readTongues" "I", Cond.methodLink RX9 104 yX9_isWordWhole, Cond.instanceMethod yX9_isWordWhole, Cond.selects RX9 yX9_isWordWhole yX9_isWordWhole, Cond.code yX9_isWordWhole cX9_isWordWhole 1 (some .boolean), Cond.methodLink RX9 131 yX9_isComma, Cond.instanceMethod yX9_isComma]
def wsX9_isGood_r2 : List Cond := [Cond.selects RX9 yX9_isComma yX9_isComma, Cond.code yX9_isComma cX9_isComma 2 (some .boolean), Cond.methodLink RX9 118 yX9_isSetWhole, Cond.instanceMethod yX9_isSetWhole, Cond.selects RX9 yX9_isSetWhole yX9_isSetWhole, Cond.code yX9_isSetWhole cX9_isSetWhole 1 (some .boolean), Cond.methodLink RX9 134 yX9_isSound, Cond.instanceMethod yX9_isSound, Cond.selects RX9 yX9_isSound yX9_isSound, Cond.code yX9_isSound cX9_isSound 2 (some .boolean), Cond.fieldLink RX9 19 "SoundLawsModel" "readSounds" "[I", Cond.fieldLink RX9 16 "SoundLawsModel" "readLongs" "[I", Cond.methodLink RX9 121 yX9_soundBy, Cond.static yX9_soundBy, Cond.code yX9_soundBy cX9_soundBy 1 (some .int)]
def wsX9_isGood : List Cond := .code yX9_isGood cX9_isGood 2 (some .boolean) :: ((wsX9_isGood_r1 ++ wsX9_isGood_r2) ++ wsX90)
def wsX9_faultOf_r1 : List Cond := [Cond.fieldLink RX9 115 "SoundLawsModel" "readSets" "I", Cond.fieldLink RX9 98 "SoundLawsModel" "readWords" "I", Cond.fieldLink RX9 108 "SoundLawsModel" "readTongues" "I", Cond.fieldLink RX9 92 "SoundLawsModel" "pageMany" "I", Cond.fieldLink RX9 7 "SoundLawsModel" "page" "[I", Cond.methodLink RX9 137 yX9_isGood, Cond.instanceMethod yX9_isGood, Cond.selects RX9 yX9_isGood yX9_isGood, Cond.initialized RX9, Cond.code yX9_isGood cX9_isGood 2 (some .boolean), Cond.methodLink RX9 124 yX9_isBegun, Cond.instanceMethod yX9_isBegun, Cond.selects RX9 yX9_isBegun yX9_isBegun, Cond.code yX9_isBegun cX9_isBegun 2 (some .boolean), Cond.fieldLink RX9 13 "SoundLawsModel" "readKinds" "[I", Cond.fieldLink RX9 95 "SoundLawsModel" "readHere" "I", Cond.fieldLink RX9 101 "SoundLawsModel" "readLong" "I", Cond.methodLink RX9 111 yX9_kindBy, Cond.static yX9_kindBy, Cond.code yX9_kindBy cX9_kindBy 1 (some .int), Cond.methodLink RX9 128 yX9_isSlash, Cond.instanceMethod yX9_isSlash, Cond.selects RX9 yX9_isSlash yX9_isSlash, Cond.code yX9_isSlash cX9_isSlash 2 (some .boolean)]
def wsX9_faultOf_r2 : List Cond := [Cond.methodLink RX9 104 yX9_isWordWhole, Cond.instanceMethod yX9_isWordWhole, Cond.selects RX9 yX9_isWordWhole yX9_isWordWhole, Cond.code yX9_isWordWhole cX9_isWordWhole 1 (some .boolean), Cond.methodLink RX9 131 yX9_isComma, Cond.instanceMethod yX9_isComma, Cond.selects RX9 yX9_isComma yX9_isComma, Cond.code yX9_isComma cX9_isComma 2 (some .boolean), Cond.methodLink RX9 118 yX9_isSetWhole, Cond.instanceMethod yX9_isSetWhole, Cond.selects RX9 yX9_isSetWhole yX9_isSetWhole, Cond.code yX9_isSetWhole cX9_isSetWhole 1 (some .boolean), Cond.methodLink RX9 134 yX9_isSound, Cond.instanceMethod yX9_isSound, Cond.selects RX9 yX9_isSound yX9_isSound, Cond.code yX9_isSound cX9_isSound 2 (some .boolean), Cond.fieldLink RX9 19 "SoundLawsModel" "readSounds" "[I", Cond.fieldLink RX9 16 "SoundLawsModel" "readLongs" "[I", Cond.methodLink RX9 121 yX9_soundBy, Cond.static yX9_soundBy, Cond.code yX9_soundBy cX9_soundBy 1 (some .int)]
def wsX9_faultOf : List Cond := .code yX9_faultOf cX9_faultOf 2 (some .int) :: ((wsX9_faultOf_r1 ++ wsX9_faultOf_r2) ++ wsX90)
def wsX9_fault_r1 : List Cond := [Cond.methodLink RX9 140 yX9_faultOf, Cond.instanceMethod yX9_faultOf, Cond.selects RX9 yX9_faultOf yX9_faultOf, Cond.initialized RX9, Cond.code yX9_faultOf cX9_faultOf 2 (some .int), Cond.fieldLink RX9 115 "SoundLawsModel" "readSets" "I", Cond.fieldLink RX9 98 "SoundLawsModel" "readWords" "I", Cond.fieldLink RX9 108 "SoundLawsModel" "readTongues" "I", Cond.fieldLink RX9 92 "SoundLawsModel" "pageMany" "I", Cond.fieldLink RX9 7 "SoundLawsModel" "page" "[I", Cond.methodLink RX9 137 yX9_isGood, Cond.instanceMethod yX9_isGood, Cond.selects RX9 yX9_isGood yX9_isGood, Cond.code yX9_isGood cX9_isGood 2 (some .boolean), Cond.methodLink RX9 124 yX9_isBegun, Cond.instanceMethod yX9_isBegun, Cond.selects RX9 yX9_isBegun yX9_isBegun, Cond.code yX9_isBegun cX9_isBegun 2 (some .boolean), Cond.fieldLink RX9 13 "SoundLawsModel" "readKinds" "[I", Cond.fieldLink RX9 95 "SoundLawsModel" "readHere" "I", Cond.fieldLink RX9 101 "SoundLawsModel" "readLong" "I", Cond.methodLink RX9 111 yX9_kindBy, Cond.static yX9_kindBy, Cond.code yX9_kindBy cX9_kindBy 1 (some .int)]
def wsX9_fault_r2 : List Cond := [Cond.methodLink RX9 128 yX9_isSlash, Cond.instanceMethod yX9_isSlash, Cond.selects RX9 yX9_isSlash yX9_isSlash, Cond.code yX9_isSlash cX9_isSlash 2 (some .boolean), Cond.methodLink RX9 104 yX9_isWordWhole, Cond.instanceMethod yX9_isWordWhole, Cond.selects RX9 yX9_isWordWhole yX9_isWordWhole, Cond.code yX9_isWordWhole cX9_isWordWhole 1 (some .boolean), Cond.methodLink RX9 131 yX9_isComma, Cond.instanceMethod yX9_isComma, Cond.selects RX9 yX9_isComma yX9_isComma, Cond.code yX9_isComma cX9_isComma 2 (some .boolean), Cond.methodLink RX9 118 yX9_isSetWhole, Cond.instanceMethod yX9_isSetWhole, Cond.selects RX9 yX9_isSetWhole yX9_isSetWhole, Cond.code yX9_isSetWhole cX9_isSetWhole 1 (some .boolean), Cond.methodLink RX9 134 yX9_isSound, Cond.instanceMethod yX9_isSound, Cond.selects RX9 yX9_isSound yX9_isSound, Cond.code yX9_isSound cX9_isSound 2 (some .boolean), Cond.fieldLink RX9 19 "SoundLawsModel" "readSounds" "[I", Cond.fieldLink RX9 16 "SoundLawsModel" "readLongs" "[I", Cond.methodLink RX9 121 yX9_soundBy, Cond.static yX9_soundBy]
def wsX9_fault_r3 : List Cond := [Cond.code yX9_soundBy cX9_soundBy 1 (some .int)]
def wsX9_fault : List Cond := .code yX9_fault cX9_fault 1 (some .int) :: ((wsX9_fault_r1 ++ (wsX9_fault_r2 ++ wsX9_fault_r3)) ++ wsX90)
def wsX9_isMute : List Cond := .code yX9_isMute cX9_isMute 6 (some .boolean) :: ([.fieldLink RX9 115 "SoundLawsModel" "readSets" "I", .fieldLink RX9 98 "SoundLawsModel" "readWords" "I", .fieldLink RX9 16 "SoundLawsModel" "readLongs" "[I", .fieldLink RX9 19 "SoundLawsModel" "readSounds" "[I"] ++ wsX90)
def wsX9_sets_r1 : List Cond := [Cond.fieldLink RX9 92 "SoundLawsModel" "pageMany" "I", Cond.fieldLink RX9 98 "SoundLawsModel" "readWords" "I", Cond.fieldLink RX9 115 "SoundLawsModel" "readSets" "I", Cond.fieldLink RX9 147 "SoundLawsModel" "sets" "I", Cond.fieldLink RX9 150 "SoundLawsModel" "tongues" "I", Cond.fieldLink RX9 22 "SoundLawsModel" "kinds" "[I", Cond.fieldLink RX9 13 "SoundLawsModel" "readKinds" "[I", Cond.fieldLink RX9 25 "SoundLawsModel" "longs" "[I", Cond.fieldLink RX9 16 "SoundLawsModel" "readLongs" "[I", Cond.fieldLink RX9 28 "SoundLawsModel" "words" "[I", Cond.fieldLink RX9 19 "SoundLawsModel" "readSounds" "[I", Cond.fieldLink RX9 153 "SoundLawsModel" "old" "Z", Cond.fieldLink RX9 157 "SoundLawsModel" "seenMany" "I", Cond.fieldLink RX9 160 "SoundLawsModel" "setsRead" "I", Cond.methodLink RX9 140 yX9_faultOf, Cond.instanceMethod yX9_faultOf, Cond.selects RX9 yX9_faultOf yX9_faultOf, Cond.initialized RX9, Cond.code yX9_faultOf cX9_faultOf 2 (some .int), Cond.fieldLink RX9 108 "SoundLawsModel" "readTongues" "I", Cond.fieldLink RX9 7 "SoundLawsModel" "page" "[I", Cond.methodLink RX9 137 yX9_isGood, Cond.instanceMethod yX9_isGood, Cond.selects RX9 yX9_isGood yX9_isGood]
def wsX9_sets_r2 : List Cond := [Cond.code yX9_isGood cX9_isGood 2 (some .boolean), Cond.methodLink RX9 124 yX9_isBegun, Cond.instanceMethod yX9_isBegun, Cond.selects RX9 yX9_isBegun yX9_isBegun, Cond.code yX9_isBegun cX9_isBegun 2 (some .boolean), Cond.fieldLink RX9 95 "SoundLawsModel" "readHere" "I", Cond.fieldLink RX9 101 "SoundLawsModel" "readLong" "I", Cond.methodLink RX9 111 yX9_kindBy, Cond.static yX9_kindBy, Cond.code yX9_kindBy cX9_kindBy 1 (some .int), Cond.methodLink RX9 128 yX9_isSlash, Cond.instanceMethod yX9_isSlash, Cond.selects RX9 yX9_isSlash yX9_isSlash, Cond.code yX9_isSlash cX9_isSlash 2 (some .boolean), Cond.methodLink RX9 104 yX9_isWordWhole, Cond.instanceMethod yX9_isWordWhole, Cond.selects RX9 yX9_isWordWhole yX9_isWordWhole, Cond.code yX9_isWordWhole cX9_isWordWhole 1 (some .boolean), Cond.methodLink RX9 131 yX9_isComma, Cond.instanceMethod yX9_isComma, Cond.selects RX9 yX9_isComma yX9_isComma, Cond.code yX9_isComma cX9_isComma 2 (some .boolean), Cond.methodLink RX9 118 yX9_isSetWhole, Cond.instanceMethod yX9_isSetWhole]
def wsX9_sets_r3 : List Cond := [Cond.selects RX9 yX9_isSetWhole yX9_isSetWhole, Cond.code yX9_isSetWhole cX9_isSetWhole 1 (some .boolean), Cond.methodLink RX9 134 yX9_isSound, Cond.instanceMethod yX9_isSound, Cond.selects RX9 yX9_isSound yX9_isSound, Cond.code yX9_isSound cX9_isSound 2 (some .boolean), Cond.methodLink RX9 121 yX9_soundBy, Cond.static yX9_soundBy, Cond.code yX9_soundBy cX9_soundBy 1 (some .int), Cond.methodLink RX9 144 yX9_isMute, Cond.instanceMethod yX9_isMute, Cond.selects RX9 yX9_isMute yX9_isMute, Cond.code yX9_isMute cX9_isMute 6 (some .boolean)]
def wsX9_sets : List Cond := .code yX9_sets cX9_sets 2 (some .int) :: ((wsX9_sets_r1 ++ (wsX9_sets_r2 ++ wsX9_sets_r3)) ++ wsX90)
def wsX9_lacks : List Cond := .code yX9_lacks cX9_lacks 1 (some .boolean) :: ([.fieldLink RX9 147 "SoundLawsModel" "sets" "I"] ++ wsX90)
def wsX9_isSet : List Cond := .code yX9_isSet cX9_isSet 2 (some .boolean) :: ([.fieldLink RX9 147 "SoundLawsModel" "sets" "I", .methodLink RX9 88 yX9_in, .static yX9_in, .initialized RX9, .code yX9_in cX9_in 6 (some .boolean)] ++ wsX90)
def wsX9_isTongue : List Cond := .code yX9_isTongue cX9_isTongue 2 (some .boolean) :: ([.fieldLink RX9 150 "SoundLawsModel" "tongues" "I", .methodLink RX9 88 yX9_in, .static yX9_in, .initialized RX9, .code yX9_in cX9_in 6 (some .boolean)] ++ wsX90)
def wsX9_isPlace : List Cond := .code yX9_isPlace cX9_isPlace 3 (some .boolean) :: ([.fieldLink RX9 25 "SoundLawsModel" "longs" "[I", .methodLink RX9 163 yX9_isSet, .instanceMethod yX9_isSet, .selects RX9 yX9_isSet yX9_isSet, .initialized RX9, .code yX9_isSet cX9_isSet 2 (some .boolean), .fieldLink RX9 147 "SoundLawsModel" "sets" "I", .methodLink RX9 88 yX9_in, .static yX9_in, .code yX9_in cX9_in 6 (some .boolean)] ++ wsX90)
def wsX9_isVowel : List Cond := .code yX9_isVowel cX9_isVowel 1 (some .boolean) :: ([.constantLong RX9 166 (3), .methodLink RX9 88 yX9_in, .static yX9_in, .initialized RX9, .code yX9_in cX9_in 6 (some .boolean)])
def wsX9_costOf : List Cond := .code yX9_costOf cX9_costOf 2 (some .int) :: ([.methodLink RX9 168 yX9_isVowel, .static yX9_isVowel, .initialized RX9, .code yX9_isVowel cX9_isVowel 1 (some .boolean), .constantLong RX9 166 (3), .methodLink RX9 88 yX9_in, .static yX9_in, .code yX9_in cX9_in 6 (some .boolean)])
def wsX9_cost : List Cond := .code yX9_cost cX9_cost 3 (some .int) :: ([.constantLong RX9 171 (8), .methodLink RX9 88 yX9_in, .static yX9_in, .initialized RX9, .code yX9_in cX9_in 6 (some .boolean), .methodLink RX9 173 yX9_costOf, .static yX9_costOf, .code yX9_costOf cX9_costOf 2 (some .int), .methodLink RX9 168 yX9_isVowel, .static yX9_isVowel, .code yX9_isVowel cX9_isVowel 1 (some .boolean), .constantLong RX9 166 (3)])
def wsX9_nodesBy : List Cond := .code yX9_nodesBy cX9_nodesBy 2 (some .int) :: ([])
def wsX9_belowFirst : List Cond := .code yX9_belowFirst cX9_belowFirst 2 (some .int) :: ([])
def wsX9_belowSecond : List Cond := .code yX9_belowSecond cX9_belowSecond 2 (some .int) :: ([])
def wsX9_least : List Cond := .code yX9_least cX9_least 6 (some .int) :: ([.fieldLink RX9 31 "SoundLawsModel" "costs" "[I", .methodLink RX9 173 yX9_costOf, .static yX9_costOf, .initialized RX9, .code yX9_costOf cX9_costOf 2 (some .int), .methodLink RX9 168 yX9_isVowel, .static yX9_isVowel, .code yX9_isVowel cX9_isVowel 1 (some .boolean), .constantLong RX9 166 (3), .methodLink RX9 88 yX9_in, .static yX9_in, .code yX9_in cX9_in 6 (some .boolean)] ++ wsX90)
def wsX9_layCosts_r1 : List Cond := [Cond.fieldLink RX9 31 "SoundLawsModel" "costs" "[I", Cond.fieldLink RX9 37 "SoundLawsModel" "said" "[I", Cond.methodLink RX9 177 yX9_nodesBy, Cond.instanceMethod yX9_nodesBy, Cond.selects RX9 yX9_nodesBy yX9_nodesBy, Cond.initialized RX9, Cond.code yX9_nodesBy cX9_nodesBy 2 (some .int), Cond.methodLink RX9 180 yX9_belowFirst, Cond.static yX9_belowFirst, Cond.code yX9_belowFirst cX9_belowFirst 2 (some .int), Cond.methodLink RX9 183 yX9_least, Cond.instanceMethod yX9_least, Cond.selects RX9 yX9_least yX9_least, Cond.code yX9_least cX9_least 6 (some .int), Cond.methodLink RX9 173 yX9_costOf, Cond.static yX9_costOf, Cond.code yX9_costOf cX9_costOf 2 (some .int), Cond.methodLink RX9 168 yX9_isVowel, Cond.static yX9_isVowel, Cond.code yX9_isVowel cX9_isVowel 1 (some .boolean), Cond.constantLong RX9 166 (3), Cond.methodLink RX9 88 yX9_in, Cond.static yX9_in, Cond.code yX9_in cX9_in 6 (some .boolean)]
def wsX9_layCosts_r2 : List Cond := [Cond.methodLink RX9 186 yX9_belowSecond, Cond.static yX9_belowSecond, Cond.code yX9_belowSecond cX9_belowSecond 2 (some .int)]
def wsX9_layCosts : List Cond := .code yX9_layCosts cX9_layCosts 4 none :: ((wsX9_layCosts_r1 ++ wsX9_layCosts_r2) ++ wsX90)
def wsX9_leastSound : List Cond := .code yX9_leastSound cX9_leastSound 7 (some .int) :: ([.fieldLink RX9 31 "SoundLawsModel" "costs" "[I", .methodLink RX9 173 yX9_costOf, .static yX9_costOf, .initialized RX9, .code yX9_costOf cX9_costOf 2 (some .int), .methodLink RX9 168 yX9_isVowel, .static yX9_isVowel, .code yX9_isVowel cX9_isVowel 1 (some .boolean), .constantLong RX9 166 (3), .methodLink RX9 88 yX9_in, .static yX9_in, .code yX9_in cX9_in 6 (some .boolean)] ++ wsX90)
def wsX9_rebuild_r1 : List Cond := [Cond.fieldLink RX9 34 "SoundLawsModel" "had" "[I", Cond.fieldLink RX9 31 "SoundLawsModel" "costs" "[I", Cond.methodLink RX9 189 yX9_layCosts, Cond.instanceMethod yX9_layCosts, Cond.selects RX9 yX9_layCosts yX9_layCosts, Cond.initialized RX9, Cond.code yX9_layCosts cX9_layCosts 4 none, Cond.fieldLink RX9 37 "SoundLawsModel" "said" "[I", Cond.methodLink RX9 177 yX9_nodesBy, Cond.instanceMethod yX9_nodesBy, Cond.selects RX9 yX9_nodesBy yX9_nodesBy, Cond.code yX9_nodesBy cX9_nodesBy 2 (some .int), Cond.methodLink RX9 180 yX9_belowFirst, Cond.static yX9_belowFirst, Cond.code yX9_belowFirst cX9_belowFirst 2 (some .int), Cond.methodLink RX9 183 yX9_least, Cond.instanceMethod yX9_least, Cond.selects RX9 yX9_least yX9_least, Cond.code yX9_least cX9_least 6 (some .int), Cond.methodLink RX9 173 yX9_costOf, Cond.static yX9_costOf, Cond.code yX9_costOf cX9_costOf 2 (some .int), Cond.methodLink RX9 168 yX9_isVowel, Cond.static yX9_isVowel]
def wsX9_rebuild_r2 : List Cond := [Cond.code yX9_isVowel cX9_isVowel 1 (some .boolean), Cond.constantLong RX9 166 (3), Cond.methodLink RX9 88 yX9_in, Cond.static yX9_in, Cond.code yX9_in cX9_in 6 (some .boolean), Cond.methodLink RX9 186 yX9_belowSecond, Cond.static yX9_belowSecond, Cond.code yX9_belowSecond cX9_belowSecond 2 (some .int), Cond.methodLink RX9 193 yX9_leastSound, Cond.instanceMethod yX9_leastSound, Cond.selects RX9 yX9_leastSound yX9_leastSound, Cond.code yX9_leastSound cX9_leastSound 7 (some .int)]
def wsX9_rebuild : List Cond := .code yX9_rebuild cX9_rebuild 4 (some .int) :: ((wsX9_rebuild_r1 ++ wsX9_rebuild_r2) ++ wsX90)
def wsX9_isRebuilt : List Cond := .code yX9_isRebuilt cX9_isRebuilt 2 (some .boolean) :: ([.fieldLink RX9 22 "SoundLawsModel" "kinds" "[I"] ++ wsX90)
def wsX9_weightBy : List Cond := .code yX9_weightBy cX9_weightBy 1 (some .int) :: ([])
def wsX9_oldSound : List Cond := .code yX9_oldSound cX9_oldSound 3 (some .int) :: ([.fieldLink RX9 40 "SoundLawsModel" "rebuilt" "[I", .fieldLink RX9 150 "SoundLawsModel" "tongues" "I", .methodLink RX9 177 yX9_nodesBy, .instanceMethod yX9_nodesBy, .selects RX9 yX9_nodesBy yX9_nodesBy, .initialized RX9, .code yX9_nodesBy cX9_nodesBy 2 (some .int)] ++ wsX90)
def wsX9_laySets_r1 : List Cond := [Cond.fieldLink RX9 147 "SoundLawsModel" "sets" "I", Cond.fieldLink RX9 43 "SoundLawsModel" "changes" "[I", Cond.fieldLink RX9 25 "SoundLawsModel" "longs" "[I", Cond.fieldLink RX9 150 "SoundLawsModel" "tongues" "I", Cond.fieldLink RX9 37 "SoundLawsModel" "said" "[I", Cond.fieldLink RX9 28 "SoundLawsModel" "words" "[I", Cond.fieldLink RX9 40 "SoundLawsModel" "rebuilt" "[I", Cond.fieldLink RX9 34 "SoundLawsModel" "had" "[I", Cond.methodLink RX9 196 yX9_isRebuilt, Cond.instanceMethod yX9_isRebuilt, Cond.selects RX9 yX9_isRebuilt yX9_isRebuilt, Cond.initialized RX9, Cond.code yX9_isRebuilt cX9_isRebuilt 2 (some .boolean), Cond.fieldLink RX9 22 "SoundLawsModel" "kinds" "[I", Cond.methodLink RX9 199 yX9_rebuild, Cond.instanceMethod yX9_rebuild, Cond.selects RX9 yX9_rebuild yX9_rebuild, Cond.code yX9_rebuild cX9_rebuild 4 (some .int), Cond.fieldLink RX9 31 "SoundLawsModel" "costs" "[I", Cond.methodLink RX9 189 yX9_layCosts, Cond.instanceMethod yX9_layCosts, Cond.selects RX9 yX9_layCosts yX9_layCosts, Cond.code yX9_layCosts cX9_layCosts 4 none, Cond.methodLink RX9 177 yX9_nodesBy]
def wsX9_laySets_r2 : List Cond := [Cond.instanceMethod yX9_nodesBy, Cond.selects RX9 yX9_nodesBy yX9_nodesBy, Cond.code yX9_nodesBy cX9_nodesBy 2 (some .int), Cond.methodLink RX9 180 yX9_belowFirst, Cond.static yX9_belowFirst, Cond.code yX9_belowFirst cX9_belowFirst 2 (some .int), Cond.methodLink RX9 183 yX9_least, Cond.instanceMethod yX9_least, Cond.selects RX9 yX9_least yX9_least, Cond.code yX9_least cX9_least 6 (some .int), Cond.methodLink RX9 173 yX9_costOf, Cond.static yX9_costOf, Cond.code yX9_costOf cX9_costOf 2 (some .int), Cond.methodLink RX9 168 yX9_isVowel, Cond.static yX9_isVowel, Cond.code yX9_isVowel cX9_isVowel 1 (some .boolean), Cond.constantLong RX9 166 (3), Cond.methodLink RX9 88 yX9_in, Cond.static yX9_in, Cond.code yX9_in cX9_in 6 (some .boolean), Cond.methodLink RX9 186 yX9_belowSecond, Cond.static yX9_belowSecond, Cond.code yX9_belowSecond cX9_belowSecond 2 (some .int), Cond.methodLink RX9 193 yX9_leastSound]
def wsX9_laySets_r3 : List Cond := [Cond.instanceMethod yX9_leastSound, Cond.selects RX9 yX9_leastSound yX9_leastSound, Cond.code yX9_leastSound cX9_leastSound 7 (some .int)]
def wsX9_laySets : List Cond := .code yX9_laySets cX9_laySets 4 none :: ((wsX9_laySets_r1 ++ (wsX9_laySets_r2 ++ wsX9_laySets_r3)) ++ wsX90)
def wsX9_layTally : List Cond := .code yX9_layTally cX9_layTally 7 none :: ([.fieldLink RX9 55 "SoundLawsModel" "tally" "[I", .fieldLink RX9 147 "SoundLawsModel" "sets" "I", .fieldLink RX9 22 "SoundLawsModel" "kinds" "[I", .fieldLink RX9 25 "SoundLawsModel" "longs" "[I", .fieldLink RX9 28 "SoundLawsModel" "words" "[I", .methodLink RX9 202 yX9_weightBy, .static yX9_weightBy, .initialized RX9, .code yX9_weightBy cX9_weightBy 1 (some .int), .methodLink RX9 205 yX9_oldSound, .instanceMethod yX9_oldSound, .selects RX9 yX9_oldSound yX9_oldSound, .code yX9_oldSound cX9_oldSound 3 (some .int), .fieldLink RX9 40 "SoundLawsModel" "rebuilt" "[I", .fieldLink RX9 150 "SoundLawsModel" "tongues" "I", .methodLink RX9 177 yX9_nodesBy, .instanceMethod yX9_nodesBy, .selects RX9 yX9_nodesBy yX9_nodesBy, .code yX9_nodesBy cX9_nodesBy 2 (some .int)] ++ wsX90)
def wsX9_layLaw_r1 : List Cond := [Cond.fieldLink RX9 55 "SoundLawsModel" "tally" "[I", Cond.fieldLink RX9 46 "SoundLawsModel" "laws" "[I", Cond.fieldLink RX9 49 "SoundLawsModel" "follows" "[I", Cond.fieldLink RX9 52 "SoundLawsModel" "exceptions" "[I", Cond.methodLink RX9 208 yX9_layTally, Cond.instanceMethod yX9_layTally, Cond.selects RX9 yX9_layTally yX9_layTally, Cond.initialized RX9, Cond.code yX9_layTally cX9_layTally 7 none, Cond.fieldLink RX9 147 "SoundLawsModel" "sets" "I", Cond.fieldLink RX9 22 "SoundLawsModel" "kinds" "[I", Cond.fieldLink RX9 25 "SoundLawsModel" "longs" "[I", Cond.fieldLink RX9 28 "SoundLawsModel" "words" "[I", Cond.methodLink RX9 202 yX9_weightBy, Cond.static yX9_weightBy, Cond.code yX9_weightBy cX9_weightBy 1 (some .int), Cond.methodLink RX9 205 yX9_oldSound, Cond.instanceMethod yX9_oldSound, Cond.selects RX9 yX9_oldSound yX9_oldSound, Cond.code yX9_oldSound cX9_oldSound 3 (some .int), Cond.fieldLink RX9 40 "SoundLawsModel" "rebuilt" "[I", Cond.fieldLink RX9 150 "SoundLawsModel" "tongues" "I", Cond.methodLink RX9 177 yX9_nodesBy, Cond.instanceMethod yX9_nodesBy]
def wsX9_layLaw_r2 : List Cond := [Cond.selects RX9 yX9_nodesBy yX9_nodesBy, Cond.code yX9_nodesBy cX9_nodesBy 2 (some .int)]
def wsX9_layLaw : List Cond := .code yX9_layLaw cX9_layLaw 8 none :: ((wsX9_layLaw_r1 ++ wsX9_layLaw_r2) ++ wsX90)
def wsX9_freshen_r1 : List Cond := [Cond.fieldLink RX9 153 "SoundLawsModel" "old" "Z", Cond.fieldLink RX9 150 "SoundLawsModel" "tongues" "I", Cond.methodLink RX9 212 yX9_laySets, Cond.instanceMethod yX9_laySets, Cond.selects RX9 yX9_laySets yX9_laySets, Cond.initialized RX9, Cond.code yX9_laySets cX9_laySets 4 none, Cond.fieldLink RX9 147 "SoundLawsModel" "sets" "I", Cond.fieldLink RX9 43 "SoundLawsModel" "changes" "[I", Cond.fieldLink RX9 25 "SoundLawsModel" "longs" "[I", Cond.fieldLink RX9 37 "SoundLawsModel" "said" "[I", Cond.fieldLink RX9 28 "SoundLawsModel" "words" "[I", Cond.fieldLink RX9 40 "SoundLawsModel" "rebuilt" "[I", Cond.fieldLink RX9 34 "SoundLawsModel" "had" "[I", Cond.methodLink RX9 196 yX9_isRebuilt, Cond.instanceMethod yX9_isRebuilt, Cond.selects RX9 yX9_isRebuilt yX9_isRebuilt, Cond.code yX9_isRebuilt cX9_isRebuilt 2 (some .boolean), Cond.fieldLink RX9 22 "SoundLawsModel" "kinds" "[I", Cond.methodLink RX9 199 yX9_rebuild, Cond.instanceMethod yX9_rebuild, Cond.selects RX9 yX9_rebuild yX9_rebuild, Cond.code yX9_rebuild cX9_rebuild 4 (some .int), Cond.fieldLink RX9 31 "SoundLawsModel" "costs" "[I"]
def wsX9_freshen_r2 : List Cond := [Cond.methodLink RX9 189 yX9_layCosts, Cond.instanceMethod yX9_layCosts, Cond.selects RX9 yX9_layCosts yX9_layCosts, Cond.code yX9_layCosts cX9_layCosts 4 none, Cond.methodLink RX9 177 yX9_nodesBy, Cond.instanceMethod yX9_nodesBy, Cond.selects RX9 yX9_nodesBy yX9_nodesBy, Cond.code yX9_nodesBy cX9_nodesBy 2 (some .int), Cond.methodLink RX9 180 yX9_belowFirst, Cond.static yX9_belowFirst, Cond.code yX9_belowFirst cX9_belowFirst 2 (some .int), Cond.methodLink RX9 183 yX9_least, Cond.instanceMethod yX9_least, Cond.selects RX9 yX9_least yX9_least, Cond.code yX9_least cX9_least 6 (some .int), Cond.methodLink RX9 173 yX9_costOf, Cond.static yX9_costOf, Cond.code yX9_costOf cX9_costOf 2 (some .int), Cond.methodLink RX9 168 yX9_isVowel, Cond.static yX9_isVowel, Cond.code yX9_isVowel cX9_isVowel 1 (some .boolean), Cond.constantLong RX9 166 (3), Cond.methodLink RX9 88 yX9_in, Cond.static yX9_in]
def wsX9_freshen_r3 : List Cond := [Cond.code yX9_in cX9_in 6 (some .boolean), Cond.methodLink RX9 186 yX9_belowSecond, Cond.static yX9_belowSecond, Cond.code yX9_belowSecond cX9_belowSecond 2 (some .int), Cond.methodLink RX9 193 yX9_leastSound, Cond.instanceMethod yX9_leastSound, Cond.selects RX9 yX9_leastSound yX9_leastSound, Cond.code yX9_leastSound cX9_leastSound 7 (some .int), Cond.methodLink RX9 215 yX9_layLaw, Cond.instanceMethod yX9_layLaw, Cond.selects RX9 yX9_layLaw yX9_layLaw, Cond.code yX9_layLaw cX9_layLaw 8 none, Cond.fieldLink RX9 55 "SoundLawsModel" "tally" "[I", Cond.fieldLink RX9 46 "SoundLawsModel" "laws" "[I", Cond.fieldLink RX9 49 "SoundLawsModel" "follows" "[I", Cond.fieldLink RX9 52 "SoundLawsModel" "exceptions" "[I", Cond.methodLink RX9 208 yX9_layTally, Cond.instanceMethod yX9_layTally, Cond.selects RX9 yX9_layTally yX9_layTally, Cond.code yX9_layTally cX9_layTally 7 none, Cond.methodLink RX9 202 yX9_weightBy, Cond.static yX9_weightBy, Cond.code yX9_weightBy cX9_weightBy 1 (some .int), Cond.methodLink RX9 205 yX9_oldSound]
def wsX9_freshen_r4 : List Cond := [Cond.instanceMethod yX9_oldSound, Cond.selects RX9 yX9_oldSound yX9_oldSound, Cond.code yX9_oldSound cX9_oldSound 3 (some .int)]
def wsX9_freshen : List Cond := .code yX9_freshen cX9_freshen 2 none :: ((wsX9_freshen_r1 ++ (wsX9_freshen_r2 ++ (wsX9_freshen_r3 ++ wsX9_freshen_r4))) ++ wsX90)
def wsX9_law_r1 : List Cond := [Cond.constantLong RX9 171 (8), Cond.constantLong RX9 221 (2), Cond.fieldLink RX9 46 "SoundLawsModel" "laws" "[I", Cond.fieldLink RX9 49 "SoundLawsModel" "follows" "[I", Cond.fieldLink RX9 52 "SoundLawsModel" "exceptions" "[I", Cond.methodLink RX9 218 yX9_isTongue, Cond.instanceMethod yX9_isTongue, Cond.selects RX9 yX9_isTongue yX9_isTongue, Cond.initialized RX9, Cond.code yX9_isTongue cX9_isTongue 2 (some .boolean), Cond.fieldLink RX9 150 "SoundLawsModel" "tongues" "I", Cond.methodLink RX9 88 yX9_in, Cond.static yX9_in, Cond.code yX9_in cX9_in 6 (some .boolean), Cond.methodLink RX9 223 yX9_freshen, Cond.instanceMethod yX9_freshen, Cond.selects RX9 yX9_freshen yX9_freshen, Cond.code yX9_freshen cX9_freshen 2 none, Cond.fieldLink RX9 153 "SoundLawsModel" "old" "Z", Cond.methodLink RX9 212 yX9_laySets, Cond.instanceMethod yX9_laySets, Cond.selects RX9 yX9_laySets yX9_laySets, Cond.code yX9_laySets cX9_laySets 4 none, Cond.fieldLink RX9 147 "SoundLawsModel" "sets" "I"]
def wsX9_law_r2 : List Cond := [Cond.fieldLink RX9 43 "SoundLawsModel" "changes" "[I", Cond.fieldLink RX9 25 "SoundLawsModel" "longs" "[I", Cond.fieldLink RX9 37 "SoundLawsModel" "said" "[I", Cond.fieldLink RX9 28 "SoundLawsModel" "words" "[I", Cond.fieldLink RX9 40 "SoundLawsModel" "rebuilt" "[I", Cond.fieldLink RX9 34 "SoundLawsModel" "had" "[I", Cond.methodLink RX9 196 yX9_isRebuilt, Cond.instanceMethod yX9_isRebuilt, Cond.selects RX9 yX9_isRebuilt yX9_isRebuilt, Cond.code yX9_isRebuilt cX9_isRebuilt 2 (some .boolean), Cond.fieldLink RX9 22 "SoundLawsModel" "kinds" "[I", Cond.methodLink RX9 199 yX9_rebuild, Cond.instanceMethod yX9_rebuild, Cond.selects RX9 yX9_rebuild yX9_rebuild, Cond.code yX9_rebuild cX9_rebuild 4 (some .int), Cond.fieldLink RX9 31 "SoundLawsModel" "costs" "[I", Cond.methodLink RX9 189 yX9_layCosts, Cond.instanceMethod yX9_layCosts, Cond.selects RX9 yX9_layCosts yX9_layCosts, Cond.code yX9_layCosts cX9_layCosts 4 none, Cond.methodLink RX9 177 yX9_nodesBy, Cond.instanceMethod yX9_nodesBy, Cond.selects RX9 yX9_nodesBy yX9_nodesBy, Cond.code yX9_nodesBy cX9_nodesBy 2 (some .int)]
def wsX9_law_r3 : List Cond := [Cond.methodLink RX9 180 yX9_belowFirst, Cond.static yX9_belowFirst, Cond.code yX9_belowFirst cX9_belowFirst 2 (some .int), Cond.methodLink RX9 183 yX9_least, Cond.instanceMethod yX9_least, Cond.selects RX9 yX9_least yX9_least, Cond.code yX9_least cX9_least 6 (some .int), Cond.methodLink RX9 173 yX9_costOf, Cond.static yX9_costOf, Cond.code yX9_costOf cX9_costOf 2 (some .int), Cond.methodLink RX9 168 yX9_isVowel, Cond.static yX9_isVowel, Cond.code yX9_isVowel cX9_isVowel 1 (some .boolean), Cond.constantLong RX9 166 (3), Cond.methodLink RX9 186 yX9_belowSecond, Cond.static yX9_belowSecond, Cond.code yX9_belowSecond cX9_belowSecond 2 (some .int), Cond.methodLink RX9 193 yX9_leastSound, Cond.instanceMethod yX9_leastSound, Cond.selects RX9 yX9_leastSound yX9_leastSound, Cond.code yX9_leastSound cX9_leastSound 7 (some .int), Cond.methodLink RX9 215 yX9_layLaw, Cond.instanceMethod yX9_layLaw, Cond.selects RX9 yX9_layLaw yX9_layLaw]
def wsX9_law_r4 : List Cond := [Cond.code yX9_layLaw cX9_layLaw 8 none, Cond.fieldLink RX9 55 "SoundLawsModel" "tally" "[I", Cond.methodLink RX9 208 yX9_layTally, Cond.instanceMethod yX9_layTally, Cond.selects RX9 yX9_layTally yX9_layTally, Cond.code yX9_layTally cX9_layTally 7 none, Cond.methodLink RX9 202 yX9_weightBy, Cond.static yX9_weightBy, Cond.code yX9_weightBy cX9_weightBy 1 (some .int), Cond.methodLink RX9 205 yX9_oldSound, Cond.instanceMethod yX9_oldSound, Cond.selects RX9 yX9_oldSound yX9_oldSound, Cond.code yX9_oldSound cX9_oldSound 3 (some .int)]
def wsX9_law : List Cond := .code yX9_law cX9_law 6 (some .int) :: ((wsX9_law_r1 ++ (wsX9_law_r2 ++ (wsX9_law_r3 ++ wsX9_law_r4))) ++ wsX90)
def wsX9_lawAt : List Cond := .code yX9_lawAt cX9_lawAt 4 (some .int) :: ([.fieldLink RX9 46 "SoundLawsModel" "laws" "[I", .methodLink RX9 205 yX9_oldSound, .instanceMethod yX9_oldSound, .selects RX9 yX9_oldSound yX9_oldSound, .initialized RX9, .code yX9_oldSound cX9_oldSound 3 (some .int), .fieldLink RX9 40 "SoundLawsModel" "rebuilt" "[I", .fieldLink RX9 150 "SoundLawsModel" "tongues" "I", .methodLink RX9 177 yX9_nodesBy, .instanceMethod yX9_nodesBy, .selects RX9 yX9_nodesBy yX9_nodesBy, .code yX9_nodesBy cX9_nodesBy 2 (some .int)] ++ wsX90)
def wsX9_strangeOf : List Cond := .code yX9_strangeOf cX9_strangeOf 6 (some .int) :: ([.fieldLink RX9 25 "SoundLawsModel" "longs" "[I", .fieldLink RX9 28 "SoundLawsModel" "words" "[I", .methodLink RX9 196 yX9_isRebuilt, .instanceMethod yX9_isRebuilt, .selects RX9 yX9_isRebuilt yX9_isRebuilt, .initialized RX9, .code yX9_isRebuilt cX9_isRebuilt 2 (some .boolean), .fieldLink RX9 22 "SoundLawsModel" "kinds" "[I", .methodLink RX9 226 yX9_lawAt, .instanceMethod yX9_lawAt, .selects RX9 yX9_lawAt yX9_lawAt, .code yX9_lawAt cX9_lawAt 4 (some .int), .fieldLink RX9 46 "SoundLawsModel" "laws" "[I", .methodLink RX9 205 yX9_oldSound, .instanceMethod yX9_oldSound, .selects RX9 yX9_oldSound yX9_oldSound, .code yX9_oldSound cX9_oldSound 3 (some .int), .fieldLink RX9 40 "SoundLawsModel" "rebuilt" "[I", .fieldLink RX9 150 "SoundLawsModel" "tongues" "I", .methodLink RX9 177 yX9_nodesBy, .instanceMethod yX9_nodesBy, .selects RX9 yX9_nodesBy yX9_nodesBy, .code yX9_nodesBy cX9_nodesBy 2 (some .int)] ++ wsX90)
def wsX9_strange_r1 : List Cond := [Cond.methodLink RX9 163 yX9_isSet, Cond.instanceMethod yX9_isSet, Cond.selects RX9 yX9_isSet yX9_isSet, Cond.initialized RX9, Cond.code yX9_isSet cX9_isSet 2 (some .boolean), Cond.fieldLink RX9 147 "SoundLawsModel" "sets" "I", Cond.methodLink RX9 88 yX9_in, Cond.static yX9_in, Cond.code yX9_in cX9_in 6 (some .boolean), Cond.methodLink RX9 218 yX9_isTongue, Cond.instanceMethod yX9_isTongue, Cond.selects RX9 yX9_isTongue yX9_isTongue, Cond.code yX9_isTongue cX9_isTongue 2 (some .boolean), Cond.fieldLink RX9 150 "SoundLawsModel" "tongues" "I", Cond.methodLink RX9 196 yX9_isRebuilt, Cond.instanceMethod yX9_isRebuilt, Cond.selects RX9 yX9_isRebuilt yX9_isRebuilt, Cond.code yX9_isRebuilt cX9_isRebuilt 2 (some .boolean), Cond.fieldLink RX9 22 "SoundLawsModel" "kinds" "[I", Cond.methodLink RX9 223 yX9_freshen, Cond.instanceMethod yX9_freshen, Cond.selects RX9 yX9_freshen yX9_freshen, Cond.code yX9_freshen cX9_freshen 2 none, Cond.fieldLink RX9 153 "SoundLawsModel" "old" "Z"]
def wsX9_strange_r2 : List Cond := [Cond.methodLink RX9 212 yX9_laySets, Cond.instanceMethod yX9_laySets, Cond.selects RX9 yX9_laySets yX9_laySets, Cond.code yX9_laySets cX9_laySets 4 none, Cond.fieldLink RX9 43 "SoundLawsModel" "changes" "[I", Cond.fieldLink RX9 25 "SoundLawsModel" "longs" "[I", Cond.fieldLink RX9 37 "SoundLawsModel" "said" "[I", Cond.fieldLink RX9 28 "SoundLawsModel" "words" "[I", Cond.fieldLink RX9 40 "SoundLawsModel" "rebuilt" "[I", Cond.fieldLink RX9 34 "SoundLawsModel" "had" "[I", Cond.methodLink RX9 199 yX9_rebuild, Cond.instanceMethod yX9_rebuild, Cond.selects RX9 yX9_rebuild yX9_rebuild, Cond.code yX9_rebuild cX9_rebuild 4 (some .int), Cond.fieldLink RX9 31 "SoundLawsModel" "costs" "[I", Cond.methodLink RX9 189 yX9_layCosts, Cond.instanceMethod yX9_layCosts, Cond.selects RX9 yX9_layCosts yX9_layCosts, Cond.code yX9_layCosts cX9_layCosts 4 none, Cond.methodLink RX9 177 yX9_nodesBy, Cond.instanceMethod yX9_nodesBy, Cond.selects RX9 yX9_nodesBy yX9_nodesBy, Cond.code yX9_nodesBy cX9_nodesBy 2 (some .int), Cond.methodLink RX9 180 yX9_belowFirst]
def wsX9_strange_r3 : List Cond := [Cond.static yX9_belowFirst, Cond.code yX9_belowFirst cX9_belowFirst 2 (some .int), Cond.methodLink RX9 183 yX9_least, Cond.instanceMethod yX9_least, Cond.selects RX9 yX9_least yX9_least, Cond.code yX9_least cX9_least 6 (some .int), Cond.methodLink RX9 173 yX9_costOf, Cond.static yX9_costOf, Cond.code yX9_costOf cX9_costOf 2 (some .int), Cond.methodLink RX9 168 yX9_isVowel, Cond.static yX9_isVowel, Cond.code yX9_isVowel cX9_isVowel 1 (some .boolean), Cond.constantLong RX9 166 (3), Cond.methodLink RX9 186 yX9_belowSecond, Cond.static yX9_belowSecond, Cond.code yX9_belowSecond cX9_belowSecond 2 (some .int), Cond.methodLink RX9 193 yX9_leastSound, Cond.instanceMethod yX9_leastSound, Cond.selects RX9 yX9_leastSound yX9_leastSound, Cond.code yX9_leastSound cX9_leastSound 7 (some .int), Cond.methodLink RX9 215 yX9_layLaw, Cond.instanceMethod yX9_layLaw, Cond.selects RX9 yX9_layLaw yX9_layLaw, Cond.code yX9_layLaw cX9_layLaw 8 none]
def wsX9_strange_r4 : List Cond := [Cond.fieldLink RX9 55 "SoundLawsModel" "tally" "[I", Cond.fieldLink RX9 46 "SoundLawsModel" "laws" "[I", Cond.fieldLink RX9 49 "SoundLawsModel" "follows" "[I", Cond.fieldLink RX9 52 "SoundLawsModel" "exceptions" "[I", Cond.methodLink RX9 208 yX9_layTally, Cond.instanceMethod yX9_layTally, Cond.selects RX9 yX9_layTally yX9_layTally, Cond.code yX9_layTally cX9_layTally 7 none, Cond.methodLink RX9 202 yX9_weightBy, Cond.static yX9_weightBy, Cond.code yX9_weightBy cX9_weightBy 1 (some .int), Cond.methodLink RX9 205 yX9_oldSound, Cond.instanceMethod yX9_oldSound, Cond.selects RX9 yX9_oldSound yX9_oldSound, Cond.code yX9_oldSound cX9_oldSound 3 (some .int), Cond.methodLink RX9 230 yX9_strangeOf, Cond.instanceMethod yX9_strangeOf, Cond.selects RX9 yX9_strangeOf yX9_strangeOf, Cond.code yX9_strangeOf cX9_strangeOf 6 (some .int), Cond.methodLink RX9 226 yX9_lawAt, Cond.instanceMethod yX9_lawAt, Cond.selects RX9 yX9_lawAt yX9_lawAt, Cond.code yX9_lawAt cX9_lawAt 4 (some .int)]
def wsX9_strange : List Cond := .code yX9_strange cX9_strange 3 (some .int) :: ((wsX9_strange_r1 ++ (wsX9_strange_r2 ++ (wsX9_strange_r3 ++ wsX9_strange_r4))) ++ wsX90)
def wsX9_say_r1 : List Cond := [Cond.methodLink RX9 233 yX9_isPlace, Cond.instanceMethod yX9_isPlace, Cond.selects RX9 yX9_isPlace yX9_isPlace, Cond.initialized RX9, Cond.code yX9_isPlace cX9_isPlace 3 (some .boolean), Cond.fieldLink RX9 25 "SoundLawsModel" "longs" "[I", Cond.methodLink RX9 163 yX9_isSet, Cond.instanceMethod yX9_isSet, Cond.selects RX9 yX9_isSet yX9_isSet, Cond.code yX9_isSet cX9_isSet 2 (some .boolean), Cond.fieldLink RX9 147 "SoundLawsModel" "sets" "I", Cond.methodLink RX9 88 yX9_in, Cond.static yX9_in, Cond.code yX9_in cX9_in 6 (some .boolean), Cond.methodLink RX9 218 yX9_isTongue, Cond.instanceMethod yX9_isTongue, Cond.selects RX9 yX9_isTongue yX9_isTongue, Cond.code yX9_isTongue cX9_isTongue 2 (some .boolean), Cond.fieldLink RX9 150 "SoundLawsModel" "tongues" "I", Cond.methodLink RX9 196 yX9_isRebuilt, Cond.instanceMethod yX9_isRebuilt, Cond.selects RX9 yX9_isRebuilt yX9_isRebuilt, Cond.code yX9_isRebuilt cX9_isRebuilt 2 (some .boolean), Cond.fieldLink RX9 22 "SoundLawsModel" "kinds" "[I"]
def wsX9_say_r2 : List Cond := [Cond.methodLink RX9 223 yX9_freshen, Cond.instanceMethod yX9_freshen, Cond.selects RX9 yX9_freshen yX9_freshen, Cond.code yX9_freshen cX9_freshen 2 none, Cond.fieldLink RX9 153 "SoundLawsModel" "old" "Z", Cond.methodLink RX9 212 yX9_laySets, Cond.instanceMethod yX9_laySets, Cond.selects RX9 yX9_laySets yX9_laySets, Cond.code yX9_laySets cX9_laySets 4 none, Cond.fieldLink RX9 43 "SoundLawsModel" "changes" "[I", Cond.fieldLink RX9 37 "SoundLawsModel" "said" "[I", Cond.fieldLink RX9 28 "SoundLawsModel" "words" "[I", Cond.fieldLink RX9 40 "SoundLawsModel" "rebuilt" "[I", Cond.fieldLink RX9 34 "SoundLawsModel" "had" "[I", Cond.methodLink RX9 199 yX9_rebuild, Cond.instanceMethod yX9_rebuild, Cond.selects RX9 yX9_rebuild yX9_rebuild, Cond.code yX9_rebuild cX9_rebuild 4 (some .int), Cond.fieldLink RX9 31 "SoundLawsModel" "costs" "[I", Cond.methodLink RX9 189 yX9_layCosts, Cond.instanceMethod yX9_layCosts, Cond.selects RX9 yX9_layCosts yX9_layCosts, Cond.code yX9_layCosts cX9_layCosts 4 none, Cond.methodLink RX9 177 yX9_nodesBy]
def wsX9_say_r3 : List Cond := [Cond.instanceMethod yX9_nodesBy, Cond.selects RX9 yX9_nodesBy yX9_nodesBy, Cond.code yX9_nodesBy cX9_nodesBy 2 (some .int), Cond.methodLink RX9 180 yX9_belowFirst, Cond.static yX9_belowFirst, Cond.code yX9_belowFirst cX9_belowFirst 2 (some .int), Cond.methodLink RX9 183 yX9_least, Cond.instanceMethod yX9_least, Cond.selects RX9 yX9_least yX9_least, Cond.code yX9_least cX9_least 6 (some .int), Cond.methodLink RX9 173 yX9_costOf, Cond.static yX9_costOf, Cond.code yX9_costOf cX9_costOf 2 (some .int), Cond.methodLink RX9 168 yX9_isVowel, Cond.static yX9_isVowel, Cond.code yX9_isVowel cX9_isVowel 1 (some .boolean), Cond.constantLong RX9 166 (3), Cond.methodLink RX9 186 yX9_belowSecond, Cond.static yX9_belowSecond, Cond.code yX9_belowSecond cX9_belowSecond 2 (some .int), Cond.methodLink RX9 193 yX9_leastSound, Cond.instanceMethod yX9_leastSound, Cond.selects RX9 yX9_leastSound yX9_leastSound, Cond.code yX9_leastSound cX9_leastSound 7 (some .int)]
def wsX9_say_r4 : List Cond := [Cond.methodLink RX9 215 yX9_layLaw, Cond.instanceMethod yX9_layLaw, Cond.selects RX9 yX9_layLaw yX9_layLaw, Cond.code yX9_layLaw cX9_layLaw 8 none, Cond.fieldLink RX9 55 "SoundLawsModel" "tally" "[I", Cond.fieldLink RX9 46 "SoundLawsModel" "laws" "[I", Cond.fieldLink RX9 49 "SoundLawsModel" "follows" "[I", Cond.fieldLink RX9 52 "SoundLawsModel" "exceptions" "[I", Cond.methodLink RX9 208 yX9_layTally, Cond.instanceMethod yX9_layTally, Cond.selects RX9 yX9_layTally yX9_layTally, Cond.code yX9_layTally cX9_layTally 7 none, Cond.methodLink RX9 202 yX9_weightBy, Cond.static yX9_weightBy, Cond.code yX9_weightBy cX9_weightBy 1 (some .int), Cond.methodLink RX9 205 yX9_oldSound, Cond.instanceMethod yX9_oldSound, Cond.selects RX9 yX9_oldSound yX9_oldSound, Cond.code yX9_oldSound cX9_oldSound 3 (some .int), Cond.methodLink RX9 226 yX9_lawAt, Cond.instanceMethod yX9_lawAt, Cond.selects RX9 yX9_lawAt yX9_lawAt, Cond.code yX9_lawAt cX9_lawAt 4 (some .int)]
def wsX9_say : List Cond := .code yX9_say cX9_say 5 (some .int) :: ((wsX9_say_r1 ++ (wsX9_say_r2 ++ (wsX9_say_r3 ++ wsX9_say_r4))) ++ wsX90)
def wsX9_isBorrowed_r1 : List Cond := [Cond.fieldLink RX9 25 "SoundLawsModel" "longs" "[I", Cond.methodLink RX9 230 yX9_strangeOf, Cond.instanceMethod yX9_strangeOf, Cond.selects RX9 yX9_strangeOf yX9_strangeOf, Cond.initialized RX9, Cond.code yX9_strangeOf cX9_strangeOf 6 (some .int), Cond.fieldLink RX9 28 "SoundLawsModel" "words" "[I", Cond.methodLink RX9 196 yX9_isRebuilt, Cond.instanceMethod yX9_isRebuilt, Cond.selects RX9 yX9_isRebuilt yX9_isRebuilt, Cond.code yX9_isRebuilt cX9_isRebuilt 2 (some .boolean), Cond.fieldLink RX9 22 "SoundLawsModel" "kinds" "[I", Cond.methodLink RX9 226 yX9_lawAt, Cond.instanceMethod yX9_lawAt, Cond.selects RX9 yX9_lawAt yX9_lawAt, Cond.code yX9_lawAt cX9_lawAt 4 (some .int), Cond.fieldLink RX9 46 "SoundLawsModel" "laws" "[I", Cond.methodLink RX9 205 yX9_oldSound, Cond.instanceMethod yX9_oldSound, Cond.selects RX9 yX9_oldSound yX9_oldSound, Cond.code yX9_oldSound cX9_oldSound 3 (some .int), Cond.fieldLink RX9 40 "SoundLawsModel" "rebuilt" "[I", Cond.fieldLink RX9 150 "SoundLawsModel" "tongues" "I", Cond.methodLink RX9 177 yX9_nodesBy]
def wsX9_isBorrowed_r2 : List Cond := [Cond.instanceMethod yX9_nodesBy, Cond.selects RX9 yX9_nodesBy yX9_nodesBy, Cond.code yX9_nodesBy cX9_nodesBy 2 (some .int)]
def wsX9_isBorrowed : List Cond := .code yX9_isBorrowed cX9_isBorrowed 4 (some .boolean) :: ((wsX9_isBorrowed_r1 ++ wsX9_isBorrowed_r2) ++ wsX90)
def wsX9_strangeAll_r1 : List Cond := [Cond.fieldLink RX9 150 "SoundLawsModel" "tongues" "I", Cond.methodLink RX9 230 yX9_strangeOf, Cond.instanceMethod yX9_strangeOf, Cond.selects RX9 yX9_strangeOf yX9_strangeOf, Cond.initialized RX9, Cond.code yX9_strangeOf cX9_strangeOf 6 (some .int), Cond.fieldLink RX9 25 "SoundLawsModel" "longs" "[I", Cond.fieldLink RX9 28 "SoundLawsModel" "words" "[I", Cond.methodLink RX9 196 yX9_isRebuilt, Cond.instanceMethod yX9_isRebuilt, Cond.selects RX9 yX9_isRebuilt yX9_isRebuilt, Cond.code yX9_isRebuilt cX9_isRebuilt 2 (some .boolean), Cond.fieldLink RX9 22 "SoundLawsModel" "kinds" "[I", Cond.methodLink RX9 226 yX9_lawAt, Cond.instanceMethod yX9_lawAt, Cond.selects RX9 yX9_lawAt yX9_lawAt, Cond.code yX9_lawAt cX9_lawAt 4 (some .int), Cond.fieldLink RX9 46 "SoundLawsModel" "laws" "[I", Cond.methodLink RX9 205 yX9_oldSound, Cond.instanceMethod yX9_oldSound, Cond.selects RX9 yX9_oldSound yX9_oldSound, Cond.code yX9_oldSound cX9_oldSound 3 (some .int), Cond.fieldLink RX9 40 "SoundLawsModel" "rebuilt" "[I", Cond.methodLink RX9 177 yX9_nodesBy]
def wsX9_strangeAll_r2 : List Cond := [Cond.instanceMethod yX9_nodesBy, Cond.selects RX9 yX9_nodesBy yX9_nodesBy, Cond.code yX9_nodesBy cX9_nodesBy 2 (some .int)]
def wsX9_strangeAll : List Cond := .code yX9_strangeAll cX9_strangeAll 4 (some .int) :: ((wsX9_strangeAll_r1 ++ wsX9_strangeAll_r2) ++ wsX90)
def wsX9_borrowed_r1 : List Cond := [Cond.fieldLink RX9 150 "SoundLawsModel" "tongues" "I", Cond.methodLink RX9 237 yX9_isBorrowed, Cond.instanceMethod yX9_isBorrowed, Cond.selects RX9 yX9_isBorrowed yX9_isBorrowed, Cond.initialized RX9, Cond.code yX9_isBorrowed cX9_isBorrowed 4 (some .boolean), Cond.fieldLink RX9 25 "SoundLawsModel" "longs" "[I", Cond.methodLink RX9 230 yX9_strangeOf, Cond.instanceMethod yX9_strangeOf, Cond.selects RX9 yX9_strangeOf yX9_strangeOf, Cond.code yX9_strangeOf cX9_strangeOf 6 (some .int), Cond.fieldLink RX9 28 "SoundLawsModel" "words" "[I", Cond.methodLink RX9 196 yX9_isRebuilt, Cond.instanceMethod yX9_isRebuilt, Cond.selects RX9 yX9_isRebuilt yX9_isRebuilt, Cond.code yX9_isRebuilt cX9_isRebuilt 2 (some .boolean), Cond.fieldLink RX9 22 "SoundLawsModel" "kinds" "[I", Cond.methodLink RX9 226 yX9_lawAt, Cond.instanceMethod yX9_lawAt, Cond.selects RX9 yX9_lawAt yX9_lawAt, Cond.code yX9_lawAt cX9_lawAt 4 (some .int), Cond.fieldLink RX9 46 "SoundLawsModel" "laws" "[I", Cond.methodLink RX9 205 yX9_oldSound, Cond.instanceMethod yX9_oldSound]
def wsX9_borrowed_r2 : List Cond := [Cond.selects RX9 yX9_oldSound yX9_oldSound, Cond.code yX9_oldSound cX9_oldSound 3 (some .int), Cond.fieldLink RX9 40 "SoundLawsModel" "rebuilt" "[I", Cond.methodLink RX9 177 yX9_nodesBy, Cond.instanceMethod yX9_nodesBy, Cond.selects RX9 yX9_nodesBy yX9_nodesBy, Cond.code yX9_nodesBy cX9_nodesBy 2 (some .int)]
def wsX9_borrowed : List Cond := .code yX9_borrowed cX9_borrowed 4 (some .int) :: ((wsX9_borrowed_r1 ++ wsX9_borrowed_r2) ++ wsX90)
def wsX9_strip : List Cond := .code yX9_strip cX9_strip 7 (some .int) :: ([.fieldLink RX9 25 "SoundLawsModel" "longs" "[I", .fieldLink RX9 28 "SoundLawsModel" "words" "[I"] ++ wsX90)
def wsX9_line_r1 : List Cond := [Cond.fieldLink RX9 58 "SoundLawsModel" "one" "[I", Cond.fieldLink RX9 61 "SoundLawsModel" "other" "[I", Cond.fieldLink RX9 64 "SoundLawsModel" "lines" "[I", Cond.methodLink RX9 163 yX9_isSet, Cond.instanceMethod yX9_isSet, Cond.selects RX9 yX9_isSet yX9_isSet, Cond.initialized RX9, Cond.code yX9_isSet cX9_isSet 2 (some .boolean), Cond.fieldLink RX9 147 "SoundLawsModel" "sets" "I", Cond.methodLink RX9 88 yX9_in, Cond.static yX9_in, Cond.code yX9_in cX9_in 6 (some .boolean), Cond.methodLink RX9 218 yX9_isTongue, Cond.instanceMethod yX9_isTongue, Cond.selects RX9 yX9_isTongue yX9_isTongue, Cond.code yX9_isTongue cX9_isTongue 2 (some .boolean), Cond.fieldLink RX9 150 "SoundLawsModel" "tongues" "I", Cond.methodLink RX9 240 yX9_strip, Cond.instanceMethod yX9_strip, Cond.selects RX9 yX9_strip yX9_strip, Cond.code yX9_strip cX9_strip 7 (some .int), Cond.fieldLink RX9 25 "SoundLawsModel" "longs" "[I", Cond.fieldLink RX9 28 "SoundLawsModel" "words" "[I", Cond.methodLink RX9 173 yX9_costOf]
def wsX9_line_r2 : List Cond := [Cond.static yX9_costOf, Cond.code yX9_costOf cX9_costOf 2 (some .int), Cond.methodLink RX9 168 yX9_isVowel, Cond.static yX9_isVowel, Cond.code yX9_isVowel cX9_isVowel 1 (some .boolean), Cond.constantLong RX9 166 (3)]
def wsX9_line : List Cond := .code yX9_line cX9_line 13 (some .int) :: ((wsX9_line_r1 ++ wsX9_line_r2) ++ wsX90)
def wsX9_sortsBy : List Cond := .code yX9_sortsBy cX9_sortsBy 1 (some .int) :: ([])
def wsX9_sortsOf : List Cond := .code yX9_sortsOf cX9_sortsOf 5 (some .int) :: ([.fieldLink RX9 157 "SoundLawsModel" "seenMany" "I", .fieldLink RX9 67 "SoundLawsModel" "sights" "[I", .methodLink RX9 271 yX9_sortsBy, .static yX9_sortsBy, .initialized RX9, .code yX9_sortsBy cX9_sortsBy 1 (some .int)] ++ wsX90)
def wsX9_ones : List Cond := .code yX9_ones cX9_ones 3 (some .int) :: ([])
def wsX9_askOf : List Cond := .code yX9_askOf cX9_askOf 9 (some .int) :: ([.methodLink RX9 250 yX9_sortsOf, .instanceMethod yX9_sortsOf, .selects RX9 yX9_sortsOf yX9_sortsOf, .initialized RX9, .code yX9_sortsOf cX9_sortsOf 5 (some .int), .fieldLink RX9 157 "SoundLawsModel" "seenMany" "I", .fieldLink RX9 67 "SoundLawsModel" "sights" "[I", .methodLink RX9 271 yX9_sortsBy, .static yX9_sortsBy, .code yX9_sortsBy cX9_sortsBy 1 (some .int), .methodLink RX9 274 yX9_ones, .static yX9_ones, .code yX9_ones cX9_ones 3 (some .int)] ++ wsX90)
def wsX9_tellSet_r1 : List Cond := [Cond.fieldLink RX9 22 "SoundLawsModel" "kinds" "[I", Cond.fieldLink RX9 25 "SoundLawsModel" "longs" "[I", Cond.fieldLink RX9 43 "SoundLawsModel" "changes" "[I", Cond.methodLink RX9 223 yX9_freshen, Cond.instanceMethod yX9_freshen, Cond.selects RX9 yX9_freshen yX9_freshen, Cond.initialized RX9, Cond.code yX9_freshen cX9_freshen 2 none, Cond.fieldLink RX9 153 "SoundLawsModel" "old" "Z", Cond.fieldLink RX9 150 "SoundLawsModel" "tongues" "I", Cond.methodLink RX9 212 yX9_laySets, Cond.instanceMethod yX9_laySets, Cond.selects RX9 yX9_laySets yX9_laySets, Cond.code yX9_laySets cX9_laySets 4 none, Cond.fieldLink RX9 147 "SoundLawsModel" "sets" "I", Cond.fieldLink RX9 37 "SoundLawsModel" "said" "[I", Cond.fieldLink RX9 28 "SoundLawsModel" "words" "[I", Cond.fieldLink RX9 40 "SoundLawsModel" "rebuilt" "[I", Cond.fieldLink RX9 34 "SoundLawsModel" "had" "[I", Cond.methodLink RX9 196 yX9_isRebuilt, Cond.instanceMethod yX9_isRebuilt, Cond.selects RX9 yX9_isRebuilt yX9_isRebuilt, Cond.code yX9_isRebuilt cX9_isRebuilt 2 (some .boolean), Cond.methodLink RX9 199 yX9_rebuild]
def wsX9_tellSet_r2 : List Cond := [Cond.instanceMethod yX9_rebuild, Cond.selects RX9 yX9_rebuild yX9_rebuild, Cond.code yX9_rebuild cX9_rebuild 4 (some .int), Cond.fieldLink RX9 31 "SoundLawsModel" "costs" "[I", Cond.methodLink RX9 189 yX9_layCosts, Cond.instanceMethod yX9_layCosts, Cond.selects RX9 yX9_layCosts yX9_layCosts, Cond.code yX9_layCosts cX9_layCosts 4 none, Cond.methodLink RX9 177 yX9_nodesBy, Cond.instanceMethod yX9_nodesBy, Cond.selects RX9 yX9_nodesBy yX9_nodesBy, Cond.code yX9_nodesBy cX9_nodesBy 2 (some .int), Cond.methodLink RX9 180 yX9_belowFirst, Cond.static yX9_belowFirst, Cond.code yX9_belowFirst cX9_belowFirst 2 (some .int), Cond.methodLink RX9 183 yX9_least, Cond.instanceMethod yX9_least, Cond.selects RX9 yX9_least yX9_least, Cond.code yX9_least cX9_least 6 (some .int), Cond.methodLink RX9 173 yX9_costOf, Cond.static yX9_costOf, Cond.code yX9_costOf cX9_costOf 2 (some .int), Cond.methodLink RX9 168 yX9_isVowel, Cond.static yX9_isVowel]
def wsX9_tellSet_r3 : List Cond := [Cond.code yX9_isVowel cX9_isVowel 1 (some .boolean), Cond.constantLong RX9 166 (3), Cond.methodLink RX9 88 yX9_in, Cond.static yX9_in, Cond.code yX9_in cX9_in 6 (some .boolean), Cond.methodLink RX9 186 yX9_belowSecond, Cond.static yX9_belowSecond, Cond.code yX9_belowSecond cX9_belowSecond 2 (some .int), Cond.methodLink RX9 193 yX9_leastSound, Cond.instanceMethod yX9_leastSound, Cond.selects RX9 yX9_leastSound yX9_leastSound, Cond.code yX9_leastSound cX9_leastSound 7 (some .int), Cond.methodLink RX9 215 yX9_layLaw, Cond.instanceMethod yX9_layLaw, Cond.selects RX9 yX9_layLaw yX9_layLaw, Cond.code yX9_layLaw cX9_layLaw 8 none, Cond.fieldLink RX9 55 "SoundLawsModel" "tally" "[I", Cond.fieldLink RX9 46 "SoundLawsModel" "laws" "[I", Cond.fieldLink RX9 49 "SoundLawsModel" "follows" "[I", Cond.fieldLink RX9 52 "SoundLawsModel" "exceptions" "[I", Cond.methodLink RX9 208 yX9_layTally, Cond.instanceMethod yX9_layTally, Cond.selects RX9 yX9_layTally yX9_layTally, Cond.code yX9_layTally cX9_layTally 7 none]
def wsX9_tellSet_r4 : List Cond := [Cond.methodLink RX9 202 yX9_weightBy, Cond.static yX9_weightBy, Cond.code yX9_weightBy cX9_weightBy 1 (some .int), Cond.methodLink RX9 205 yX9_oldSound, Cond.instanceMethod yX9_oldSound, Cond.selects RX9 yX9_oldSound yX9_oldSound, Cond.code yX9_oldSound cX9_oldSound 3 (some .int), Cond.methodLink RX9 244 yX9_strangeAll, Cond.instanceMethod yX9_strangeAll, Cond.selects RX9 yX9_strangeAll yX9_strangeAll, Cond.code yX9_strangeAll cX9_strangeAll 4 (some .int), Cond.methodLink RX9 230 yX9_strangeOf, Cond.instanceMethod yX9_strangeOf, Cond.selects RX9 yX9_strangeOf yX9_strangeOf, Cond.code yX9_strangeOf cX9_strangeOf 6 (some .int), Cond.methodLink RX9 226 yX9_lawAt, Cond.instanceMethod yX9_lawAt, Cond.selects RX9 yX9_lawAt yX9_lawAt, Cond.code yX9_lawAt cX9_lawAt 4 (some .int), Cond.methodLink RX9 247 yX9_borrowed, Cond.instanceMethod yX9_borrowed, Cond.selects RX9 yX9_borrowed yX9_borrowed, Cond.code yX9_borrowed cX9_borrowed 4 (some .int), Cond.methodLink RX9 237 yX9_isBorrowed]
def wsX9_tellSet_r5 : List Cond := [Cond.instanceMethod yX9_isBorrowed, Cond.selects RX9 yX9_isBorrowed yX9_isBorrowed, Cond.code yX9_isBorrowed cX9_isBorrowed 4 (some .boolean), Cond.methodLink RX9 250 yX9_sortsOf, Cond.instanceMethod yX9_sortsOf, Cond.selects RX9 yX9_sortsOf yX9_sortsOf, Cond.code yX9_sortsOf cX9_sortsOf 5 (some .int), Cond.fieldLink RX9 157 "SoundLawsModel" "seenMany" "I", Cond.fieldLink RX9 67 "SoundLawsModel" "sights" "[I", Cond.methodLink RX9 271 yX9_sortsBy, Cond.static yX9_sortsBy, Cond.code yX9_sortsBy cX9_sortsBy 1 (some .int), Cond.methodLink RX9 253 yX9_askOf, Cond.instanceMethod yX9_askOf, Cond.selects RX9 yX9_askOf yX9_askOf, Cond.code yX9_askOf cX9_askOf 9 (some .int), Cond.methodLink RX9 274 yX9_ones, Cond.static yX9_ones, Cond.code yX9_ones cX9_ones 3 (some .int)]
def wsX9_tellSet : List Cond := .code yX9_tellSet cX9_tellSet 3 (some .int) :: ((wsX9_tellSet_r1 ++ (wsX9_tellSet_r2 ++ (wsX9_tellSet_r3 ++ (wsX9_tellSet_r4 ++ wsX9_tellSet_r5)))) ++ wsX90)
def wsX9_set_r1 : List Cond := [Cond.methodLink RX9 163 yX9_isSet, Cond.instanceMethod yX9_isSet, Cond.selects RX9 yX9_isSet yX9_isSet, Cond.initialized RX9, Cond.code yX9_isSet cX9_isSet 2 (some .boolean), Cond.fieldLink RX9 147 "SoundLawsModel" "sets" "I", Cond.methodLink RX9 88 yX9_in, Cond.static yX9_in, Cond.code yX9_in cX9_in 6 (some .boolean), Cond.methodLink RX9 256 yX9_tellSet, Cond.instanceMethod yX9_tellSet, Cond.selects RX9 yX9_tellSet yX9_tellSet, Cond.code yX9_tellSet cX9_tellSet 3 (some .int), Cond.fieldLink RX9 22 "SoundLawsModel" "kinds" "[I", Cond.fieldLink RX9 25 "SoundLawsModel" "longs" "[I", Cond.fieldLink RX9 43 "SoundLawsModel" "changes" "[I", Cond.methodLink RX9 223 yX9_freshen, Cond.instanceMethod yX9_freshen, Cond.selects RX9 yX9_freshen yX9_freshen, Cond.code yX9_freshen cX9_freshen 2 none, Cond.fieldLink RX9 153 "SoundLawsModel" "old" "Z", Cond.fieldLink RX9 150 "SoundLawsModel" "tongues" "I", Cond.methodLink RX9 212 yX9_laySets, Cond.instanceMethod yX9_laySets]
def wsX9_set_r2 : List Cond := [Cond.selects RX9 yX9_laySets yX9_laySets, Cond.code yX9_laySets cX9_laySets 4 none, Cond.fieldLink RX9 37 "SoundLawsModel" "said" "[I", Cond.fieldLink RX9 28 "SoundLawsModel" "words" "[I", Cond.fieldLink RX9 40 "SoundLawsModel" "rebuilt" "[I", Cond.fieldLink RX9 34 "SoundLawsModel" "had" "[I", Cond.methodLink RX9 196 yX9_isRebuilt, Cond.instanceMethod yX9_isRebuilt, Cond.selects RX9 yX9_isRebuilt yX9_isRebuilt, Cond.code yX9_isRebuilt cX9_isRebuilt 2 (some .boolean), Cond.methodLink RX9 199 yX9_rebuild, Cond.instanceMethod yX9_rebuild, Cond.selects RX9 yX9_rebuild yX9_rebuild, Cond.code yX9_rebuild cX9_rebuild 4 (some .int), Cond.fieldLink RX9 31 "SoundLawsModel" "costs" "[I", Cond.methodLink RX9 189 yX9_layCosts, Cond.instanceMethod yX9_layCosts, Cond.selects RX9 yX9_layCosts yX9_layCosts, Cond.code yX9_layCosts cX9_layCosts 4 none, Cond.methodLink RX9 177 yX9_nodesBy, Cond.instanceMethod yX9_nodesBy, Cond.selects RX9 yX9_nodesBy yX9_nodesBy, Cond.code yX9_nodesBy cX9_nodesBy 2 (some .int), Cond.methodLink RX9 180 yX9_belowFirst]
def wsX9_set_r3 : List Cond := [Cond.static yX9_belowFirst, Cond.code yX9_belowFirst cX9_belowFirst 2 (some .int), Cond.methodLink RX9 183 yX9_least, Cond.instanceMethod yX9_least, Cond.selects RX9 yX9_least yX9_least, Cond.code yX9_least cX9_least 6 (some .int), Cond.methodLink RX9 173 yX9_costOf, Cond.static yX9_costOf, Cond.code yX9_costOf cX9_costOf 2 (some .int), Cond.methodLink RX9 168 yX9_isVowel, Cond.static yX9_isVowel, Cond.code yX9_isVowel cX9_isVowel 1 (some .boolean), Cond.constantLong RX9 166 (3), Cond.methodLink RX9 186 yX9_belowSecond, Cond.static yX9_belowSecond, Cond.code yX9_belowSecond cX9_belowSecond 2 (some .int), Cond.methodLink RX9 193 yX9_leastSound, Cond.instanceMethod yX9_leastSound, Cond.selects RX9 yX9_leastSound yX9_leastSound, Cond.code yX9_leastSound cX9_leastSound 7 (some .int), Cond.methodLink RX9 215 yX9_layLaw, Cond.instanceMethod yX9_layLaw, Cond.selects RX9 yX9_layLaw yX9_layLaw, Cond.code yX9_layLaw cX9_layLaw 8 none]
def wsX9_set_r4 : List Cond := [Cond.fieldLink RX9 55 "SoundLawsModel" "tally" "[I", Cond.fieldLink RX9 46 "SoundLawsModel" "laws" "[I", Cond.fieldLink RX9 49 "SoundLawsModel" "follows" "[I", Cond.fieldLink RX9 52 "SoundLawsModel" "exceptions" "[I", Cond.methodLink RX9 208 yX9_layTally, Cond.instanceMethod yX9_layTally, Cond.selects RX9 yX9_layTally yX9_layTally, Cond.code yX9_layTally cX9_layTally 7 none, Cond.methodLink RX9 202 yX9_weightBy, Cond.static yX9_weightBy, Cond.code yX9_weightBy cX9_weightBy 1 (some .int), Cond.methodLink RX9 205 yX9_oldSound, Cond.instanceMethod yX9_oldSound, Cond.selects RX9 yX9_oldSound yX9_oldSound, Cond.code yX9_oldSound cX9_oldSound 3 (some .int), Cond.methodLink RX9 244 yX9_strangeAll, Cond.instanceMethod yX9_strangeAll, Cond.selects RX9 yX9_strangeAll yX9_strangeAll, Cond.code yX9_strangeAll cX9_strangeAll 4 (some .int), Cond.methodLink RX9 230 yX9_strangeOf, Cond.instanceMethod yX9_strangeOf, Cond.selects RX9 yX9_strangeOf yX9_strangeOf, Cond.code yX9_strangeOf cX9_strangeOf 6 (some .int), Cond.methodLink RX9 226 yX9_lawAt]
def wsX9_set_r5 : List Cond := [Cond.instanceMethod yX9_lawAt, Cond.selects RX9 yX9_lawAt yX9_lawAt, Cond.code yX9_lawAt cX9_lawAt 4 (some .int), Cond.methodLink RX9 247 yX9_borrowed, Cond.instanceMethod yX9_borrowed, Cond.selects RX9 yX9_borrowed yX9_borrowed, Cond.code yX9_borrowed cX9_borrowed 4 (some .int), Cond.methodLink RX9 237 yX9_isBorrowed, Cond.instanceMethod yX9_isBorrowed, Cond.selects RX9 yX9_isBorrowed yX9_isBorrowed, Cond.code yX9_isBorrowed cX9_isBorrowed 4 (some .boolean), Cond.methodLink RX9 250 yX9_sortsOf, Cond.instanceMethod yX9_sortsOf, Cond.selects RX9 yX9_sortsOf yX9_sortsOf, Cond.code yX9_sortsOf cX9_sortsOf 5 (some .int), Cond.fieldLink RX9 157 "SoundLawsModel" "seenMany" "I", Cond.fieldLink RX9 67 "SoundLawsModel" "sights" "[I", Cond.methodLink RX9 271 yX9_sortsBy, Cond.static yX9_sortsBy, Cond.code yX9_sortsBy cX9_sortsBy 1 (some .int), Cond.methodLink RX9 253 yX9_askOf, Cond.instanceMethod yX9_askOf, Cond.selects RX9 yX9_askOf yX9_askOf, Cond.code yX9_askOf cX9_askOf 9 (some .int)]
def wsX9_set_r6 : List Cond := [Cond.methodLink RX9 274 yX9_ones, Cond.static yX9_ones, Cond.code yX9_ones cX9_ones 3 (some .int)]
def wsX9_set : List Cond := .code yX9_set cX9_set 3 (some .int) :: ((wsX9_set_r1 ++ (wsX9_set_r2 ++ (wsX9_set_r3 ++ (wsX9_set_r4 ++ (wsX9_set_r5 ++ wsX9_set_r6))))) ++ wsX90)
def wsX9_as : List Cond := .code yX9_as cX9_as 4 (some .int) :: ([.constantLong RX9 259 (4), .fieldLink RX9 22 "SoundLawsModel" "kinds" "[I", .methodLink RX9 163 yX9_isSet, .instanceMethod yX9_isSet, .selects RX9 yX9_isSet yX9_isSet, .initialized RX9, .code yX9_isSet cX9_isSet 2 (some .boolean), .fieldLink RX9 147 "SoundLawsModel" "sets" "I", .methodLink RX9 88 yX9_in, .static yX9_in, .code yX9_in cX9_in 6 (some .boolean)] ++ wsX90)
def wsX9_sound_r1 : List Cond := [Cond.fieldLink RX9 150 "SoundLawsModel" "tongues" "I", Cond.fieldLink RX9 40 "SoundLawsModel" "rebuilt" "[I", Cond.methodLink RX9 233 yX9_isPlace, Cond.instanceMethod yX9_isPlace, Cond.selects RX9 yX9_isPlace yX9_isPlace, Cond.initialized RX9, Cond.code yX9_isPlace cX9_isPlace 3 (some .boolean), Cond.fieldLink RX9 25 "SoundLawsModel" "longs" "[I", Cond.methodLink RX9 163 yX9_isSet, Cond.instanceMethod yX9_isSet, Cond.selects RX9 yX9_isSet yX9_isSet, Cond.code yX9_isSet cX9_isSet 2 (some .boolean), Cond.fieldLink RX9 147 "SoundLawsModel" "sets" "I", Cond.methodLink RX9 88 yX9_in, Cond.static yX9_in, Cond.code yX9_in cX9_in 6 (some .boolean), Cond.methodLink RX9 177 yX9_nodesBy, Cond.instanceMethod yX9_nodesBy, Cond.selects RX9 yX9_nodesBy yX9_nodesBy, Cond.code yX9_nodesBy cX9_nodesBy 2 (some .int), Cond.methodLink RX9 223 yX9_freshen, Cond.instanceMethod yX9_freshen, Cond.selects RX9 yX9_freshen yX9_freshen, Cond.code yX9_freshen cX9_freshen 2 none]
def wsX9_sound_r2 : List Cond := [Cond.fieldLink RX9 153 "SoundLawsModel" "old" "Z", Cond.methodLink RX9 212 yX9_laySets, Cond.instanceMethod yX9_laySets, Cond.selects RX9 yX9_laySets yX9_laySets, Cond.code yX9_laySets cX9_laySets 4 none, Cond.fieldLink RX9 43 "SoundLawsModel" "changes" "[I", Cond.fieldLink RX9 37 "SoundLawsModel" "said" "[I", Cond.fieldLink RX9 28 "SoundLawsModel" "words" "[I", Cond.fieldLink RX9 34 "SoundLawsModel" "had" "[I", Cond.methodLink RX9 196 yX9_isRebuilt, Cond.instanceMethod yX9_isRebuilt, Cond.selects RX9 yX9_isRebuilt yX9_isRebuilt, Cond.code yX9_isRebuilt cX9_isRebuilt 2 (some .boolean), Cond.fieldLink RX9 22 "SoundLawsModel" "kinds" "[I", Cond.methodLink RX9 199 yX9_rebuild, Cond.instanceMethod yX9_rebuild, Cond.selects RX9 yX9_rebuild yX9_rebuild, Cond.code yX9_rebuild cX9_rebuild 4 (some .int), Cond.fieldLink RX9 31 "SoundLawsModel" "costs" "[I", Cond.methodLink RX9 189 yX9_layCosts, Cond.instanceMethod yX9_layCosts, Cond.selects RX9 yX9_layCosts yX9_layCosts, Cond.code yX9_layCosts cX9_layCosts 4 none, Cond.methodLink RX9 180 yX9_belowFirst]
def wsX9_sound_r3 : List Cond := [Cond.static yX9_belowFirst, Cond.code yX9_belowFirst cX9_belowFirst 2 (some .int), Cond.methodLink RX9 183 yX9_least, Cond.instanceMethod yX9_least, Cond.selects RX9 yX9_least yX9_least, Cond.code yX9_least cX9_least 6 (some .int), Cond.methodLink RX9 173 yX9_costOf, Cond.static yX9_costOf, Cond.code yX9_costOf cX9_costOf 2 (some .int), Cond.methodLink RX9 168 yX9_isVowel, Cond.static yX9_isVowel, Cond.code yX9_isVowel cX9_isVowel 1 (some .boolean), Cond.constantLong RX9 166 (3), Cond.methodLink RX9 186 yX9_belowSecond, Cond.static yX9_belowSecond, Cond.code yX9_belowSecond cX9_belowSecond 2 (some .int), Cond.methodLink RX9 193 yX9_leastSound, Cond.instanceMethod yX9_leastSound, Cond.selects RX9 yX9_leastSound yX9_leastSound, Cond.code yX9_leastSound cX9_leastSound 7 (some .int), Cond.methodLink RX9 215 yX9_layLaw, Cond.instanceMethod yX9_layLaw, Cond.selects RX9 yX9_layLaw yX9_layLaw, Cond.code yX9_layLaw cX9_layLaw 8 none]
def wsX9_sound_r4 : List Cond := [Cond.fieldLink RX9 55 "SoundLawsModel" "tally" "[I", Cond.fieldLink RX9 46 "SoundLawsModel" "laws" "[I", Cond.fieldLink RX9 49 "SoundLawsModel" "follows" "[I", Cond.fieldLink RX9 52 "SoundLawsModel" "exceptions" "[I", Cond.methodLink RX9 208 yX9_layTally, Cond.instanceMethod yX9_layTally, Cond.selects RX9 yX9_layTally yX9_layTally, Cond.code yX9_layTally cX9_layTally 7 none, Cond.methodLink RX9 202 yX9_weightBy, Cond.static yX9_weightBy, Cond.code yX9_weightBy cX9_weightBy 1 (some .int), Cond.methodLink RX9 205 yX9_oldSound, Cond.instanceMethod yX9_oldSound, Cond.selects RX9 yX9_oldSound yX9_oldSound, Cond.code yX9_oldSound cX9_oldSound 3 (some .int)]
def wsX9_sound : List Cond := .code yX9_sound cX9_sound 4 (some .int) :: ((wsX9_sound_r1 ++ (wsX9_sound_r2 ++ (wsX9_sound_r3 ++ wsX9_sound_r4))) ++ wsX90)
def wsX9_isOnlyNone : List Cond := .code yX9_isOnlyNone cX9_isOnlyNone 5 (some .boolean) :: ([.fieldLink RX9 25 "SoundLawsModel" "longs" "[I", .fieldLink RX9 28 "SoundLawsModel" "words" "[I"] ++ wsX90)
def wsX9_put_r1 : List Cond := [Cond.constantLong RX9 171 (8), Cond.fieldLink RX9 28 "SoundLawsModel" "words" "[I", Cond.fieldLink RX9 153 "SoundLawsModel" "old" "Z", Cond.methodLink RX9 233 yX9_isPlace, Cond.instanceMethod yX9_isPlace, Cond.selects RX9 yX9_isPlace yX9_isPlace, Cond.initialized RX9, Cond.code yX9_isPlace cX9_isPlace 3 (some .boolean), Cond.fieldLink RX9 25 "SoundLawsModel" "longs" "[I", Cond.methodLink RX9 163 yX9_isSet, Cond.instanceMethod yX9_isSet, Cond.selects RX9 yX9_isSet yX9_isSet, Cond.code yX9_isSet cX9_isSet 2 (some .boolean), Cond.fieldLink RX9 147 "SoundLawsModel" "sets" "I", Cond.methodLink RX9 88 yX9_in, Cond.static yX9_in, Cond.code yX9_in cX9_in 6 (some .boolean), Cond.methodLink RX9 218 yX9_isTongue, Cond.instanceMethod yX9_isTongue, Cond.selects RX9 yX9_isTongue yX9_isTongue, Cond.code yX9_isTongue cX9_isTongue 2 (some .boolean), Cond.fieldLink RX9 150 "SoundLawsModel" "tongues" "I", Cond.methodLink RX9 261 yX9_isOnlyNone, Cond.instanceMethod yX9_isOnlyNone]
def wsX9_put_r2 : List Cond := [Cond.selects RX9 yX9_isOnlyNone yX9_isOnlyNone, Cond.code yX9_isOnlyNone cX9_isOnlyNone 5 (some .boolean)]
def wsX9_put : List Cond := .code yX9_put cX9_put 7 (some .int) :: ((wsX9_put_r1 ++ wsX9_put_r2) ++ wsX90)
def wsX9_layLike : List Cond := .code yX9_layLike cX9_layLike 4 none :: ([.fieldLink RX9 22 "SoundLawsModel" "kinds" "[I", .fieldLink RX9 25 "SoundLawsModel" "longs" "[I", .fieldLink RX9 28 "SoundLawsModel" "words" "[I"] ++ wsX90)
def wsX9_copy : List Cond := .code yX9_copy cX9_copy 2 (some .int) :: ([.fieldLink RX9 147 "SoundLawsModel" "sets" "I", .fieldLink RX9 153 "SoundLawsModel" "old" "Z", .methodLink RX9 163 yX9_isSet, .instanceMethod yX9_isSet, .selects RX9 yX9_isSet yX9_isSet, .initialized RX9, .code yX9_isSet cX9_isSet 2 (some .boolean), .methodLink RX9 88 yX9_in, .static yX9_in, .code yX9_in cX9_in 6 (some .boolean), .methodLink RX9 264 yX9_layLike, .instanceMethod yX9_layLike, .selects RX9 yX9_layLike yX9_layLike, .code yX9_layLike cX9_layLike 4 none, .fieldLink RX9 22 "SoundLawsModel" "kinds" "[I", .fieldLink RX9 25 "SoundLawsModel" "longs" "[I", .fieldLink RX9 28 "SoundLawsModel" "words" "[I"] ++ wsX90)
def wsX9_take : List Cond := .code yX9_take cX9_take 3 (some .int) :: ([.fieldLink RX9 147 "SoundLawsModel" "sets" "I", .fieldLink RX9 153 "SoundLawsModel" "old" "Z", .methodLink RX9 163 yX9_isSet, .instanceMethod yX9_isSet, .selects RX9 yX9_isSet yX9_isSet, .initialized RX9, .code yX9_isSet cX9_isSet 2 (some .boolean), .methodLink RX9 88 yX9_in, .static yX9_in, .code yX9_in cX9_in 6 (some .boolean), .methodLink RX9 264 yX9_layLike, .instanceMethod yX9_layLike, .selects RX9 yX9_layLike yX9_layLike, .code yX9_layLike cX9_layLike 4 none, .fieldLink RX9 22 "SoundLawsModel" "kinds" "[I", .fieldLink RX9 25 "SoundLawsModel" "longs" "[I", .fieldLink RX9 28 "SoundLawsModel" "words" "[I"] ++ wsX90)
def wsX9_change : List Cond := .code yX9_change cX9_change 4 (some .int) :: ([.constantLong RX9 259 (4), .fieldLink RX9 22 "SoundLawsModel" "kinds" "[I", .fieldLink RX9 153 "SoundLawsModel" "old" "Z", .methodLink RX9 163 yX9_isSet, .instanceMethod yX9_isSet, .selects RX9 yX9_isSet yX9_isSet, .initialized RX9, .code yX9_isSet cX9_isSet 2 (some .boolean), .fieldLink RX9 147 "SoundLawsModel" "sets" "I", .methodLink RX9 88 yX9_in, .static yX9_in, .code yX9_in cX9_in 6 (some .boolean)] ++ wsX90)
def wsX9_changesAll : List Cond := .code yX9_changesAll cX9_changesAll 3 (some .int) :: ([.fieldLink RX9 147 "SoundLawsModel" "sets" "I", .fieldLink RX9 43 "SoundLawsModel" "changes" "[I"] ++ wsX90)
def wsX9_swap_r1 : List Cond := [Cond.fieldLink RX9 147 "SoundLawsModel" "sets" "I", Cond.fieldLink RX9 28 "SoundLawsModel" "words" "[I", Cond.fieldLink RX9 153 "SoundLawsModel" "old" "Z", Cond.methodLink RX9 218 yX9_isTongue, Cond.instanceMethod yX9_isTongue, Cond.selects RX9 yX9_isTongue yX9_isTongue, Cond.initialized RX9, Cond.code yX9_isTongue cX9_isTongue 2 (some .boolean), Cond.fieldLink RX9 150 "SoundLawsModel" "tongues" "I", Cond.methodLink RX9 88 yX9_in, Cond.static yX9_in, Cond.code yX9_in cX9_in 6 (some .boolean), Cond.methodLink RX9 223 yX9_freshen, Cond.instanceMethod yX9_freshen, Cond.selects RX9 yX9_freshen yX9_freshen, Cond.code yX9_freshen cX9_freshen 2 none, Cond.methodLink RX9 212 yX9_laySets, Cond.instanceMethod yX9_laySets, Cond.selects RX9 yX9_laySets yX9_laySets, Cond.code yX9_laySets cX9_laySets 4 none, Cond.fieldLink RX9 43 "SoundLawsModel" "changes" "[I", Cond.fieldLink RX9 25 "SoundLawsModel" "longs" "[I", Cond.fieldLink RX9 37 "SoundLawsModel" "said" "[I", Cond.fieldLink RX9 40 "SoundLawsModel" "rebuilt" "[I"]
def wsX9_swap_r2 : List Cond := [Cond.fieldLink RX9 34 "SoundLawsModel" "had" "[I", Cond.methodLink RX9 196 yX9_isRebuilt, Cond.instanceMethod yX9_isRebuilt, Cond.selects RX9 yX9_isRebuilt yX9_isRebuilt, Cond.code yX9_isRebuilt cX9_isRebuilt 2 (some .boolean), Cond.fieldLink RX9 22 "SoundLawsModel" "kinds" "[I", Cond.methodLink RX9 199 yX9_rebuild, Cond.instanceMethod yX9_rebuild, Cond.selects RX9 yX9_rebuild yX9_rebuild, Cond.code yX9_rebuild cX9_rebuild 4 (some .int), Cond.fieldLink RX9 31 "SoundLawsModel" "costs" "[I", Cond.methodLink RX9 189 yX9_layCosts, Cond.instanceMethod yX9_layCosts, Cond.selects RX9 yX9_layCosts yX9_layCosts, Cond.code yX9_layCosts cX9_layCosts 4 none, Cond.methodLink RX9 177 yX9_nodesBy, Cond.instanceMethod yX9_nodesBy, Cond.selects RX9 yX9_nodesBy yX9_nodesBy, Cond.code yX9_nodesBy cX9_nodesBy 2 (some .int), Cond.methodLink RX9 180 yX9_belowFirst, Cond.static yX9_belowFirst, Cond.code yX9_belowFirst cX9_belowFirst 2 (some .int), Cond.methodLink RX9 183 yX9_least, Cond.instanceMethod yX9_least]
def wsX9_swap_r3 : List Cond := [Cond.selects RX9 yX9_least yX9_least, Cond.code yX9_least cX9_least 6 (some .int), Cond.methodLink RX9 173 yX9_costOf, Cond.static yX9_costOf, Cond.code yX9_costOf cX9_costOf 2 (some .int), Cond.methodLink RX9 168 yX9_isVowel, Cond.static yX9_isVowel, Cond.code yX9_isVowel cX9_isVowel 1 (some .boolean), Cond.constantLong RX9 166 (3), Cond.methodLink RX9 186 yX9_belowSecond, Cond.static yX9_belowSecond, Cond.code yX9_belowSecond cX9_belowSecond 2 (some .int), Cond.methodLink RX9 193 yX9_leastSound, Cond.instanceMethod yX9_leastSound, Cond.selects RX9 yX9_leastSound yX9_leastSound, Cond.code yX9_leastSound cX9_leastSound 7 (some .int), Cond.methodLink RX9 215 yX9_layLaw, Cond.instanceMethod yX9_layLaw, Cond.selects RX9 yX9_layLaw yX9_layLaw, Cond.code yX9_layLaw cX9_layLaw 8 none, Cond.fieldLink RX9 55 "SoundLawsModel" "tally" "[I", Cond.fieldLink RX9 46 "SoundLawsModel" "laws" "[I", Cond.fieldLink RX9 49 "SoundLawsModel" "follows" "[I", Cond.fieldLink RX9 52 "SoundLawsModel" "exceptions" "[I"]
def wsX9_swap_r4 : List Cond := [Cond.methodLink RX9 208 yX9_layTally, Cond.instanceMethod yX9_layTally, Cond.selects RX9 yX9_layTally yX9_layTally, Cond.code yX9_layTally cX9_layTally 7 none, Cond.methodLink RX9 202 yX9_weightBy, Cond.static yX9_weightBy, Cond.code yX9_weightBy cX9_weightBy 1 (some .int), Cond.methodLink RX9 205 yX9_oldSound, Cond.instanceMethod yX9_oldSound, Cond.selects RX9 yX9_oldSound yX9_oldSound, Cond.code yX9_oldSound cX9_oldSound 3 (some .int), Cond.methodLink RX9 268 yX9_changesAll, Cond.instanceMethod yX9_changesAll, Cond.selects RX9 yX9_changesAll yX9_changesAll, Cond.code yX9_changesAll cX9_changesAll 3 (some .int)]
def wsX9_swap : List Cond := .code yX9_swap cX9_swap 7 (some .int) :: ((wsX9_swap_r1 ++ (wsX9_swap_r2 ++ (wsX9_swap_r3 ++ wsX9_swap_r4))) ++ wsX90)
def wsX9_see : List Cond := .code yX9_see cX9_see 4 (some .int) :: ([.constantLong RX9 166 (3), .fieldLink RX9 157 "SoundLawsModel" "seenMany" "I", .fieldLink RX9 67 "SoundLawsModel" "sights" "[I", .methodLink RX9 163 yX9_isSet, .instanceMethod yX9_isSet, .selects RX9 yX9_isSet yX9_isSet, .initialized RX9, .code yX9_isSet cX9_isSet 2 (some .boolean), .fieldLink RX9 147 "SoundLawsModel" "sets" "I", .methodLink RX9 88 yX9_in, .static yX9_in, .code yX9_in cX9_in 6 (some .boolean)] ++ wsX90)
def wsX9_forget : List Cond := .code yX9_forget cX9_forget 2 (some .int) :: ([.fieldLink RX9 157 "SoundLawsModel" "seenMany" "I"] ++ wsX90)
def wsX9_draw : List Cond := .code yX9_draw cX9_draw 2 (some .int) :: ([.constantLong RX9 277 (1103515245), .fieldLink RX9 279 "SoundLawsModel" "seedNow" "I", .constantLong RX9 282 (12345), .constantLong RX9 284 (2147483647), .constant RX9 286 (65536)] ++ wsX90)
def wsX9_drawn_r1 : List Cond := [Cond.constantLong RX9 287 (40), Cond.constantLong RX9 221 (2), Cond.fieldLink RX9 279 "SoundLawsModel" "seedNow" "I", Cond.fieldLink RX9 37 "SoundLawsModel" "said" "[I", Cond.fieldLink RX9 34 "SoundLawsModel" "had" "[I", Cond.methodLink RX9 88 yX9_in, Cond.static yX9_in, Cond.initialized RX9, Cond.code yX9_in cX9_in 6 (some .boolean), Cond.methodLink RX9 289 yX9_draw, Cond.instanceMethod yX9_draw, Cond.selects RX9 yX9_draw yX9_draw, Cond.code yX9_draw cX9_draw 2 (some .int), Cond.constantLong RX9 277 (1103515245), Cond.constantLong RX9 282 (12345), Cond.constantLong RX9 284 (2147483647), Cond.constant RX9 286 (65536), Cond.methodLink RX9 199 yX9_rebuild, Cond.instanceMethod yX9_rebuild, Cond.selects RX9 yX9_rebuild yX9_rebuild, Cond.code yX9_rebuild cX9_rebuild 4 (some .int), Cond.fieldLink RX9 31 "SoundLawsModel" "costs" "[I", Cond.methodLink RX9 189 yX9_layCosts, Cond.instanceMethod yX9_layCosts]
def wsX9_drawn_r2 : List Cond := [Cond.selects RX9 yX9_layCosts yX9_layCosts, Cond.code yX9_layCosts cX9_layCosts 4 none, Cond.methodLink RX9 177 yX9_nodesBy, Cond.instanceMethod yX9_nodesBy, Cond.selects RX9 yX9_nodesBy yX9_nodesBy, Cond.code yX9_nodesBy cX9_nodesBy 2 (some .int), Cond.methodLink RX9 180 yX9_belowFirst, Cond.static yX9_belowFirst, Cond.code yX9_belowFirst cX9_belowFirst 2 (some .int), Cond.methodLink RX9 183 yX9_least, Cond.instanceMethod yX9_least, Cond.selects RX9 yX9_least yX9_least, Cond.code yX9_least cX9_least 6 (some .int), Cond.methodLink RX9 173 yX9_costOf, Cond.static yX9_costOf, Cond.code yX9_costOf cX9_costOf 2 (some .int), Cond.methodLink RX9 168 yX9_isVowel, Cond.static yX9_isVowel, Cond.code yX9_isVowel cX9_isVowel 1 (some .boolean), Cond.constantLong RX9 166 (3), Cond.methodLink RX9 186 yX9_belowSecond, Cond.static yX9_belowSecond, Cond.code yX9_belowSecond cX9_belowSecond 2 (some .int), Cond.methodLink RX9 193 yX9_leastSound]
end
section
def wsX9_drawn_r3 : List Cond := [Cond.instanceMethod yX9_leastSound, Cond.selects RX9 yX9_leastSound yX9_leastSound, Cond.code yX9_leastSound cX9_leastSound 7 (some .int)]
def wsX9_drawn : List Cond := .code yX9_drawn cX9_drawn 9 (some .int) :: ((wsX9_drawn_r1 ++ (wsX9_drawn_r2 ++ wsX9_drawn_r3)) ++ wsX90)
def wsX9_image : List Cond := .code yX9_image cX9_image 1 (some .int) :: ([.fieldLink RX9 22 "SoundLawsModel" "kinds" "[I", .fieldLink RX9 70 "SoundLawsModel" "keptKinds" "[I", .fieldLink RX9 25 "SoundLawsModel" "longs" "[I", .fieldLink RX9 73 "SoundLawsModel" "keptLongs" "[I", .fieldLink RX9 28 "SoundLawsModel" "words" "[I", .fieldLink RX9 76 "SoundLawsModel" "keptWords" "[I", .fieldLink RX9 67 "SoundLawsModel" "sights" "[I", .fieldLink RX9 79 "SoundLawsModel" "keptSights" "[I", .fieldLink RX9 147 "SoundLawsModel" "sets" "I", .fieldLink RX9 299 "SoundLawsModel" "keptMany" "I", .fieldLink RX9 150 "SoundLawsModel" "tongues" "I", .fieldLink RX9 302 "SoundLawsModel" "keptTongues" "I", .fieldLink RX9 157 "SoundLawsModel" "seenMany" "I", .fieldLink RX9 305 "SoundLawsModel" "keptSeen" "I", .fieldLink RX9 160 "SoundLawsModel" "setsRead" "I", .fieldLink RX9 82 "SoundLawsModel" "keptSets" "I", .methodLink RX9 292 yX9_lacks, .instanceMethod yX9_lacks, .selects RX9 yX9_lacks yX9_lacks, .initialized RX9, .code yX9_lacks cX9_lacks 1 (some .boolean), .methodLink RX9 295 yX9_copyRow, .static yX9_copyRow, .code yX9_copyRow cX9_copyRow 3 none] ++ wsX90)
def wsX9_restore : List Cond := .code yX9_restore cX9_restore 1 (some .int) :: ([.fieldLink RX9 82 "SoundLawsModel" "keptSets" "I", .fieldLink RX9 160 "SoundLawsModel" "setsRead" "I", .fieldLink RX9 70 "SoundLawsModel" "keptKinds" "[I", .fieldLink RX9 22 "SoundLawsModel" "kinds" "[I", .fieldLink RX9 73 "SoundLawsModel" "keptLongs" "[I", .fieldLink RX9 25 "SoundLawsModel" "longs" "[I", .fieldLink RX9 76 "SoundLawsModel" "keptWords" "[I", .fieldLink RX9 28 "SoundLawsModel" "words" "[I", .fieldLink RX9 79 "SoundLawsModel" "keptSights" "[I", .fieldLink RX9 67 "SoundLawsModel" "sights" "[I", .fieldLink RX9 299 "SoundLawsModel" "keptMany" "I", .fieldLink RX9 147 "SoundLawsModel" "sets" "I", .fieldLink RX9 302 "SoundLawsModel" "keptTongues" "I", .fieldLink RX9 150 "SoundLawsModel" "tongues" "I", .fieldLink RX9 305 "SoundLawsModel" "keptSeen" "I", .fieldLink RX9 157 "SoundLawsModel" "seenMany" "I", .fieldLink RX9 153 "SoundLawsModel" "old" "Z", .methodLink RX9 295 yX9_copyRow, .static yX9_copyRow, .initialized RX9, .code yX9_copyRow cX9_copyRow 3 none] ++ wsX90)
def wsX9_sumLaws : List Cond := .code yX9_sumLaws cX9_sumLaws 4 (some .int) :: ([.fieldLink RX9 150 "SoundLawsModel" "tongues" "I", .fieldLink RX9 46 "SoundLawsModel" "laws" "[I", .fieldLink RX9 52 "SoundLawsModel" "exceptions" "[I"] ++ wsX90)
def wsX9_borrowedAll_r1 : List Cond := [Cond.fieldLink RX9 147 "SoundLawsModel" "sets" "I", Cond.methodLink RX9 247 yX9_borrowed, Cond.instanceMethod yX9_borrowed, Cond.selects RX9 yX9_borrowed yX9_borrowed, Cond.initialized RX9, Cond.code yX9_borrowed cX9_borrowed 4 (some .int), Cond.fieldLink RX9 150 "SoundLawsModel" "tongues" "I", Cond.methodLink RX9 237 yX9_isBorrowed, Cond.instanceMethod yX9_isBorrowed, Cond.selects RX9 yX9_isBorrowed yX9_isBorrowed, Cond.code yX9_isBorrowed cX9_isBorrowed 4 (some .boolean), Cond.fieldLink RX9 25 "SoundLawsModel" "longs" "[I", Cond.methodLink RX9 230 yX9_strangeOf, Cond.instanceMethod yX9_strangeOf, Cond.selects RX9 yX9_strangeOf yX9_strangeOf, Cond.code yX9_strangeOf cX9_strangeOf 6 (some .int), Cond.fieldLink RX9 28 "SoundLawsModel" "words" "[I", Cond.methodLink RX9 196 yX9_isRebuilt, Cond.instanceMethod yX9_isRebuilt, Cond.selects RX9 yX9_isRebuilt yX9_isRebuilt, Cond.code yX9_isRebuilt cX9_isRebuilt 2 (some .boolean), Cond.fieldLink RX9 22 "SoundLawsModel" "kinds" "[I", Cond.methodLink RX9 226 yX9_lawAt, Cond.instanceMethod yX9_lawAt]
def wsX9_borrowedAll_r2 : List Cond := [Cond.selects RX9 yX9_lawAt yX9_lawAt, Cond.code yX9_lawAt cX9_lawAt 4 (some .int), Cond.fieldLink RX9 46 "SoundLawsModel" "laws" "[I", Cond.methodLink RX9 205 yX9_oldSound, Cond.instanceMethod yX9_oldSound, Cond.selects RX9 yX9_oldSound yX9_oldSound, Cond.code yX9_oldSound cX9_oldSound 3 (some .int), Cond.fieldLink RX9 40 "SoundLawsModel" "rebuilt" "[I", Cond.methodLink RX9 177 yX9_nodesBy, Cond.instanceMethod yX9_nodesBy, Cond.selects RX9 yX9_nodesBy yX9_nodesBy, Cond.code yX9_nodesBy cX9_nodesBy 2 (some .int), Cond.methodLink RX9 274 yX9_ones, Cond.static yX9_ones, Cond.code yX9_ones cX9_ones 3 (some .int)]
def wsX9_borrowedAll : List Cond := .code yX9_borrowedAll cX9_borrowedAll 3 (some .int) :: ((wsX9_borrowedAll_r1 ++ wsX9_borrowedAll_r2) ++ wsX90)
def wsX9_countSets_r1 : List Cond := [Cond.fieldLink RX9 150 "SoundLawsModel" "tongues" "I", Cond.methodLink RX9 292 yX9_lacks, Cond.instanceMethod yX9_lacks, Cond.selects RX9 yX9_lacks yX9_lacks, Cond.initialized RX9, Cond.code yX9_lacks cX9_lacks 1 (some .boolean), Cond.fieldLink RX9 147 "SoundLawsModel" "sets" "I", Cond.methodLink RX9 223 yX9_freshen, Cond.instanceMethod yX9_freshen, Cond.selects RX9 yX9_freshen yX9_freshen, Cond.code yX9_freshen cX9_freshen 2 none, Cond.fieldLink RX9 153 "SoundLawsModel" "old" "Z", Cond.methodLink RX9 212 yX9_laySets, Cond.instanceMethod yX9_laySets, Cond.selects RX9 yX9_laySets yX9_laySets, Cond.code yX9_laySets cX9_laySets 4 none, Cond.fieldLink RX9 43 "SoundLawsModel" "changes" "[I", Cond.fieldLink RX9 25 "SoundLawsModel" "longs" "[I", Cond.fieldLink RX9 37 "SoundLawsModel" "said" "[I", Cond.fieldLink RX9 28 "SoundLawsModel" "words" "[I", Cond.fieldLink RX9 40 "SoundLawsModel" "rebuilt" "[I", Cond.fieldLink RX9 34 "SoundLawsModel" "had" "[I", Cond.methodLink RX9 196 yX9_isRebuilt, Cond.instanceMethod yX9_isRebuilt]
def wsX9_countSets_r2 : List Cond := [Cond.selects RX9 yX9_isRebuilt yX9_isRebuilt, Cond.code yX9_isRebuilt cX9_isRebuilt 2 (some .boolean), Cond.fieldLink RX9 22 "SoundLawsModel" "kinds" "[I", Cond.methodLink RX9 199 yX9_rebuild, Cond.instanceMethod yX9_rebuild, Cond.selects RX9 yX9_rebuild yX9_rebuild, Cond.code yX9_rebuild cX9_rebuild 4 (some .int), Cond.fieldLink RX9 31 "SoundLawsModel" "costs" "[I", Cond.methodLink RX9 189 yX9_layCosts, Cond.instanceMethod yX9_layCosts, Cond.selects RX9 yX9_layCosts yX9_layCosts, Cond.code yX9_layCosts cX9_layCosts 4 none, Cond.methodLink RX9 177 yX9_nodesBy, Cond.instanceMethod yX9_nodesBy, Cond.selects RX9 yX9_nodesBy yX9_nodesBy, Cond.code yX9_nodesBy cX9_nodesBy 2 (some .int), Cond.methodLink RX9 180 yX9_belowFirst, Cond.static yX9_belowFirst, Cond.code yX9_belowFirst cX9_belowFirst 2 (some .int), Cond.methodLink RX9 183 yX9_least, Cond.instanceMethod yX9_least, Cond.selects RX9 yX9_least yX9_least, Cond.code yX9_least cX9_least 6 (some .int), Cond.methodLink RX9 173 yX9_costOf]
def wsX9_countSets_r3 : List Cond := [Cond.static yX9_costOf, Cond.code yX9_costOf cX9_costOf 2 (some .int), Cond.methodLink RX9 168 yX9_isVowel, Cond.static yX9_isVowel, Cond.code yX9_isVowel cX9_isVowel 1 (some .boolean), Cond.constantLong RX9 166 (3), Cond.methodLink RX9 88 yX9_in, Cond.static yX9_in, Cond.code yX9_in cX9_in 6 (some .boolean), Cond.methodLink RX9 186 yX9_belowSecond, Cond.static yX9_belowSecond, Cond.code yX9_belowSecond cX9_belowSecond 2 (some .int), Cond.methodLink RX9 193 yX9_leastSound, Cond.instanceMethod yX9_leastSound, Cond.selects RX9 yX9_leastSound yX9_leastSound, Cond.code yX9_leastSound cX9_leastSound 7 (some .int), Cond.methodLink RX9 215 yX9_layLaw, Cond.instanceMethod yX9_layLaw, Cond.selects RX9 yX9_layLaw yX9_layLaw, Cond.code yX9_layLaw cX9_layLaw 8 none, Cond.fieldLink RX9 55 "SoundLawsModel" "tally" "[I", Cond.fieldLink RX9 46 "SoundLawsModel" "laws" "[I", Cond.fieldLink RX9 49 "SoundLawsModel" "follows" "[I", Cond.fieldLink RX9 52 "SoundLawsModel" "exceptions" "[I"]
def wsX9_countSets_r4 : List Cond := [Cond.methodLink RX9 208 yX9_layTally, Cond.instanceMethod yX9_layTally, Cond.selects RX9 yX9_layTally yX9_layTally, Cond.code yX9_layTally cX9_layTally 7 none, Cond.methodLink RX9 202 yX9_weightBy, Cond.static yX9_weightBy, Cond.code yX9_weightBy cX9_weightBy 1 (some .int), Cond.methodLink RX9 205 yX9_oldSound, Cond.instanceMethod yX9_oldSound, Cond.selects RX9 yX9_oldSound yX9_oldSound, Cond.code yX9_oldSound cX9_oldSound 3 (some .int), Cond.methodLink RX9 268 yX9_changesAll, Cond.instanceMethod yX9_changesAll, Cond.selects RX9 yX9_changesAll yX9_changesAll, Cond.code yX9_changesAll cX9_changesAll 3 (some .int), Cond.methodLink RX9 308 yX9_sumLaws, Cond.instanceMethod yX9_sumLaws, Cond.selects RX9 yX9_sumLaws yX9_sumLaws, Cond.code yX9_sumLaws cX9_sumLaws 4 (some .int), Cond.methodLink RX9 312 yX9_borrowedAll, Cond.instanceMethod yX9_borrowedAll, Cond.selects RX9 yX9_borrowedAll yX9_borrowedAll, Cond.code yX9_borrowedAll cX9_borrowedAll 3 (some .int), Cond.methodLink RX9 247 yX9_borrowed]
def wsX9_countSets_r5 : List Cond := [Cond.instanceMethod yX9_borrowed, Cond.selects RX9 yX9_borrowed yX9_borrowed, Cond.code yX9_borrowed cX9_borrowed 4 (some .int), Cond.methodLink RX9 237 yX9_isBorrowed, Cond.instanceMethod yX9_isBorrowed, Cond.selects RX9 yX9_isBorrowed yX9_isBorrowed, Cond.code yX9_isBorrowed cX9_isBorrowed 4 (some .boolean), Cond.methodLink RX9 230 yX9_strangeOf, Cond.instanceMethod yX9_strangeOf, Cond.selects RX9 yX9_strangeOf yX9_strangeOf, Cond.code yX9_strangeOf cX9_strangeOf 6 (some .int), Cond.methodLink RX9 226 yX9_lawAt, Cond.instanceMethod yX9_lawAt, Cond.selects RX9 yX9_lawAt yX9_lawAt, Cond.code yX9_lawAt cX9_lawAt 4 (some .int), Cond.methodLink RX9 274 yX9_ones, Cond.static yX9_ones, Cond.code yX9_ones cX9_ones 3 (some .int)]
def wsX9_countSets : List Cond := .code yX9_countSets cX9_countSets 2 (some .int) :: ((wsX9_countSets_r1 ++ (wsX9_countSets_r2 ++ (wsX9_countSets_r3 ++ (wsX9_countSets_r4 ++ wsX9_countSets_r5)))) ++ wsX90)
def wsX9_countOf_r1 : List Cond := [Cond.fieldLink RX9 147 "SoundLawsModel" "sets" "I", Cond.fieldLink RX9 157 "SoundLawsModel" "seenMany" "I", Cond.fieldLink RX9 92 "SoundLawsModel" "pageMany" "I", Cond.fieldLink RX9 160 "SoundLawsModel" "setsRead" "I", Cond.methodLink RX9 315 yX9_countSets, Cond.instanceMethod yX9_countSets, Cond.selects RX9 yX9_countSets yX9_countSets, Cond.initialized RX9, Cond.code yX9_countSets cX9_countSets 2 (some .int), Cond.fieldLink RX9 150 "SoundLawsModel" "tongues" "I", Cond.methodLink RX9 292 yX9_lacks, Cond.instanceMethod yX9_lacks, Cond.selects RX9 yX9_lacks yX9_lacks, Cond.code yX9_lacks cX9_lacks 1 (some .boolean), Cond.methodLink RX9 223 yX9_freshen, Cond.instanceMethod yX9_freshen, Cond.selects RX9 yX9_freshen yX9_freshen, Cond.code yX9_freshen cX9_freshen 2 none, Cond.fieldLink RX9 153 "SoundLawsModel" "old" "Z", Cond.methodLink RX9 212 yX9_laySets, Cond.instanceMethod yX9_laySets, Cond.selects RX9 yX9_laySets yX9_laySets, Cond.code yX9_laySets cX9_laySets 4 none, Cond.fieldLink RX9 43 "SoundLawsModel" "changes" "[I"]
def wsX9_countOf_r2 : List Cond := [Cond.fieldLink RX9 25 "SoundLawsModel" "longs" "[I", Cond.fieldLink RX9 37 "SoundLawsModel" "said" "[I", Cond.fieldLink RX9 28 "SoundLawsModel" "words" "[I", Cond.fieldLink RX9 40 "SoundLawsModel" "rebuilt" "[I", Cond.fieldLink RX9 34 "SoundLawsModel" "had" "[I", Cond.methodLink RX9 196 yX9_isRebuilt, Cond.instanceMethod yX9_isRebuilt, Cond.selects RX9 yX9_isRebuilt yX9_isRebuilt, Cond.code yX9_isRebuilt cX9_isRebuilt 2 (some .boolean), Cond.fieldLink RX9 22 "SoundLawsModel" "kinds" "[I", Cond.methodLink RX9 199 yX9_rebuild, Cond.instanceMethod yX9_rebuild, Cond.selects RX9 yX9_rebuild yX9_rebuild, Cond.code yX9_rebuild cX9_rebuild 4 (some .int), Cond.fieldLink RX9 31 "SoundLawsModel" "costs" "[I", Cond.methodLink RX9 189 yX9_layCosts, Cond.instanceMethod yX9_layCosts, Cond.selects RX9 yX9_layCosts yX9_layCosts, Cond.code yX9_layCosts cX9_layCosts 4 none, Cond.methodLink RX9 177 yX9_nodesBy, Cond.instanceMethod yX9_nodesBy, Cond.selects RX9 yX9_nodesBy yX9_nodesBy, Cond.code yX9_nodesBy cX9_nodesBy 2 (some .int), Cond.methodLink RX9 180 yX9_belowFirst]
def wsX9_countOf_r3 : List Cond := [Cond.static yX9_belowFirst, Cond.code yX9_belowFirst cX9_belowFirst 2 (some .int), Cond.methodLink RX9 183 yX9_least, Cond.instanceMethod yX9_least, Cond.selects RX9 yX9_least yX9_least, Cond.code yX9_least cX9_least 6 (some .int), Cond.methodLink RX9 173 yX9_costOf, Cond.static yX9_costOf, Cond.code yX9_costOf cX9_costOf 2 (some .int), Cond.methodLink RX9 168 yX9_isVowel, Cond.static yX9_isVowel, Cond.code yX9_isVowel cX9_isVowel 1 (some .boolean), Cond.constantLong RX9 166 (3), Cond.methodLink RX9 88 yX9_in, Cond.static yX9_in, Cond.code yX9_in cX9_in 6 (some .boolean), Cond.methodLink RX9 186 yX9_belowSecond, Cond.static yX9_belowSecond, Cond.code yX9_belowSecond cX9_belowSecond 2 (some .int), Cond.methodLink RX9 193 yX9_leastSound, Cond.instanceMethod yX9_leastSound, Cond.selects RX9 yX9_leastSound yX9_leastSound, Cond.code yX9_leastSound cX9_leastSound 7 (some .int), Cond.methodLink RX9 215 yX9_layLaw]
def wsX9_countOf_r4 : List Cond := [Cond.instanceMethod yX9_layLaw, Cond.selects RX9 yX9_layLaw yX9_layLaw, Cond.code yX9_layLaw cX9_layLaw 8 none, Cond.fieldLink RX9 55 "SoundLawsModel" "tally" "[I", Cond.fieldLink RX9 46 "SoundLawsModel" "laws" "[I", Cond.fieldLink RX9 49 "SoundLawsModel" "follows" "[I", Cond.fieldLink RX9 52 "SoundLawsModel" "exceptions" "[I", Cond.methodLink RX9 208 yX9_layTally, Cond.instanceMethod yX9_layTally, Cond.selects RX9 yX9_layTally yX9_layTally, Cond.code yX9_layTally cX9_layTally 7 none, Cond.methodLink RX9 202 yX9_weightBy, Cond.static yX9_weightBy, Cond.code yX9_weightBy cX9_weightBy 1 (some .int), Cond.methodLink RX9 205 yX9_oldSound, Cond.instanceMethod yX9_oldSound, Cond.selects RX9 yX9_oldSound yX9_oldSound, Cond.code yX9_oldSound cX9_oldSound 3 (some .int), Cond.methodLink RX9 268 yX9_changesAll, Cond.instanceMethod yX9_changesAll, Cond.selects RX9 yX9_changesAll yX9_changesAll, Cond.code yX9_changesAll cX9_changesAll 3 (some .int), Cond.methodLink RX9 308 yX9_sumLaws, Cond.instanceMethod yX9_sumLaws]
def wsX9_countOf_r5 : List Cond := [Cond.selects RX9 yX9_sumLaws yX9_sumLaws, Cond.code yX9_sumLaws cX9_sumLaws 4 (some .int), Cond.methodLink RX9 312 yX9_borrowedAll, Cond.instanceMethod yX9_borrowedAll, Cond.selects RX9 yX9_borrowedAll yX9_borrowedAll, Cond.code yX9_borrowedAll cX9_borrowedAll 3 (some .int), Cond.methodLink RX9 247 yX9_borrowed, Cond.instanceMethod yX9_borrowed, Cond.selects RX9 yX9_borrowed yX9_borrowed, Cond.code yX9_borrowed cX9_borrowed 4 (some .int), Cond.methodLink RX9 237 yX9_isBorrowed, Cond.instanceMethod yX9_isBorrowed, Cond.selects RX9 yX9_isBorrowed yX9_isBorrowed, Cond.code yX9_isBorrowed cX9_isBorrowed 4 (some .boolean), Cond.methodLink RX9 230 yX9_strangeOf, Cond.instanceMethod yX9_strangeOf, Cond.selects RX9 yX9_strangeOf yX9_strangeOf, Cond.code yX9_strangeOf cX9_strangeOf 6 (some .int), Cond.methodLink RX9 226 yX9_lawAt, Cond.instanceMethod yX9_lawAt, Cond.selects RX9 yX9_lawAt yX9_lawAt, Cond.code yX9_lawAt cX9_lawAt 4 (some .int), Cond.methodLink RX9 274 yX9_ones, Cond.static yX9_ones]
def wsX9_countOf_r6 : List Cond := [Cond.code yX9_ones cX9_ones 3 (some .int)]
def wsX9_countOf : List Cond := .code yX9_countOf cX9_countOf 2 (some .int) :: ((wsX9_countOf_r1 ++ (wsX9_countOf_r2 ++ (wsX9_countOf_r3 ++ (wsX9_countOf_r4 ++ (wsX9_countOf_r5 ++ wsX9_countOf_r6))))) ++ wsX90)
def wsX9_count_r1 : List Cond := [Cond.methodLink RX9 318 yX9_countOf, Cond.instanceMethod yX9_countOf, Cond.selects RX9 yX9_countOf yX9_countOf, Cond.initialized RX9, Cond.code yX9_countOf cX9_countOf 2 (some .int), Cond.fieldLink RX9 147 "SoundLawsModel" "sets" "I", Cond.fieldLink RX9 157 "SoundLawsModel" "seenMany" "I", Cond.fieldLink RX9 92 "SoundLawsModel" "pageMany" "I", Cond.fieldLink RX9 160 "SoundLawsModel" "setsRead" "I", Cond.methodLink RX9 315 yX9_countSets, Cond.instanceMethod yX9_countSets, Cond.selects RX9 yX9_countSets yX9_countSets, Cond.code yX9_countSets cX9_countSets 2 (some .int), Cond.fieldLink RX9 150 "SoundLawsModel" "tongues" "I", Cond.methodLink RX9 292 yX9_lacks, Cond.instanceMethod yX9_lacks, Cond.selects RX9 yX9_lacks yX9_lacks, Cond.code yX9_lacks cX9_lacks 1 (some .boolean), Cond.methodLink RX9 223 yX9_freshen, Cond.instanceMethod yX9_freshen, Cond.selects RX9 yX9_freshen yX9_freshen, Cond.code yX9_freshen cX9_freshen 2 none, Cond.fieldLink RX9 153 "SoundLawsModel" "old" "Z", Cond.methodLink RX9 212 yX9_laySets]
def wsX9_count_r2 : List Cond := [Cond.instanceMethod yX9_laySets, Cond.selects RX9 yX9_laySets yX9_laySets, Cond.code yX9_laySets cX9_laySets 4 none, Cond.fieldLink RX9 43 "SoundLawsModel" "changes" "[I", Cond.fieldLink RX9 25 "SoundLawsModel" "longs" "[I", Cond.fieldLink RX9 37 "SoundLawsModel" "said" "[I", Cond.fieldLink RX9 28 "SoundLawsModel" "words" "[I", Cond.fieldLink RX9 40 "SoundLawsModel" "rebuilt" "[I", Cond.fieldLink RX9 34 "SoundLawsModel" "had" "[I", Cond.methodLink RX9 196 yX9_isRebuilt, Cond.instanceMethod yX9_isRebuilt, Cond.selects RX9 yX9_isRebuilt yX9_isRebuilt, Cond.code yX9_isRebuilt cX9_isRebuilt 2 (some .boolean), Cond.fieldLink RX9 22 "SoundLawsModel" "kinds" "[I", Cond.methodLink RX9 199 yX9_rebuild, Cond.instanceMethod yX9_rebuild, Cond.selects RX9 yX9_rebuild yX9_rebuild, Cond.code yX9_rebuild cX9_rebuild 4 (some .int), Cond.fieldLink RX9 31 "SoundLawsModel" "costs" "[I", Cond.methodLink RX9 189 yX9_layCosts, Cond.instanceMethod yX9_layCosts, Cond.selects RX9 yX9_layCosts yX9_layCosts, Cond.code yX9_layCosts cX9_layCosts 4 none, Cond.methodLink RX9 177 yX9_nodesBy]
def wsX9_count_r3 : List Cond := [Cond.instanceMethod yX9_nodesBy, Cond.selects RX9 yX9_nodesBy yX9_nodesBy, Cond.code yX9_nodesBy cX9_nodesBy 2 (some .int), Cond.methodLink RX9 180 yX9_belowFirst, Cond.static yX9_belowFirst, Cond.code yX9_belowFirst cX9_belowFirst 2 (some .int), Cond.methodLink RX9 183 yX9_least, Cond.instanceMethod yX9_least, Cond.selects RX9 yX9_least yX9_least, Cond.code yX9_least cX9_least 6 (some .int), Cond.methodLink RX9 173 yX9_costOf, Cond.static yX9_costOf, Cond.code yX9_costOf cX9_costOf 2 (some .int), Cond.methodLink RX9 168 yX9_isVowel, Cond.static yX9_isVowel, Cond.code yX9_isVowel cX9_isVowel 1 (some .boolean), Cond.constantLong RX9 166 (3), Cond.methodLink RX9 88 yX9_in, Cond.static yX9_in, Cond.code yX9_in cX9_in 6 (some .boolean), Cond.methodLink RX9 186 yX9_belowSecond, Cond.static yX9_belowSecond, Cond.code yX9_belowSecond cX9_belowSecond 2 (some .int), Cond.methodLink RX9 193 yX9_leastSound]
def wsX9_count_r4 : List Cond := [Cond.instanceMethod yX9_leastSound, Cond.selects RX9 yX9_leastSound yX9_leastSound, Cond.code yX9_leastSound cX9_leastSound 7 (some .int), Cond.methodLink RX9 215 yX9_layLaw, Cond.instanceMethod yX9_layLaw, Cond.selects RX9 yX9_layLaw yX9_layLaw, Cond.code yX9_layLaw cX9_layLaw 8 none, Cond.fieldLink RX9 55 "SoundLawsModel" "tally" "[I", Cond.fieldLink RX9 46 "SoundLawsModel" "laws" "[I", Cond.fieldLink RX9 49 "SoundLawsModel" "follows" "[I", Cond.fieldLink RX9 52 "SoundLawsModel" "exceptions" "[I", Cond.methodLink RX9 208 yX9_layTally, Cond.instanceMethod yX9_layTally, Cond.selects RX9 yX9_layTally yX9_layTally, Cond.code yX9_layTally cX9_layTally 7 none, Cond.methodLink RX9 202 yX9_weightBy, Cond.static yX9_weightBy, Cond.code yX9_weightBy cX9_weightBy 1 (some .int), Cond.methodLink RX9 205 yX9_oldSound, Cond.instanceMethod yX9_oldSound, Cond.selects RX9 yX9_oldSound yX9_oldSound, Cond.code yX9_oldSound cX9_oldSound 3 (some .int), Cond.methodLink RX9 268 yX9_changesAll, Cond.instanceMethod yX9_changesAll]
def wsX9_count_r5 : List Cond := [Cond.selects RX9 yX9_changesAll yX9_changesAll, Cond.code yX9_changesAll cX9_changesAll 3 (some .int), Cond.methodLink RX9 308 yX9_sumLaws, Cond.instanceMethod yX9_sumLaws, Cond.selects RX9 yX9_sumLaws yX9_sumLaws, Cond.code yX9_sumLaws cX9_sumLaws 4 (some .int), Cond.methodLink RX9 312 yX9_borrowedAll, Cond.instanceMethod yX9_borrowedAll, Cond.selects RX9 yX9_borrowedAll yX9_borrowedAll, Cond.code yX9_borrowedAll cX9_borrowedAll 3 (some .int), Cond.methodLink RX9 247 yX9_borrowed, Cond.instanceMethod yX9_borrowed, Cond.selects RX9 yX9_borrowed yX9_borrowed, Cond.code yX9_borrowed cX9_borrowed 4 (some .int), Cond.methodLink RX9 237 yX9_isBorrowed, Cond.instanceMethod yX9_isBorrowed, Cond.selects RX9 yX9_isBorrowed yX9_isBorrowed, Cond.code yX9_isBorrowed cX9_isBorrowed 4 (some .boolean), Cond.methodLink RX9 230 yX9_strangeOf, Cond.instanceMethod yX9_strangeOf, Cond.selects RX9 yX9_strangeOf yX9_strangeOf, Cond.code yX9_strangeOf cX9_strangeOf 6 (some .int), Cond.methodLink RX9 226 yX9_lawAt, Cond.instanceMethod yX9_lawAt]
def wsX9_count_r6 : List Cond := [Cond.selects RX9 yX9_lawAt yX9_lawAt, Cond.code yX9_lawAt cX9_lawAt 4 (some .int), Cond.methodLink RX9 274 yX9_ones, Cond.static yX9_ones, Cond.code yX9_ones cX9_ones 3 (some .int)]
def wsX9_count : List Cond := .code yX9_count cX9_count 2 (some .int) :: ((wsX9_count_r1 ++ (wsX9_count_r2 ++ (wsX9_count_r3 ++ (wsX9_count_r4 ++ (wsX9_count_r5 ++ wsX9_count_r6))))) ++ wsX90)
def wsX9_note : List Cond := .code yX9_note cX9_note 3 none :: ([.constantLong RX9 321 (31), .fieldLink RX9 323 "SoundLawsModel" "hash" "J"] ++ wsX90)
def wsX9_saySet_r1 : List Cond := [Cond.fieldLink RX9 25 "SoundLawsModel" "longs" "[I", Cond.fieldLink RX9 150 "SoundLawsModel" "tongues" "I", Cond.fieldLink RX9 40 "SoundLawsModel" "rebuilt" "[I", Cond.methodLink RX9 256 yX9_tellSet, Cond.instanceMethod yX9_tellSet, Cond.selects RX9 yX9_tellSet yX9_tellSet, Cond.initialized RX9, Cond.code yX9_tellSet cX9_tellSet 3 (some .int), Cond.fieldLink RX9 22 "SoundLawsModel" "kinds" "[I", Cond.fieldLink RX9 43 "SoundLawsModel" "changes" "[I", Cond.methodLink RX9 223 yX9_freshen, Cond.instanceMethod yX9_freshen, Cond.selects RX9 yX9_freshen yX9_freshen, Cond.code yX9_freshen cX9_freshen 2 none, Cond.fieldLink RX9 153 "SoundLawsModel" "old" "Z", Cond.methodLink RX9 212 yX9_laySets, Cond.instanceMethod yX9_laySets, Cond.selects RX9 yX9_laySets yX9_laySets, Cond.code yX9_laySets cX9_laySets 4 none, Cond.fieldLink RX9 147 "SoundLawsModel" "sets" "I", Cond.fieldLink RX9 37 "SoundLawsModel" "said" "[I", Cond.fieldLink RX9 28 "SoundLawsModel" "words" "[I", Cond.fieldLink RX9 34 "SoundLawsModel" "had" "[I", Cond.methodLink RX9 196 yX9_isRebuilt]
def wsX9_saySet_r2 : List Cond := [Cond.instanceMethod yX9_isRebuilt, Cond.selects RX9 yX9_isRebuilt yX9_isRebuilt, Cond.code yX9_isRebuilt cX9_isRebuilt 2 (some .boolean), Cond.methodLink RX9 199 yX9_rebuild, Cond.instanceMethod yX9_rebuild, Cond.selects RX9 yX9_rebuild yX9_rebuild, Cond.code yX9_rebuild cX9_rebuild 4 (some .int), Cond.fieldLink RX9 31 "SoundLawsModel" "costs" "[I", Cond.methodLink RX9 189 yX9_layCosts, Cond.instanceMethod yX9_layCosts, Cond.selects RX9 yX9_layCosts yX9_layCosts, Cond.code yX9_layCosts cX9_layCosts 4 none, Cond.methodLink RX9 177 yX9_nodesBy, Cond.instanceMethod yX9_nodesBy, Cond.selects RX9 yX9_nodesBy yX9_nodesBy, Cond.code yX9_nodesBy cX9_nodesBy 2 (some .int), Cond.methodLink RX9 180 yX9_belowFirst, Cond.static yX9_belowFirst, Cond.code yX9_belowFirst cX9_belowFirst 2 (some .int), Cond.methodLink RX9 183 yX9_least, Cond.instanceMethod yX9_least, Cond.selects RX9 yX9_least yX9_least, Cond.code yX9_least cX9_least 6 (some .int), Cond.methodLink RX9 173 yX9_costOf]
def wsX9_saySet_r3 : List Cond := [Cond.static yX9_costOf, Cond.code yX9_costOf cX9_costOf 2 (some .int), Cond.methodLink RX9 168 yX9_isVowel, Cond.static yX9_isVowel, Cond.code yX9_isVowel cX9_isVowel 1 (some .boolean), Cond.constantLong RX9 166 (3), Cond.methodLink RX9 88 yX9_in, Cond.static yX9_in, Cond.code yX9_in cX9_in 6 (some .boolean), Cond.methodLink RX9 186 yX9_belowSecond, Cond.static yX9_belowSecond, Cond.code yX9_belowSecond cX9_belowSecond 2 (some .int), Cond.methodLink RX9 193 yX9_leastSound, Cond.instanceMethod yX9_leastSound, Cond.selects RX9 yX9_leastSound yX9_leastSound, Cond.code yX9_leastSound cX9_leastSound 7 (some .int), Cond.methodLink RX9 215 yX9_layLaw, Cond.instanceMethod yX9_layLaw, Cond.selects RX9 yX9_layLaw yX9_layLaw, Cond.code yX9_layLaw cX9_layLaw 8 none, Cond.fieldLink RX9 55 "SoundLawsModel" "tally" "[I", Cond.fieldLink RX9 46 "SoundLawsModel" "laws" "[I", Cond.fieldLink RX9 49 "SoundLawsModel" "follows" "[I", Cond.fieldLink RX9 52 "SoundLawsModel" "exceptions" "[I"]
def wsX9_saySet_r4 : List Cond := [Cond.methodLink RX9 208 yX9_layTally, Cond.instanceMethod yX9_layTally, Cond.selects RX9 yX9_layTally yX9_layTally, Cond.code yX9_layTally cX9_layTally 7 none, Cond.methodLink RX9 202 yX9_weightBy, Cond.static yX9_weightBy, Cond.code yX9_weightBy cX9_weightBy 1 (some .int), Cond.methodLink RX9 205 yX9_oldSound, Cond.instanceMethod yX9_oldSound, Cond.selects RX9 yX9_oldSound yX9_oldSound, Cond.code yX9_oldSound cX9_oldSound 3 (some .int), Cond.methodLink RX9 244 yX9_strangeAll, Cond.instanceMethod yX9_strangeAll, Cond.selects RX9 yX9_strangeAll yX9_strangeAll, Cond.code yX9_strangeAll cX9_strangeAll 4 (some .int), Cond.methodLink RX9 230 yX9_strangeOf, Cond.instanceMethod yX9_strangeOf, Cond.selects RX9 yX9_strangeOf yX9_strangeOf, Cond.code yX9_strangeOf cX9_strangeOf 6 (some .int), Cond.methodLink RX9 226 yX9_lawAt, Cond.instanceMethod yX9_lawAt, Cond.selects RX9 yX9_lawAt yX9_lawAt, Cond.code yX9_lawAt cX9_lawAt 4 (some .int), Cond.methodLink RX9 247 yX9_borrowed]
def wsX9_saySet_r5 : List Cond := [Cond.instanceMethod yX9_borrowed, Cond.selects RX9 yX9_borrowed yX9_borrowed, Cond.code yX9_borrowed cX9_borrowed 4 (some .int), Cond.methodLink RX9 237 yX9_isBorrowed, Cond.instanceMethod yX9_isBorrowed, Cond.selects RX9 yX9_isBorrowed yX9_isBorrowed, Cond.code yX9_isBorrowed cX9_isBorrowed 4 (some .boolean), Cond.methodLink RX9 250 yX9_sortsOf, Cond.instanceMethod yX9_sortsOf, Cond.selects RX9 yX9_sortsOf yX9_sortsOf, Cond.code yX9_sortsOf cX9_sortsOf 5 (some .int), Cond.fieldLink RX9 157 "SoundLawsModel" "seenMany" "I", Cond.fieldLink RX9 67 "SoundLawsModel" "sights" "[I", Cond.methodLink RX9 271 yX9_sortsBy, Cond.static yX9_sortsBy, Cond.code yX9_sortsBy cX9_sortsBy 1 (some .int), Cond.methodLink RX9 253 yX9_askOf, Cond.instanceMethod yX9_askOf, Cond.selects RX9 yX9_askOf yX9_askOf, Cond.code yX9_askOf cX9_askOf 9 (some .int), Cond.methodLink RX9 274 yX9_ones, Cond.static yX9_ones, Cond.code yX9_ones cX9_ones 3 (some .int), Cond.methodLink RX9 327 yX9_note]
def wsX9_saySet_r6 : List Cond := [Cond.instanceMethod yX9_note, Cond.selects RX9 yX9_note yX9_note, Cond.code yX9_note cX9_note 3 none, Cond.constantLong RX9 321 (31), Cond.fieldLink RX9 323 "SoundLawsModel" "hash" "J"]
def wsX9_saySet : List Cond := .code yX9_saySet cX9_saySet 4 none :: ((wsX9_saySet_r1 ++ (wsX9_saySet_r2 ++ (wsX9_saySet_r3 ++ (wsX9_saySet_r4 ++ (wsX9_saySet_r5 ++ wsX9_saySet_r6))))) ++ wsX90)
def wsX9_digest_r1 : List Cond := [Cond.constantLong RX9 331 (1459), Cond.fieldLink RX9 323 "SoundLawsModel" "hash" "J", Cond.fieldLink RX9 147 "SoundLawsModel" "sets" "I", Cond.fieldLink RX9 150 "SoundLawsModel" "tongues" "I", Cond.fieldLink RX9 46 "SoundLawsModel" "laws" "[I", Cond.fieldLink RX9 49 "SoundLawsModel" "follows" "[I", Cond.fieldLink RX9 52 "SoundLawsModel" "exceptions" "[I", Cond.fieldLink RX9 92 "SoundLawsModel" "pageMany" "I", Cond.fieldLink RX9 7 "SoundLawsModel" "page" "[I", Cond.methodLink RX9 333 yX9_saySet, Cond.instanceMethod yX9_saySet, Cond.selects RX9 yX9_saySet yX9_saySet, Cond.initialized RX9, Cond.code yX9_saySet cX9_saySet 4 none, Cond.fieldLink RX9 25 "SoundLawsModel" "longs" "[I", Cond.fieldLink RX9 40 "SoundLawsModel" "rebuilt" "[I", Cond.methodLink RX9 256 yX9_tellSet, Cond.instanceMethod yX9_tellSet, Cond.selects RX9 yX9_tellSet yX9_tellSet, Cond.code yX9_tellSet cX9_tellSet 3 (some .int), Cond.fieldLink RX9 22 "SoundLawsModel" "kinds" "[I", Cond.fieldLink RX9 43 "SoundLawsModel" "changes" "[I", Cond.methodLink RX9 223 yX9_freshen, Cond.instanceMethod yX9_freshen]
def wsX9_digest_r2 : List Cond := [Cond.selects RX9 yX9_freshen yX9_freshen, Cond.code yX9_freshen cX9_freshen 2 none, Cond.fieldLink RX9 153 "SoundLawsModel" "old" "Z", Cond.methodLink RX9 212 yX9_laySets, Cond.instanceMethod yX9_laySets, Cond.selects RX9 yX9_laySets yX9_laySets, Cond.code yX9_laySets cX9_laySets 4 none, Cond.fieldLink RX9 37 "SoundLawsModel" "said" "[I", Cond.fieldLink RX9 28 "SoundLawsModel" "words" "[I", Cond.fieldLink RX9 34 "SoundLawsModel" "had" "[I", Cond.methodLink RX9 196 yX9_isRebuilt, Cond.instanceMethod yX9_isRebuilt, Cond.selects RX9 yX9_isRebuilt yX9_isRebuilt, Cond.code yX9_isRebuilt cX9_isRebuilt 2 (some .boolean), Cond.methodLink RX9 199 yX9_rebuild, Cond.instanceMethod yX9_rebuild, Cond.selects RX9 yX9_rebuild yX9_rebuild, Cond.code yX9_rebuild cX9_rebuild 4 (some .int), Cond.fieldLink RX9 31 "SoundLawsModel" "costs" "[I", Cond.methodLink RX9 189 yX9_layCosts, Cond.instanceMethod yX9_layCosts, Cond.selects RX9 yX9_layCosts yX9_layCosts, Cond.code yX9_layCosts cX9_layCosts 4 none, Cond.methodLink RX9 177 yX9_nodesBy]
def wsX9_digest_r3 : List Cond := [Cond.instanceMethod yX9_nodesBy, Cond.selects RX9 yX9_nodesBy yX9_nodesBy, Cond.code yX9_nodesBy cX9_nodesBy 2 (some .int), Cond.methodLink RX9 180 yX9_belowFirst, Cond.static yX9_belowFirst, Cond.code yX9_belowFirst cX9_belowFirst 2 (some .int), Cond.methodLink RX9 183 yX9_least, Cond.instanceMethod yX9_least, Cond.selects RX9 yX9_least yX9_least, Cond.code yX9_least cX9_least 6 (some .int), Cond.methodLink RX9 173 yX9_costOf, Cond.static yX9_costOf, Cond.code yX9_costOf cX9_costOf 2 (some .int), Cond.methodLink RX9 168 yX9_isVowel, Cond.static yX9_isVowel, Cond.code yX9_isVowel cX9_isVowel 1 (some .boolean), Cond.constantLong RX9 166 (3), Cond.methodLink RX9 88 yX9_in, Cond.static yX9_in, Cond.code yX9_in cX9_in 6 (some .boolean), Cond.methodLink RX9 186 yX9_belowSecond, Cond.static yX9_belowSecond, Cond.code yX9_belowSecond cX9_belowSecond 2 (some .int), Cond.methodLink RX9 193 yX9_leastSound]
def wsX9_digest_r4 : List Cond := [Cond.instanceMethod yX9_leastSound, Cond.selects RX9 yX9_leastSound yX9_leastSound, Cond.code yX9_leastSound cX9_leastSound 7 (some .int), Cond.methodLink RX9 215 yX9_layLaw, Cond.instanceMethod yX9_layLaw, Cond.selects RX9 yX9_layLaw yX9_layLaw, Cond.code yX9_layLaw cX9_layLaw 8 none, Cond.fieldLink RX9 55 "SoundLawsModel" "tally" "[I", Cond.methodLink RX9 208 yX9_layTally, Cond.instanceMethod yX9_layTally, Cond.selects RX9 yX9_layTally yX9_layTally, Cond.code yX9_layTally cX9_layTally 7 none, Cond.methodLink RX9 202 yX9_weightBy, Cond.static yX9_weightBy, Cond.code yX9_weightBy cX9_weightBy 1 (some .int), Cond.methodLink RX9 205 yX9_oldSound, Cond.instanceMethod yX9_oldSound, Cond.selects RX9 yX9_oldSound yX9_oldSound, Cond.code yX9_oldSound cX9_oldSound 3 (some .int), Cond.methodLink RX9 244 yX9_strangeAll, Cond.instanceMethod yX9_strangeAll, Cond.selects RX9 yX9_strangeAll yX9_strangeAll, Cond.code yX9_strangeAll cX9_strangeAll 4 (some .int), Cond.methodLink RX9 230 yX9_strangeOf]
def wsX9_digest_r5 : List Cond := [Cond.instanceMethod yX9_strangeOf, Cond.selects RX9 yX9_strangeOf yX9_strangeOf, Cond.code yX9_strangeOf cX9_strangeOf 6 (some .int), Cond.methodLink RX9 226 yX9_lawAt, Cond.instanceMethod yX9_lawAt, Cond.selects RX9 yX9_lawAt yX9_lawAt, Cond.code yX9_lawAt cX9_lawAt 4 (some .int), Cond.methodLink RX9 247 yX9_borrowed, Cond.instanceMethod yX9_borrowed, Cond.selects RX9 yX9_borrowed yX9_borrowed, Cond.code yX9_borrowed cX9_borrowed 4 (some .int), Cond.methodLink RX9 237 yX9_isBorrowed, Cond.instanceMethod yX9_isBorrowed, Cond.selects RX9 yX9_isBorrowed yX9_isBorrowed, Cond.code yX9_isBorrowed cX9_isBorrowed 4 (some .boolean), Cond.methodLink RX9 250 yX9_sortsOf, Cond.instanceMethod yX9_sortsOf, Cond.selects RX9 yX9_sortsOf yX9_sortsOf, Cond.code yX9_sortsOf cX9_sortsOf 5 (some .int), Cond.fieldLink RX9 157 "SoundLawsModel" "seenMany" "I", Cond.fieldLink RX9 67 "SoundLawsModel" "sights" "[I", Cond.methodLink RX9 271 yX9_sortsBy, Cond.static yX9_sortsBy, Cond.code yX9_sortsBy cX9_sortsBy 1 (some .int)]
def wsX9_digest_r6 : List Cond := [Cond.methodLink RX9 253 yX9_askOf, Cond.instanceMethod yX9_askOf, Cond.selects RX9 yX9_askOf yX9_askOf, Cond.code yX9_askOf cX9_askOf 9 (some .int), Cond.methodLink RX9 274 yX9_ones, Cond.static yX9_ones, Cond.code yX9_ones cX9_ones 3 (some .int), Cond.methodLink RX9 327 yX9_note, Cond.instanceMethod yX9_note, Cond.selects RX9 yX9_note yX9_note, Cond.code yX9_note cX9_note 3 none, Cond.constantLong RX9 321 (31), Cond.methodLink RX9 318 yX9_countOf, Cond.instanceMethod yX9_countOf, Cond.selects RX9 yX9_countOf yX9_countOf, Cond.code yX9_countOf cX9_countOf 2 (some .int), Cond.fieldLink RX9 160 "SoundLawsModel" "setsRead" "I", Cond.methodLink RX9 315 yX9_countSets, Cond.instanceMethod yX9_countSets, Cond.selects RX9 yX9_countSets yX9_countSets, Cond.code yX9_countSets cX9_countSets 2 (some .int), Cond.methodLink RX9 292 yX9_lacks, Cond.instanceMethod yX9_lacks, Cond.selects RX9 yX9_lacks yX9_lacks]
def wsX9_digest_r7 : List Cond := [Cond.code yX9_lacks cX9_lacks 1 (some .boolean), Cond.methodLink RX9 268 yX9_changesAll, Cond.instanceMethod yX9_changesAll, Cond.selects RX9 yX9_changesAll yX9_changesAll, Cond.code yX9_changesAll cX9_changesAll 3 (some .int), Cond.methodLink RX9 308 yX9_sumLaws, Cond.instanceMethod yX9_sumLaws, Cond.selects RX9 yX9_sumLaws yX9_sumLaws, Cond.code yX9_sumLaws cX9_sumLaws 4 (some .int), Cond.methodLink RX9 312 yX9_borrowedAll, Cond.instanceMethod yX9_borrowedAll, Cond.selects RX9 yX9_borrowedAll yX9_borrowedAll, Cond.code yX9_borrowedAll cX9_borrowedAll 3 (some .int)]
def wsX9_digest : List Cond := .code yX9_digest cX9_digest 2 (some .long) :: ((wsX9_digest_r1 ++ (wsX9_digest_r2 ++ (wsX9_digest_r3 ++ (wsX9_digest_r4 ++ (wsX9_digest_r5 ++ (wsX9_digest_r6 ++ wsX9_digest_r7)))))) ++ wsX90)
def wsJ9_max_7cf53 : List Cond := .code yJ9_max_7cf53 cJ9_max_7cf53 2 (some .int) :: ([])
def wsJ9_min_7cf53 : List Cond := .code yJ9_min_7cf53 cJ9_min_7cf53 2 (some .int) :: ([])
def wsL_law_r1 : List Cond := [Cond.classLink RL 7 RX8, Cond.instantiable RX8 13, Cond.initialized RX8, Cond.classLink RL 10 RX9, Cond.instantiable RX9 41, Cond.initialized RX9, Cond.methodLink RL 9 yX8_init, Cond.instanceMethod yX8_init, Cond.code yX8_init cX8_init 1 none, Cond.methodLink RX8 1 objectInit, Cond.instanceMethod objectInit, Cond.code objectInit ⟨#[0xb1]⟩ 1 none, Cond.arrayClass .int, Cond.fieldLink RX8 9 "SoundLaws" "page" "[I", Cond.classLink RX8 13 RX3, Cond.instantiable RX3 7, Cond.initialized RX3, Cond.fieldLink RX8 16 "SoundLaws" "reader" "LSoundLaws$Reader;", Cond.classLink RX8 20 RX5, Cond.instantiable RX5 5, Cond.initialized RX5, Cond.fieldLink RX8 23 "SoundLaws" "stock" "LSoundLaws$Stock;", Cond.classLink RX8 27 RX4, Cond.instantiable RX4 4]
def wsL_law_r2 : List Cond := [Cond.initialized RX4, Cond.fieldLink RX8 30 "SoundLaws" "sightings" "LSoundLaws$Sightings;", Cond.classLink RX8 34 RX6, Cond.instantiable RX6 6, Cond.initialized RX6, Cond.fieldLink RX8 37 "SoundLaws" "study" "LSoundLaws$Study;", Cond.fieldLink RX8 41 "SoundLaws" "keptStock" "LSoundLaws$Stock;", Cond.fieldLink RX8 44 "SoundLaws" "keptSightings" "LSoundLaws$Sightings;", Cond.classLink RX8 47 RX0, Cond.instantiable RX0 5, Cond.initialized RX0, Cond.fieldLink RX8 50 "SoundLaws" "aligner" "LSoundLaws$Aligner;", Cond.classLink RX8 54 RX1, Cond.instantiable RX1 4, Cond.initialized RX1, Cond.fieldLink RX8 57 "SoundLaws" "draws" "LSoundLaws$Draws;", Cond.instanceMethod yX3_init, Cond.code yX3_init cX3_init 1 none, Cond.methodLink RX3 3 objectInit, Cond.classLink RX3 9 RX5, Cond.fieldLink RX3 12 "SoundLaws$Reader" "draft" "LSoundLaws$Stock;", Cond.instanceMethod yX5_init, Cond.code yX5_init cX5_init 1 none, Cond.methodLink RX5 3 objectInit]
def wsL_law_r3 : List Cond := [Cond.fieldLink RX5 9 "SoundLaws$Stock" "kinds" "[I", Cond.fieldLink RX5 15 "SoundLaws$Stock" "lengths" "[I", Cond.fieldLink RX5 18 "SoundLaws$Stock" "words" "[I", Cond.instanceMethod yX4_init, Cond.code yX4_init cX4_init 1 none, Cond.methodLink RX4 3 objectInit, Cond.fieldLink RX4 9 "SoundLaws$Sightings" "sets" "[I", Cond.fieldLink RX4 15 "SoundLaws$Sightings" "questions" "[I", Cond.arrayClass .boolean, Cond.fieldLink RX4 18 "SoundLaws$Sightings" "answers" "[Z", Cond.instanceMethod yX6_init, Cond.code yX6_init cX6_init 1 none, Cond.methodLink RX6 3 objectInit, Cond.fieldLink RX6 9 "SoundLaws$Study" "sounds" "[I", Cond.fieldLink RX6 15 "SoundLaws$Study" "changes" "[I", Cond.fieldLink RX6 18 "SoundLaws$Study" "strangePlaces" "[I", Cond.classLink RX6 21 RX2, Cond.instantiable RX2 6, Cond.initialized RX2, Cond.fieldLink RX6 24 "SoundLaws$Study" "laws" "LSoundLaws$Laws;", Cond.classLink RX6 28 RX7, Cond.instantiable RX7 3, Cond.initialized RX7, Cond.fieldLink RX6 31 "SoundLaws$Study" "tree" "LSoundLaws$Tree;"]
def wsL_law_r4 : List Cond := [Cond.instanceMethod yX2_init, Cond.code yX2_init cX2_init 1 none, Cond.methodLink RX2 3 objectInit, Cond.fieldLink RX2 9 "SoundLaws$Laws" "becomes" "[I", Cond.fieldLink RX2 15 "SoundLaws$Laws" "follows" "[I", Cond.fieldLink RX2 18 "SoundLaws$Laws" "exceptions" "[I", Cond.fieldLink RX2 21 "SoundLaws$Laws" "weights" "[I", Cond.instanceMethod yX7_init, Cond.code yX7_init cX7_init 1 none, Cond.methodLink RX7 3 objectInit, Cond.fieldLink RX7 9 "SoundLaws$Tree" "sounds" "[I", Cond.fieldLink RX7 15 "SoundLaws$Tree" "least" "[I", Cond.instanceMethod yX0_init, Cond.code yX0_init cX0_init 1 none, Cond.methodLink RX0 3 objectInit, Cond.fieldLink RX0 9 "SoundLaws$Aligner" "first" "[I", Cond.fieldLink RX0 15 "SoundLaws$Aligner" "second" "[I", Cond.fieldLink RX0 18 "SoundLaws$Aligner" "row" "[I", Cond.instanceMethod yX1_init, Cond.code yX1_init cX1_init 1 none, Cond.methodLink RX1 3 objectInit, Cond.classLink RX1 9 RX7, Cond.fieldLink RX1 12 "SoundLaws$Draws" "tree" "LSoundLaws$Tree;", Cond.methodLink RL 12 yX9_init]
def wsL_law_r5 : List Cond := [Cond.instanceMethod yX9_init, Cond.code yX9_init cX9_init 1 none, Cond.methodLink RX9 1 objectInit, Cond.fieldLink RX9 7 "SoundLawsModel" "page" "[I", Cond.fieldLink RX9 13 "SoundLawsModel" "readKinds" "[I", Cond.fieldLink RX9 16 "SoundLawsModel" "readLongs" "[I", Cond.fieldLink RX9 19 "SoundLawsModel" "readSounds" "[I", Cond.fieldLink RX9 22 "SoundLawsModel" "kinds" "[I", Cond.fieldLink RX9 25 "SoundLawsModel" "longs" "[I", Cond.fieldLink RX9 28 "SoundLawsModel" "words" "[I", Cond.fieldLink RX9 31 "SoundLawsModel" "costs" "[I", Cond.fieldLink RX9 34 "SoundLawsModel" "had" "[I", Cond.fieldLink RX9 37 "SoundLawsModel" "said" "[I", Cond.fieldLink RX9 40 "SoundLawsModel" "rebuilt" "[I", Cond.fieldLink RX9 43 "SoundLawsModel" "changes" "[I", Cond.fieldLink RX9 46 "SoundLawsModel" "laws" "[I", Cond.fieldLink RX9 49 "SoundLawsModel" "follows" "[I", Cond.fieldLink RX9 52 "SoundLawsModel" "exceptions" "[I", Cond.fieldLink RX9 55 "SoundLawsModel" "tally" "[I", Cond.fieldLink RX9 58 "SoundLawsModel" "one" "[I", Cond.fieldLink RX9 61 "SoundLawsModel" "other" "[I", Cond.fieldLink RX9 64 "SoundLawsModel" "lines" "[I", Cond.fieldLink RX9 67 "SoundLawsModel" "sights" "[I", Cond.fieldLink RX9 70 "SoundLawsModel" "keptKinds" "[I"]
def wsL_law_r6 : List Cond := [Cond.fieldLink RX9 73 "SoundLawsModel" "keptLongs" "[I", Cond.fieldLink RX9 76 "SoundLawsModel" "keptWords" "[I", Cond.fieldLink RX9 79 "SoundLawsModel" "keptSights" "[I", Cond.fieldLink RX9 82 "SoundLawsModel" "keptSets" "I", Cond.methodLink RL 13 yX8_letter, Cond.instanceMethod yX8_letter, Cond.selects RX8 yX8_letter yX8_letter, Cond.code yX8_letter cX8_letter 2 (some .int), Cond.fieldLink RX8 61 "SoundLaws" "letters" "I", Cond.methodLink RL 17 yX9_letter, Cond.instanceMethod yX9_letter, Cond.selects RX9 yX9_letter yX9_letter, Cond.code yX9_letter cX9_letter 2 (some .int), Cond.constantLong RX9 86 (126), Cond.fieldLink RX9 92 "SoundLawsModel" "pageMany" "I", Cond.methodLink RX9 88 yX9_in, Cond.static yX9_in, Cond.code yX9_in cX9_in 6 (some .boolean), Cond.methodLink RL 18 yX8_blank, Cond.instanceMethod yX8_blank, Cond.selects RX8 yX8_blank yX8_blank, Cond.code yX8_blank cX8_blank 2 (some .int), Cond.methodLink RL 22 yX9_blank, Cond.instanceMethod yX9_blank]
def wsL_law_r7 : List Cond := [Cond.selects RX9 yX9_blank yX9_blank, Cond.code yX9_blank cX9_blank 2 (some .int), Cond.methodLink RL 23 yX8_fault, Cond.instanceMethod yX8_fault, Cond.selects RX8 yX8_fault yX8_fault, Cond.code yX8_fault cX8_fault 1 (some .int), Cond.methodLink RX8 65 yX8_readPage, Cond.instanceMethod yX8_readPage, Cond.selects RX8 yX8_readPage yX8_readPage, Cond.code yX8_readPage cX8_readPage 2 (some .int), Cond.methodLink RX8 248 yX3_start, Cond.instanceMethod yX3_start, Cond.selects RX3 yX3_start yX3_start, Cond.code yX3_start cX3_start 1 none, Cond.fieldLink RX3 18 "SoundLaws$Stock" "size" "I", Cond.fieldLink RX3 22 "SoundLaws$Stock" "tongues" "I", Cond.fieldLink RX3 25 "SoundLaws$Reader" "kindIsDue" "Z", Cond.fieldLink RX3 29 "SoundLaws$Reader" "hasSilentWord" "Z", Cond.methodLink RX8 251 yX3_accepts, Cond.instanceMethod yX3_accepts, Cond.selects RX3 yX3_accepts yX3_accepts, Cond.code yX3_accepts cX3_accepts 2 (some .boolean), Cond.methodLink RX3 34 yJ0_indexOf_0f7a4, Cond.instanceMethod yJ0_indexOf_0f7a4]
def wsL_law_r8 : List Cond := [Cond.selects RJ0 yJ0_indexOf_0f7a4 yJ0_indexOf_0f7a4, Cond.initialized RJ0, Cond.code yJ0_indexOf_0f7a4 cJ0_indexOf_0f7a4 2 (some .int), Cond.methodLink RJ0 633 yJ0_indexOf_7cf53, Cond.instanceMethod yJ0_indexOf_7cf53, Cond.selects RJ0 yJ0_indexOf_7cf53 yJ0_indexOf_7cf53, Cond.code yJ0_indexOf_7cf53 cJ0_indexOf_7cf53 3 (some .int), Cond.fieldLink RJ0 9 "java/lang/String" "value" "[B", Cond.methodLink RJ0 492 yJ0_isLatin1_aae02, Cond.instanceMethod yJ0_isLatin1_aae02, Cond.selects RJ0 yJ0_isLatin1_aae02 yJ0_isLatin1_aae02, Cond.code yJ0_isLatin1_aae02 cJ0_isLatin1_aae02 1 (some .boolean), Cond.fieldLink RJ0 38 "java/lang/String" "COMPACT_STRINGS" "Z", Cond.fieldLink RJ0 15 "java/lang/String" "coder" "B", Cond.methodLink RJ0 505 yJ0_length_8abf5, Cond.instanceMethod yJ0_length_8abf5, Cond.selects RJ0 yJ0_length_8abf5 yJ0_length_8abf5, Cond.code yJ0_length_8abf5 cJ0_length_8abf5 1 (some .int), Cond.methodLink RJ0 335 yJ0_coder_7d493, Cond.instanceMethod yJ0_coder_7d493, Cond.selects RJ0 yJ0_coder_7d493 yJ0_coder_7d493, Cond.code yJ0_coder_7d493 cJ0_coder_7d493 1 (some .byte), Cond.methodLink RJ0 637 yJ1_indexOf_4cfef, Cond.static yJ1_indexOf_4cfef]
def wsL_law_r9 : List Cond := [Cond.initialized RJ1, Cond.code yJ1_indexOf_4cfef cJ1_indexOf_4cfef 4 (some .int), Cond.methodLink RJ1 92 Lib.Math.max.name, Cond.static Lib.Math.max.name, Cond.initialized "java/lang/Math", Cond.code Lib.Math.max.name Lib.Math.max.code 2 (some .int), Cond.methodLink RJ1 38 Lib.Math.min.name, Cond.static Lib.Math.min.name, Cond.code Lib.Math.min.name Lib.Math.min.code 2 (some .int), Cond.methodLink RJ1 88 yJ1_canEncode_9a6ad, Cond.static yJ1_canEncode_9a6ad, Cond.code yJ1_canEncode_9a6ad cJ1_canEncode_9a6ad 1 (some .boolean), Cond.methodLink RJ1 95 yJ1_indexOfChar_4cfef, Cond.static yJ1_indexOfChar_4cfef, Cond.code yJ1_indexOfChar_4cfef cJ1_indexOfChar_4cfef 6 (some .int), Cond.methodLink RJ0 640 yJ2_indexOf_4cfef, Cond.static yJ2_indexOf_4cfef, Cond.initialized RJ2, Cond.code yJ2_indexOf_4cfef cJ2_indexOf_4cfef 4 (some .int), Cond.methodLink RJ2 224 Lib.Math.max.name, Cond.methodLink RJ2 183 Lib.Math.min.name, Cond.constant RJ2 227 (65536), Cond.methodLink RJ2 228 yJ2_indexOfChar_4cfef, Cond.static yJ2_indexOfChar_4cfef]
def wsL_law_r10 : List Cond := [Cond.code yJ2_indexOfChar_4cfef cJ2_indexOfChar_4cfef 4 (some .int), Cond.methodLink RJ2 96 yJ2_checkBoundsBeginEnd_d044e, Cond.static yJ2_checkBoundsBeginEnd_d044e, Cond.code yJ2_checkBoundsBeginEnd_d044e cJ2_checkBoundsBeginEnd_d044e 3 none, Cond.methodLink RJ2 48 yJ2_length_9d52b, Cond.static yJ2_length_9d52b, Cond.code yJ2_length_9d52b cJ2_length_9d52b 1 (some .int), Cond.methodLink RJ2 241 yJ0_checkBoundsBeginEnd_23922, Cond.static yJ0_checkBoundsBeginEnd_23922, Cond.code yJ0_checkBoundsBeginEnd_23922 cJ0_checkBoundsBeginEnd_23922 3 none, Cond.fieldLink RJ0 1053 "jdk/internal/util/Preconditions" "SIOOBE_FORMATTER" "Ljava/util/function/BiFunction;", Cond.methodLink RJ0 1062 yJ3_checkFromToIndex_8c36e, Cond.static yJ3_checkFromToIndex_8c36e, Cond.initialized RJ3, Cond.code yJ3_checkFromToIndex_8c36e cJ3_checkFromToIndex_8c36e 4 (some .int), Cond.methodLink RJ2 244 yJ2_indexOfCharUnsafe_4cfef, Cond.static yJ2_indexOfCharUnsafe_4cfef, Cond.code yJ2_indexOfCharUnsafe_4cfef cJ2_indexOfCharUnsafe_4cfef 5 (some .int), Cond.methodLink RJ2 71 yJ2_getChar_3b067, Cond.static yJ2_getChar_3b067, Cond.code yJ2_getChar_3b067 cJ2_getChar_3b067 2 (some .char), Cond.fieldLink RJ2 44 "java/lang/StringUTF16" "$assertionsDisabled" "Z", Cond.fieldLink RJ2 59 "java/lang/StringUTF16" "HI_BYTE_SHIFT" "I", Cond.fieldLink RJ2 63 "java/lang/StringUTF16" "LO_BYTE_SHIFT" "I"]
def wsL_law_r11 : List Cond := [Cond.methodLink RJ2 232 yJ2_indexOfSupplementary_4cfef, Cond.static yJ2_indexOfSupplementary_4cfef, Cond.code yJ2_indexOfSupplementary_4cfef cJ2_indexOfSupplementary_4cfef 7 (some .int), Cond.methodLink RJ2 164 yJ11_isValidCodePoint_9a6ad, Cond.static yJ11_isValidCodePoint_9a6ad, Cond.initialized RJ11, Cond.code yJ11_isValidCodePoint_9a6ad cJ11_isValidCodePoint_9a6ad 2 (some .boolean), Cond.methodLink RJ2 157 yJ11_highSurrogate_5068e, Cond.static yJ11_highSurrogate_5068e, Cond.code yJ11_highSurrogate_5068e cJ11_highSurrogate_5068e 1 (some .char), Cond.constant RJ11 110 (55232), Cond.methodLink RJ2 161 yJ11_lowSurrogate_5068e, Cond.static yJ11_lowSurrogate_5068e, Cond.code yJ11_lowSurrogate_5068e cJ11_lowSurrogate_5068e 1 (some .char), Cond.constant RJ11 76 (56320), Cond.methodLink RX3 40 yX3_acceptsKind, Cond.instanceMethod yX3_acceptsKind, Cond.selects RX3 yX3_acceptsKind yX3_acceptsKind, Cond.code yX3_acceptsKind cX3_acceptsKind 2 (some .boolean), Cond.fieldLink RX3 65 "SoundLaws$Reader" "set" "I", Cond.fieldLink RX3 68 "SoundLaws$Stock" "kinds" "[I", Cond.fieldLink RX3 62 "SoundLaws$Reader" "tongue" "I", Cond.methodLink RX3 72 yX3_openWord, Cond.instanceMethod yX3_openWord]
def wsL_law_r12 : List Cond := [Cond.selects RX3 yX3_openWord yX3_openWord, Cond.code yX3_openWord cX3_openWord 1 none, Cond.fieldLink RX3 78 "SoundLaws$Reader" "place" "I", Cond.fieldLink RX3 88 "SoundLaws$Reader" "wordIsSilent" "Z", Cond.methodLink RX3 44 yX3_endsWord, Cond.instanceMethod yX3_endsWord, Cond.selects RX3 yX3_endsWord yX3_endsWord, Cond.code yX3_endsWord cX3_endsWord 2 (some .boolean), Cond.methodLink RX3 91 yX3_wordIsWhole, Cond.instanceMethod yX3_wordIsWhole, Cond.selects RX3 yX3_wordIsWhole yX3_wordIsWhole, Cond.code yX3_wordIsWhole cX3_wordIsWhole 1 (some .boolean), Cond.fieldLink RX3 75 "SoundLaws$Stock" "lengths" "[I", Cond.methodLink RX3 59 yX3_closeWord, Cond.instanceMethod yX3_closeWord, Cond.selects RX3 yX3_closeWord yX3_closeWord, Cond.code yX3_closeWord cX3_closeWord 1 none, Cond.methodLink RX3 48 yX3_endsSet, Cond.instanceMethod yX3_endsSet, Cond.selects RX3 yX3_endsSet yX3_endsSet, Cond.code yX3_endsSet cX3_endsSet 1 (some .boolean), Cond.methodLink RX3 56 yX3_setIsWhole, Cond.instanceMethod yX3_setIsWhole, Cond.selects RX3 yX3_setIsWhole yX3_setIsWhole]
def wsL_law_r13 : List Cond := [Cond.code yX3_setIsWhole cX3_setIsWhole 2 (some .boolean), Cond.methodLink RX3 53 yX3_acceptsSound, Cond.instanceMethod yX3_acceptsSound, Cond.selects RX3 yX3_acceptsSound yX3_acceptsSound, Cond.code yX3_acceptsSound cX3_acceptsSound 3 (some .boolean), Cond.fieldLink RX3 81 "SoundLaws$Stock" "words" "[I", Cond.static yX8_wordAt, Cond.code yX8_wordAt cX8_wordAt 2 (some .int), Cond.methodLink RL 26 yX9_fault, Cond.instanceMethod yX9_fault, Cond.selects RX9 yX9_fault yX9_fault, Cond.code yX9_fault cX9_fault 1 (some .int), Cond.methodLink RX9 140 yX9_faultOf, Cond.instanceMethod yX9_faultOf, Cond.selects RX9 yX9_faultOf yX9_faultOf, Cond.code yX9_faultOf cX9_faultOf 2 (some .int), Cond.fieldLink RX9 115 "SoundLawsModel" "readSets" "I", Cond.fieldLink RX9 98 "SoundLawsModel" "readWords" "I", Cond.fieldLink RX9 108 "SoundLawsModel" "readTongues" "I", Cond.methodLink RX9 137 yX9_isGood, Cond.instanceMethod yX9_isGood, Cond.selects RX9 yX9_isGood yX9_isGood, Cond.code yX9_isGood cX9_isGood 2 (some .boolean), Cond.methodLink RX9 124 yX9_isBegun]
def wsL_law_r14 : List Cond := [Cond.instanceMethod yX9_isBegun, Cond.selects RX9 yX9_isBegun yX9_isBegun, Cond.code yX9_isBegun cX9_isBegun 2 (some .boolean), Cond.fieldLink RX9 95 "SoundLawsModel" "readHere" "I", Cond.fieldLink RX9 101 "SoundLawsModel" "readLong" "I", Cond.methodLink RX9 111 yX9_kindBy, Cond.static yX9_kindBy, Cond.code yX9_kindBy cX9_kindBy 1 (some .int), Cond.methodLink RX9 128 yX9_isSlash, Cond.instanceMethod yX9_isSlash, Cond.selects RX9 yX9_isSlash yX9_isSlash, Cond.code yX9_isSlash cX9_isSlash 2 (some .boolean), Cond.methodLink RX9 104 yX9_isWordWhole, Cond.instanceMethod yX9_isWordWhole, Cond.selects RX9 yX9_isWordWhole yX9_isWordWhole, Cond.code yX9_isWordWhole cX9_isWordWhole 1 (some .boolean), Cond.methodLink RX9 131 yX9_isComma, Cond.instanceMethod yX9_isComma, Cond.selects RX9 yX9_isComma yX9_isComma, Cond.code yX9_isComma cX9_isComma 2 (some .boolean), Cond.methodLink RX9 118 yX9_isSetWhole, Cond.instanceMethod yX9_isSetWhole, Cond.selects RX9 yX9_isSetWhole yX9_isSetWhole, Cond.code yX9_isSetWhole cX9_isSetWhole 1 (some .boolean)]
def wsL_law_r15 : List Cond := [Cond.methodLink RX9 134 yX9_isSound, Cond.instanceMethod yX9_isSound, Cond.selects RX9 yX9_isSound yX9_isSound, Cond.code yX9_isSound cX9_isSound 2 (some .boolean), Cond.methodLink RX9 121 yX9_soundBy, Cond.static yX9_soundBy, Cond.code yX9_soundBy cX9_soundBy 1 (some .int), Cond.methodLink RL 27 yX8_sets, Cond.instanceMethod yX8_sets, Cond.selects RX8 yX8_sets yX8_sets, Cond.code yX8_sets cX8_sets 1 (some .int), Cond.fieldLink RX8 73 "SoundLaws$Reader" "draft" "LSoundLaws$Stock;", Cond.fieldLink RX8 83 "SoundLaws" "kept" "Z", Cond.fieldLink RX8 87 "SoundLaws" "studied" "Z", Cond.fieldLink RX8 90 "SoundLaws" "readings" "I", Cond.fieldLink RX8 93 "SoundLaws$Stock" "size" "I", Cond.methodLink RX8 69 yX3_finish, Cond.instanceMethod yX3_finish, Cond.selects RX3 yX3_finish yX3_finish, Cond.code yX3_finish cX3_finish 1 (some .boolean), Cond.methodLink RX8 76 yX5_become, Cond.instanceMethod yX5_become, Cond.selects RX5 yX5_become yX5_become, Cond.code yX5_become cX5_become 2 none]
def wsL_law_r16 : List Cond := [Cond.fieldLink RX5 21 "SoundLaws$Stock" "size" "I", Cond.fieldLink RX5 25 "SoundLaws$Stock" "tongues" "I", Cond.methodLink RX5 28 arraycopyName, Cond.native arraycopyName, Cond.static arraycopyName, Cond.initialized "java/lang/System", Cond.methodLink RX8 80 yX4_clear, Cond.instanceMethod yX4_clear, Cond.selects RX4 yX4_clear yX4_clear, Cond.code yX4_clear cX4_clear 1 none, Cond.fieldLink RX4 22 "SoundLaws$Sightings" "size" "I", Cond.methodLink RL 30 yX9_sets, Cond.instanceMethod yX9_sets, Cond.selects RX9 yX9_sets yX9_sets, Cond.code yX9_sets cX9_sets 2 (some .int), Cond.fieldLink RX9 147 "SoundLawsModel" "sets" "I", Cond.fieldLink RX9 150 "SoundLawsModel" "tongues" "I", Cond.fieldLink RX9 153 "SoundLawsModel" "old" "Z", Cond.fieldLink RX9 157 "SoundLawsModel" "seenMany" "I", Cond.fieldLink RX9 160 "SoundLawsModel" "setsRead" "I", Cond.methodLink RX9 144 yX9_isMute, Cond.instanceMethod yX9_isMute, Cond.selects RX9 yX9_isMute yX9_isMute, Cond.code yX9_isMute cX9_isMute 6 (some .boolean)]
def wsL_law_r17 : List Cond := [Cond.methodLink RL 31 yX8_set, Cond.instanceMethod yX8_set, Cond.selects RX8 yX8_set yX8_set, Cond.code yX8_set cX8_set 3 (some .int), Cond.methodLink RX8 96 yX8_isSet, Cond.instanceMethod yX8_isSet, Cond.selects RX8 yX8_isSet yX8_isSet, Cond.code yX8_isSet cX8_isSet 2 (some .boolean), Cond.methodLink RX8 100 yX8_freshenStudy, Cond.instanceMethod yX8_freshenStudy, Cond.selects RX8 yX8_freshenStudy yX8_freshenStudy, Cond.code yX8_freshenStudy cX8_freshenStudy 1 none, Cond.methodLink RX8 254 yX6_renew, Cond.instanceMethod yX6_renew, Cond.selects RX6 yX6_renew yX6_renew, Cond.code yX6_renew cX6_renew 3 none, Cond.fieldLink RX6 35 "SoundLaws$Stock" "tongues" "I", Cond.fieldLink RX6 45 "SoundLaws$Study" "changesOfAll" "I", Cond.fieldLink RX6 48 "SoundLaws$Stock" "size" "I", Cond.methodLink RX6 41 yX7_plant, Cond.instanceMethod yX7_plant, Cond.selects RX7 yX7_plant yX7_plant, Cond.code yX7_plant cX7_plant 2 none, Cond.fieldLink RX7 18 "SoundLaws$Tree" "tongues" "I"]
def wsL_law_r18 : List Cond := [Cond.methodLink RX6 51 yX6_rebuild, Cond.instanceMethod yX6_rebuild, Cond.selects RX6 yX6_rebuild yX6_rebuild, Cond.code yX6_rebuild cX6_rebuild 6 none, Cond.fieldLink RX6 90 "SoundLaws$Stock" "kinds" "[I", Cond.fieldLink RX6 75 "SoundLaws$Stock" "lengths" "[I", Cond.fieldLink RX6 93 "SoundLaws$Tree" "sounds" "[I", Cond.fieldLink RX6 94 "SoundLaws$Stock" "words" "[I", Cond.methodLink RX6 107 arraycopyName, Cond.methodLink RX6 100 yX7_climb, Cond.instanceMethod yX7_climb, Cond.selects RX7 yX7_climb yX7_climb, Cond.code yX7_climb cX7_climb 5 (some .int), Cond.static yX8_nodesOf, Cond.code yX8_nodesOf cX8_nodesOf 1 (some .int), Cond.methodLink RX7 26 yX7_pairOf, Cond.instanceMethod yX7_pairOf, Cond.selects RX7 yX7_pairOf yX7_pairOf, Cond.code yX7_pairOf cX7_pairOf 2 (some .int), Cond.methodLink RX7 32 yX7_leastBelow, Cond.instanceMethod yX7_leastBelow, Cond.selects RX7 yX7_leastBelow yX7_leastBelow, Cond.code yX7_leastBelow cX7_leastBelow 8 (some .int), Cond.methodLink RX6 104 yX7_descend]
def wsL_law_r19 : List Cond := [Cond.instanceMethod yX7_descend, Cond.selects RX7 yX7_descend yX7_descend, Cond.code yX7_descend cX7_descend 3 none, Cond.methodLink RX7 36 yX7_root, Cond.instanceMethod yX7_root, Cond.selects RX7 yX7_root yX7_root, Cond.code yX7_root cX7_root 1 (some .int), Cond.methodLink RX7 40 yX7_settle, Cond.instanceMethod yX7_settle, Cond.selects RX7 yX7_settle yX7_settle, Cond.code yX7_settle cX7_settle 7 none, Cond.static yX8_costOf, Cond.code yX8_costOf cX8_costOf 2 (some .int), Cond.fieldLink RX8 288 "SoundLaws" "COSTS" "[I", Cond.static yX8_nodesAt, Cond.code yX8_nodesAt cX8_nodesAt 2 (some .int), Cond.methodLink RX6 55 yX2_clear, Cond.instanceMethod yX2_clear, Cond.selects RX2 yX2_clear yX2_clear, Cond.code yX2_clear cX2_clear 1 none, Cond.methodLink RX2 24 yJ7_fill_53178, Cond.static yJ7_fill_53178, Cond.initialized RJ7, Cond.code yJ7_fill_53178 cJ7_fill_53178 4 none]
def wsL_law_r20 : List Cond := [Cond.methodLink RX6 58 yX6_weigh, Cond.instanceMethod yX6_weigh, Cond.selects RX6 yX6_weigh yX6_weigh, Cond.code yX6_weigh cX6_weigh 8 none, Cond.methodLink RX6 116 yX6_oldSound, Cond.instanceMethod yX6_oldSound, Cond.selects RX6 yX6_oldSound yX6_oldSound, Cond.code yX6_oldSound cX6_oldSound 4 (some .int), Cond.static yX8_aheadAt, Cond.code yX8_aheadAt cX8_aheadAt 1 (some .int), Cond.static yX8_lawAt, Cond.code yX8_lawAt cX8_lawAt 3 (some .int), Cond.methodLink RX6 127 yX2_weigh, Cond.instanceMethod yX2_weigh, Cond.selects RX2 yX2_weigh yX2_weigh, Cond.code yX2_weigh cX2_weigh 4 none, Cond.methodLink RX6 61 yX2_settle, Cond.instanceMethod yX2_settle, Cond.selects RX2 yX2_settle yX2_settle, Cond.code yX2_settle cX2_settle 3 none, Cond.fieldLink RX2 30 "SoundLaws$Laws" "known" "I", Cond.fieldLink RX2 34 "SoundLaws$Laws" "exceptionsOfAll" "I", Cond.methodLink RX2 37 yX2_settleLaw, Cond.instanceMethod yX2_settleLaw]
def wsL_law_r21 : List Cond := [Cond.selects RX2 yX2_settleLaw yX2_settleLaw, Cond.code yX2_settleLaw cX2_settleLaw 7 none, Cond.methodLink RX6 64 yX6_findStrange, Cond.instanceMethod yX6_findStrange, Cond.selects RX6 yX6_findStrange yX6_findStrange, Cond.code yX6_findStrange cX6_findStrange 8 none, Cond.fieldLink RX6 130 "SoundLaws$Laws" "becomes" "[I", Cond.methodLink RX8 103 yX8_tellOfSet, Cond.instanceMethod yX8_tellOfSet, Cond.selects RX8 yX8_tellOfSet yX8_tellOfSet, Cond.code yX8_tellOfSet cX8_tellOfSet 3 (some .int), Cond.fieldLink RX8 110 "SoundLaws$Stock" "kinds" "[I", Cond.fieldLink RX8 168 "SoundLaws$Stock" "lengths" "[I", Cond.fieldLink RX8 257 "SoundLaws$Study" "changes" "[I", Cond.methodLink RX8 259 yX6_strangeInSet, Cond.instanceMethod yX6_strangeInSet, Cond.selects RX6 yX6_strangeInSet yX6_strangeInSet, Cond.code yX6_strangeInSet cX6_strangeInSet 4 (some .int), Cond.methodLink RX8 262 yX6_borrowedTongues, Cond.instanceMethod yX6_borrowedTongues, Cond.selects RX6 yX6_borrowedTongues yX6_borrowedTongues, Cond.code yX6_borrowedTongues cX6_borrowedTongues 6 (some .int), Cond.methodLink RX8 266 yX4_sortsOf, Cond.instanceMethod yX4_sortsOf]
def wsL_law_r22 : List Cond := [Cond.selects RX4 yX4_sortsOf yX4_sortsOf, Cond.code yX4_sortsOf cX4_sortsOf 5 (some .int), Cond.methodLink RX4 30 yX4_sortsThatCould, Cond.static yX4_sortsThatCould, Cond.code yX4_sortsThatCould cX4_sortsThatCould 3 (some .int), Cond.methodLink RX4 48 yX4_could, Cond.static yX4_could, Cond.code yX4_could cX4_could 2 (some .boolean), Cond.methodLink RX8 269 yX4_questionFor, Cond.instanceMethod yX4_questionFor, Cond.selects RX4 yX4_questionFor yX4_questionFor, Cond.code yX4_questionFor cX4_questionFor 8 (some .int), Cond.methodLink RX4 42 Lib.Math.max.name, Cond.methodLink RX4 34 yX4_sortsOf, Cond.methodLink RX4 37 yJ6_bitCount_0f7a4, Cond.static yJ6_bitCount_0f7a4, Cond.initialized RJ6, Cond.code yJ6_bitCount_0f7a4 cJ6_bitCount_0f7a4 1 (some .int), Cond.constant RJ6 265 (1431655765), Cond.constant RJ6 266 (858993459), Cond.constant RJ6 267 (252645135), Cond.methodLink RL 35 yX9_set, Cond.instanceMethod yX9_set, Cond.selects RX9 yX9_set yX9_set]
def wsL_law_r23 : List Cond := [Cond.code yX9_set cX9_set 3 (some .int), Cond.methodLink RX9 163 yX9_isSet, Cond.instanceMethod yX9_isSet, Cond.selects RX9 yX9_isSet yX9_isSet, Cond.code yX9_isSet cX9_isSet 2 (some .boolean), Cond.methodLink RX9 256 yX9_tellSet, Cond.instanceMethod yX9_tellSet, Cond.selects RX9 yX9_tellSet yX9_tellSet, Cond.code yX9_tellSet cX9_tellSet 3 (some .int), Cond.methodLink RX9 223 yX9_freshen, Cond.instanceMethod yX9_freshen, Cond.selects RX9 yX9_freshen yX9_freshen, Cond.code yX9_freshen cX9_freshen 2 none, Cond.methodLink RX9 212 yX9_laySets, Cond.instanceMethod yX9_laySets, Cond.selects RX9 yX9_laySets yX9_laySets, Cond.code yX9_laySets cX9_laySets 4 none, Cond.methodLink RX9 196 yX9_isRebuilt, Cond.instanceMethod yX9_isRebuilt, Cond.selects RX9 yX9_isRebuilt yX9_isRebuilt, Cond.code yX9_isRebuilt cX9_isRebuilt 2 (some .boolean), Cond.methodLink RX9 199 yX9_rebuild, Cond.instanceMethod yX9_rebuild, Cond.selects RX9 yX9_rebuild yX9_rebuild]
def wsL_law_r24 : List Cond := [Cond.code yX9_rebuild cX9_rebuild 4 (some .int), Cond.methodLink RX9 189 yX9_layCosts, Cond.instanceMethod yX9_layCosts, Cond.selects RX9 yX9_layCosts yX9_layCosts, Cond.code yX9_layCosts cX9_layCosts 4 none, Cond.methodLink RX9 177 yX9_nodesBy, Cond.instanceMethod yX9_nodesBy, Cond.selects RX9 yX9_nodesBy yX9_nodesBy, Cond.code yX9_nodesBy cX9_nodesBy 2 (some .int), Cond.methodLink RX9 180 yX9_belowFirst, Cond.static yX9_belowFirst, Cond.code yX9_belowFirst cX9_belowFirst 2 (some .int), Cond.methodLink RX9 183 yX9_least, Cond.instanceMethod yX9_least, Cond.selects RX9 yX9_least yX9_least, Cond.code yX9_least cX9_least 6 (some .int), Cond.methodLink RX9 173 yX9_costOf, Cond.static yX9_costOf, Cond.code yX9_costOf cX9_costOf 2 (some .int), Cond.methodLink RX9 168 yX9_isVowel, Cond.static yX9_isVowel, Cond.code yX9_isVowel cX9_isVowel 1 (some .boolean), Cond.constantLong RX9 166 (3), Cond.methodLink RX9 186 yX9_belowSecond]
def wsL_law_r25 : List Cond := [Cond.static yX9_belowSecond, Cond.code yX9_belowSecond cX9_belowSecond 2 (some .int), Cond.methodLink RX9 193 yX9_leastSound, Cond.instanceMethod yX9_leastSound, Cond.selects RX9 yX9_leastSound yX9_leastSound, Cond.code yX9_leastSound cX9_leastSound 7 (some .int), Cond.methodLink RX9 215 yX9_layLaw, Cond.instanceMethod yX9_layLaw, Cond.selects RX9 yX9_layLaw yX9_layLaw, Cond.code yX9_layLaw cX9_layLaw 8 none, Cond.methodLink RX9 208 yX9_layTally, Cond.instanceMethod yX9_layTally, Cond.selects RX9 yX9_layTally yX9_layTally, Cond.code yX9_layTally cX9_layTally 7 none, Cond.methodLink RX9 202 yX9_weightBy, Cond.static yX9_weightBy, Cond.code yX9_weightBy cX9_weightBy 1 (some .int), Cond.methodLink RX9 205 yX9_oldSound, Cond.instanceMethod yX9_oldSound, Cond.selects RX9 yX9_oldSound yX9_oldSound, Cond.code yX9_oldSound cX9_oldSound 3 (some .int), Cond.methodLink RX9 244 yX9_strangeAll, Cond.instanceMethod yX9_strangeAll, Cond.selects RX9 yX9_strangeAll yX9_strangeAll]
def wsL_law_r26 : List Cond := [Cond.code yX9_strangeAll cX9_strangeAll 4 (some .int), Cond.methodLink RX9 230 yX9_strangeOf, Cond.instanceMethod yX9_strangeOf, Cond.selects RX9 yX9_strangeOf yX9_strangeOf, Cond.code yX9_strangeOf cX9_strangeOf 6 (some .int), Cond.methodLink RX9 226 yX9_lawAt, Cond.instanceMethod yX9_lawAt, Cond.selects RX9 yX9_lawAt yX9_lawAt, Cond.code yX9_lawAt cX9_lawAt 4 (some .int), Cond.methodLink RX9 247 yX9_borrowed, Cond.instanceMethod yX9_borrowed, Cond.selects RX9 yX9_borrowed yX9_borrowed, Cond.code yX9_borrowed cX9_borrowed 4 (some .int), Cond.methodLink RX9 237 yX9_isBorrowed, Cond.instanceMethod yX9_isBorrowed, Cond.selects RX9 yX9_isBorrowed yX9_isBorrowed, Cond.code yX9_isBorrowed cX9_isBorrowed 4 (some .boolean), Cond.methodLink RX9 250 yX9_sortsOf, Cond.instanceMethod yX9_sortsOf, Cond.selects RX9 yX9_sortsOf yX9_sortsOf, Cond.code yX9_sortsOf cX9_sortsOf 5 (some .int), Cond.methodLink RX9 271 yX9_sortsBy, Cond.static yX9_sortsBy, Cond.code yX9_sortsBy cX9_sortsBy 1 (some .int)]
def wsL_law_r27 : List Cond := [Cond.methodLink RX9 253 yX9_askOf, Cond.instanceMethod yX9_askOf, Cond.selects RX9 yX9_askOf yX9_askOf, Cond.code yX9_askOf cX9_askOf 9 (some .int), Cond.methodLink RX9 274 yX9_ones, Cond.static yX9_ones, Cond.code yX9_ones cX9_ones 3 (some .int), Cond.methodLink RL 36 yX8_as, Cond.instanceMethod yX8_as, Cond.selects RX8 yX8_as yX8_as, Cond.code yX8_as cX8_as 3 (some .int), Cond.methodLink RX8 107 yX8_isKind, Cond.static yX8_isKind, Cond.code yX8_isKind cX8_isKind 1 (some .boolean), Cond.methodLink RX8 113 yX8_isOfKind, Cond.static yX8_isOfKind, Cond.code yX8_isOfKind cX8_isOfKind 2 (some .boolean), Cond.methodLink RL 39 yX9_as, Cond.instanceMethod yX9_as, Cond.selects RX9 yX9_as yX9_as, Cond.code yX9_as cX9_as 4 (some .int), Cond.constantLong RX9 259 (4), Cond.methodLink RL 40 yX8_sound, Cond.instanceMethod yX8_sound]
def wsL_law_r28 : List Cond := [Cond.selects RX8 yX8_sound yX8_sound, Cond.code yX8_sound cX8_sound 4 (some .int), Cond.methodLink RX8 117 yX8_isNode, Cond.instanceMethod yX8_isNode, Cond.selects RX8 yX8_isNode yX8_isNode, Cond.code yX8_isNode cX8_isNode 2 (some .boolean), Cond.fieldLink RX8 234 "SoundLaws$Stock" "tongues" "I", Cond.methodLink RX8 243 yX8_nodesOf, Cond.methodLink RX8 120 yX8_isPlace, Cond.instanceMethod yX8_isPlace, Cond.selects RX8 yX8_isPlace yX8_isPlace, Cond.code yX8_isPlace cX8_isPlace 3 (some .boolean), Cond.methodLink RX8 123 yX8_tellOfNode, Cond.instanceMethod yX8_tellOfNode, Cond.selects RX8 yX8_tellOfNode yX8_tellOfNode, Cond.code yX8_tellOfNode cX8_tellOfNode 4 (some .int), Cond.fieldLink RX8 162 "SoundLaws$Stock" "words" "[I", Cond.fieldLink RX8 145 "SoundLaws" "REBUILDS" "[I", Cond.fieldLink RX8 272 "SoundLaws$Study" "sounds" "[I", Cond.methodLink RX8 165 yX8_wordAt, Cond.methodLink RX8 275 yX8_nodesAt, Cond.methodLink RL 44 yX9_sound, Cond.instanceMethod yX9_sound, Cond.selects RX9 yX9_sound yX9_sound]
def wsL_law_r29 : List Cond := [Cond.code yX9_sound cX9_sound 4 (some .int), Cond.methodLink RX9 233 yX9_isPlace, Cond.instanceMethod yX9_isPlace, Cond.selects RX9 yX9_isPlace yX9_isPlace, Cond.code yX9_isPlace cX9_isPlace 3 (some .boolean), Cond.methodLink RL 45 yX8_law, Cond.instanceMethod yX8_law, Cond.selects RX8 yX8_law yX8_law, Cond.code yX8_law cX8_law 5 (some .int), Cond.fieldLink RX8 133 "SoundLaws$Study" "laws" "LSoundLaws$Laws;", Cond.methodLink RX8 127 yX8_isTongue, Cond.instanceMethod yX8_isTongue, Cond.selects RX8 yX8_isTongue yX8_isTongue, Cond.code yX8_isTongue cX8_isTongue 2 (some .boolean), Cond.methodLink RX8 130 yX8_isSound, Cond.static yX8_isSound, Cond.code yX8_isSound cX8_isSound 1 (some .boolean), Cond.methodLink RX8 137 yX8_lawAt, Cond.methodLink RX8 140 yX2_tell, Cond.instanceMethod yX2_tell, Cond.selects RX2 yX2_tell yX2_tell, Cond.code yX2_tell cX2_tell 3 (some .int), Cond.methodLink RL 49 yX9_law, Cond.instanceMethod yX9_law]
def wsL_law_r30 : List Cond := [Cond.selects RX9 yX9_law yX9_law, Cond.code yX9_law cX9_law 6 (some .int), Cond.constantLong RX9 171 (8), Cond.constantLong RX9 221 (2), Cond.methodLink RX9 218 yX9_isTongue, Cond.instanceMethod yX9_isTongue, Cond.selects RX9 yX9_isTongue yX9_isTongue, Cond.code yX9_isTongue cX9_isTongue 2 (some .boolean), Cond.methodLink RL 50 yX8_strange, Cond.instanceMethod yX8_strange, Cond.selects RX8 yX8_strange yX8_strange, Cond.code yX8_strange cX8_strange 3 (some .int), Cond.fieldLink RX8 148 "SoundLaws$Study" "strangePlaces" "[I", Cond.methodLink RL 53 yX9_strange, Cond.instanceMethod yX9_strange, Cond.selects RX9 yX9_strange yX9_strange, Cond.code yX9_strange cX9_strange 3 (some .int), Cond.methodLink RL 54 yX8_say, Cond.instanceMethod yX8_say, Cond.selects RX8 yX8_say yX8_say, Cond.code yX8_say cX8_say 6 (some .int), Cond.fieldLink RX8 155 "SoundLaws$Laws" "becomes" "[I", Cond.methodLink RX8 151 yX6_oldSound, Cond.methodLink RX8 158 yX8_aheadAt]
def wsL_law_r31 : List Cond := [Cond.methodLink RL 57 yX9_say, Cond.instanceMethod yX9_say, Cond.selects RX9 yX9_say yX9_say, Cond.code yX9_say cX9_say 5 (some .int), Cond.methodLink RL 58 yX8_line, Cond.instanceMethod yX8_line, Cond.selects RX8 yX8_line yX8_line, Cond.code yX8_line cX8_line 5 (some .int), Cond.methodLink RX8 171 yX0_readFirst, Cond.instanceMethod yX0_readFirst, Cond.selects RX0 yX0_readFirst yX0_readFirst, Cond.code yX0_readFirst cX0_readFirst 4 none, Cond.fieldLink RX0 25 "SoundLaws$Aligner" "firstLength" "I", Cond.methodLink RX0 21 yX0_readSounds, Cond.static yX0_readSounds, Cond.code yX0_readSounds cX0_readSounds 7 (some .int), Cond.methodLink RX8 175 yX0_readSecond, Cond.instanceMethod yX0_readSecond, Cond.selects RX0 yX0_readSecond yX0_readSecond, Cond.code yX0_readSecond cX0_readSecond 4 none, Cond.fieldLink RX0 29 "SoundLaws$Aligner" "secondLength" "I", Cond.methodLink RX8 178 yX0_leastCost, Cond.instanceMethod yX0_leastCost, Cond.selects RX0 yX0_leastCost yX0_leastCost]
def wsL_law_r32 : List Cond := [Cond.code yX0_leastCost cX0_leastCost 6 (some .int), Cond.methodLink RX0 36 Lib.Math.min.name, Cond.methodLink RL 61 yX9_line, Cond.instanceMethod yX9_line, Cond.selects RX9 yX9_line yX9_line, Cond.code yX9_line cX9_line 13 (some .int), Cond.methodLink RX9 240 yX9_strip, Cond.instanceMethod yX9_strip, Cond.selects RX9 yX9_strip yX9_strip, Cond.code yX9_strip cX9_strip 7 (some .int), Cond.methodLink RL 62 yX8_cost, Cond.instanceMethod yX8_cost, Cond.selects RX8 yX8_cost yX8_cost, Cond.code yX8_cost cX8_cost 3 (some .int), Cond.methodLink RX8 181 yX8_costOf, Cond.methodLink RL 65 yX9_cost, Cond.instanceMethod yX9_cost, Cond.selects RX9 yX9_cost yX9_cost, Cond.code yX9_cost cX9_cost 3 (some .int), Cond.methodLink RL 66 yX8_put, Cond.instanceMethod yX8_put, Cond.selects RX8 yX8_put yX8_put, Cond.code yX8_put cX8_put 7 (some .int), Cond.methodLink RX8 184 yX5_isSilentBut]
def wsL_law_r33 : List Cond := [Cond.instanceMethod yX5_isSilentBut, Cond.selects RX5 yX5_isSilentBut yX5_isSilentBut, Cond.code yX5_isSilentBut cX5_isSilentBut 5 (some .boolean), Cond.methodLink RL 69 yX9_put, Cond.instanceMethod yX9_put, Cond.selects RX9 yX9_put yX9_put, Cond.code yX9_put cX9_put 7 (some .int), Cond.methodLink RX9 261 yX9_isOnlyNone, Cond.instanceMethod yX9_isOnlyNone, Cond.selects RX9 yX9_isOnlyNone yX9_isOnlyNone, Cond.code yX9_isOnlyNone cX9_isOnlyNone 5 (some .boolean), Cond.methodLink RL 70 yX8_copy, Cond.instanceMethod yX8_copy, Cond.selects RX8 yX8_copy yX8_copy, Cond.code yX8_copy cX8_copy 3 (some .int), Cond.methodLink RX8 188 yX5_putOver, Cond.instanceMethod yX5_putOver, Cond.selects RX5 yX5_putOver yX5_putOver, Cond.code yX5_putOver cX5_putOver 3 none, Cond.methodLink RL 73 yX9_copy, Cond.instanceMethod yX9_copy, Cond.selects RX9 yX9_copy yX9_copy, Cond.code yX9_copy cX9_copy 2 (some .int), Cond.methodLink RX9 264 yX9_layLike]
def wsL_law_r34 : List Cond := [Cond.instanceMethod yX9_layLike, Cond.selects RX9 yX9_layLike yX9_layLike, Cond.code yX9_layLike cX9_layLike 4 none, Cond.methodLink RL 74 yX8_take, Cond.instanceMethod yX8_take, Cond.selects RX8 yX8_take yX8_take, Cond.code yX8_take cX8_take 2 (some .int), Cond.methodLink RX8 192 yX5_remove, Cond.instanceMethod yX5_remove, Cond.selects RX5 yX5_remove yX5_remove, Cond.code yX5_remove cX5_remove 3 none, Cond.methodLink RX5 38 yX5_putOver, Cond.methodLink RX8 196 yX4_loseSet, Cond.instanceMethod yX4_loseSet, Cond.selects RX4 yX4_loseSet yX4_loseSet, Cond.code yX4_loseSet cX4_loseSet 3 none, Cond.methodLink RL 77 yX9_take, Cond.instanceMethod yX9_take, Cond.selects RX9 yX9_take yX9_take, Cond.code yX9_take cX9_take 3 (some .int), Cond.methodLink RL 78 yX8_change, Cond.instanceMethod yX8_change, Cond.selects RX8 yX8_change yX8_change, Cond.code yX8_change cX8_change 4 (some .int)]
def wsL_law_r35 : List Cond := [Cond.methodLink RL 81 yX9_change, Cond.instanceMethod yX9_change, Cond.selects RX9 yX9_change yX9_change, Cond.code yX9_change cX9_change 4 (some .int), Cond.methodLink RL 82 yX8_swap, Cond.instanceMethod yX8_swap, Cond.selects RX8 yX8_swap yX8_swap, Cond.code yX8_swap cX8_swap 3 (some .int), Cond.fieldLink RX8 202 "SoundLaws$Study" "changesOfAll" "I", Cond.methodLink RX8 199 yX5_exchange, Cond.instanceMethod yX5_exchange, Cond.selects RX5 yX5_exchange yX5_exchange, Cond.code yX5_exchange cX5_exchange 8 none, Cond.methodLink RL 85 yX9_swap, Cond.instanceMethod yX9_swap, Cond.selects RX9 yX9_swap yX9_swap, Cond.code yX9_swap cX9_swap 7 (some .int), Cond.methodLink RX9 268 yX9_changesAll, Cond.instanceMethod yX9_changesAll, Cond.selects RX9 yX9_changesAll yX9_changesAll, Cond.code yX9_changesAll cX9_changesAll 3 (some .int), Cond.methodLink RL 86 yX8_see, Cond.instanceMethod yX8_see, Cond.selects RX8 yX8_see yX8_see]
def wsL_law_r36 : List Cond := [Cond.code yX8_see cX8_see 4 (some .int), Cond.fieldLink RX8 205 "SoundLaws$Sightings" "size" "I", Cond.methodLink RX8 206 yX4_add, Cond.instanceMethod yX4_add, Cond.selects RX4 yX4_add yX4_add, Cond.code yX4_add cX4_add 4 none, Cond.methodLink RL 90 yX9_see, Cond.instanceMethod yX9_see, Cond.selects RX9 yX9_see yX9_see, Cond.code yX9_see cX9_see 4 (some .int), Cond.methodLink RL 91 yX8_forget, Cond.instanceMethod yX8_forget, Cond.selects RX8 yX8_forget yX8_forget, Cond.code yX8_forget cX8_forget 2 (some .int), Cond.methodLink RL 94 yX9_forget, Cond.instanceMethod yX9_forget, Cond.selects RX9 yX9_forget yX9_forget, Cond.code yX9_forget cX9_forget 2 (some .int), Cond.methodLink RL 95 yX8_drawn, Cond.instanceMethod yX8_drawn, Cond.selects RX8 yX8_drawn yX8_drawn, Cond.code yX8_drawn cX8_drawn 4 (some .int), Cond.fieldLink RX8 213 "SoundLaws$Draws" "changes" "I", Cond.fieldLink RX8 216 "SoundLaws$Draws" "foreign" "I"]
def wsL_law_r37 : List Cond := [Cond.fieldLink RX8 219 "SoundLaws$Draws" "seed" "I", Cond.methodLink RX8 210 yX1_drawSets, Cond.instanceMethod yX1_drawSets, Cond.selects RX1 yX1_drawSets yX1_drawSets, Cond.code yX1_drawSets cX1_drawSets 5 none, Cond.fieldLink RX1 18 "SoundLaws$Draws" "seed" "I", Cond.fieldLink RX1 22 "SoundLaws$Draws" "changes" "I", Cond.fieldLink RX1 25 "SoundLaws$Draws" "foreign" "I", Cond.fieldLink RX1 32 "SoundLaws$Tree" "sounds" "[I", Cond.methodLink RX1 28 yX7_plant, Cond.methodLink RX1 36 yX1_drawSound, Cond.instanceMethod yX1_drawSound, Cond.selects RX1 yX1_drawSound yX1_drawSound, Cond.code yX1_drawSound cX1_drawSound 1 (some .int), Cond.constantLong RX1 50 (1103515245), Cond.constantLong RX1 52 (12345), Cond.constantLong RX1 54 (2147483648), Cond.constant RX1 56 (65536), Cond.methodLink RX1 40 yX7_climb, Cond.methodLink RX1 43 yX7_root, Cond.methodLink RX1 46 yX1_isForeign, Cond.instanceMethod yX1_isForeign, Cond.selects RX1 yX1_isForeign yX1_isForeign, Cond.code yX1_isForeign cX1_isForeign 3 (some .boolean)]
def wsL_law_r38 : List Cond := [Cond.methodLink RL 98 yX9_drawn, Cond.instanceMethod yX9_drawn, Cond.selects RX9 yX9_drawn yX9_drawn, Cond.code yX9_drawn cX9_drawn 9 (some .int), Cond.constantLong RX9 287 (40), Cond.fieldLink RX9 279 "SoundLawsModel" "seedNow" "I", Cond.methodLink RX9 289 yX9_draw, Cond.instanceMethod yX9_draw, Cond.selects RX9 yX9_draw yX9_draw, Cond.code yX9_draw cX9_draw 2 (some .int), Cond.constantLong RX9 277 (1103515245), Cond.constantLong RX9 282 (12345), Cond.constantLong RX9 284 (2147483647), Cond.constant RX9 286 (65536), Cond.methodLink RL 99 yX8_image, Cond.instanceMethod yX8_image, Cond.selects RX8 yX8_image yX8_image, Cond.code yX8_image cX8_image 1 (some .int), Cond.methodLink RX8 222 yX4_become, Cond.instanceMethod yX4_become, Cond.selects RX4 yX4_become yX4_become, Cond.code yX4_become cX4_become 3 none, Cond.methodLink RX4 26 yX4_add, Cond.methodLink RL 102 yX9_image]
def wsL_law_r39 : List Cond := [Cond.instanceMethod yX9_image, Cond.selects RX9 yX9_image yX9_image, Cond.code yX9_image cX9_image 1 (some .int), Cond.fieldLink RX9 299 "SoundLawsModel" "keptMany" "I", Cond.fieldLink RX9 302 "SoundLawsModel" "keptTongues" "I", Cond.fieldLink RX9 305 "SoundLawsModel" "keptSeen" "I", Cond.methodLink RX9 292 yX9_lacks, Cond.instanceMethod yX9_lacks, Cond.selects RX9 yX9_lacks yX9_lacks, Cond.code yX9_lacks cX9_lacks 1 (some .boolean), Cond.methodLink RX9 295 yX9_copyRow, Cond.static yX9_copyRow, Cond.code yX9_copyRow cX9_copyRow 3 none, Cond.methodLink RL 103 yX8_restore, Cond.instanceMethod yX8_restore, Cond.selects RX8 yX8_restore yX8_restore, Cond.code yX8_restore cX8_restore 1 (some .int), Cond.methodLink RL 106 yX9_restore, Cond.instanceMethod yX9_restore, Cond.selects RX9 yX9_restore yX9_restore, Cond.code yX9_restore cX9_restore 1 (some .int), Cond.methodLink RL 107 yX8_count, Cond.instanceMethod yX8_count, Cond.selects RX8 yX8_count yX8_count]
def wsL_law_r40 : List Cond := [Cond.code yX8_count cX8_count 2 (some .int), Cond.methodLink RX8 225 yX8_tellOfAll, Cond.instanceMethod yX8_tellOfAll, Cond.selects RX8 yX8_tellOfAll yX8_tellOfAll, Cond.code yX8_tellOfAll cX8_tellOfAll 2 (some .int), Cond.fieldLink RX8 278 "SoundLaws$Laws" "known" "I", Cond.fieldLink RX8 281 "SoundLaws$Laws" "exceptionsOfAll" "I", Cond.methodLink RX8 284 yX6_borrowedWords, Cond.instanceMethod yX6_borrowedWords, Cond.selects RX6 yX6_borrowedWords yX6_borrowedWords, Cond.code yX6_borrowedWords cX6_borrowedWords 4 (some .int), Cond.methodLink RX6 78 yX6_borrowedTongues, Cond.methodLink RX6 82 yJ6_bitCount_0f7a4, Cond.methodLink RL 110 yX9_count, Cond.instanceMethod yX9_count, Cond.selects RX9 yX9_count yX9_count, Cond.code yX9_count cX9_count 2 (some .int), Cond.methodLink RX9 318 yX9_countOf, Cond.instanceMethod yX9_countOf, Cond.selects RX9 yX9_countOf yX9_countOf, Cond.code yX9_countOf cX9_countOf 2 (some .int), Cond.methodLink RX9 315 yX9_countSets, Cond.instanceMethod yX9_countSets, Cond.selects RX9 yX9_countSets yX9_countSets]
def wsL_law_r41 : List Cond := [Cond.code yX9_countSets cX9_countSets 2 (some .int), Cond.methodLink RX9 308 yX9_sumLaws, Cond.instanceMethod yX9_sumLaws, Cond.selects RX9 yX9_sumLaws yX9_sumLaws, Cond.code yX9_sumLaws cX9_sumLaws 4 (some .int), Cond.methodLink RX9 312 yX9_borrowedAll, Cond.instanceMethod yX9_borrowedAll, Cond.selects RX9 yX9_borrowedAll yX9_borrowedAll, Cond.code yX9_borrowedAll cX9_borrowedAll 3 (some .int), Cond.methodLink RL 111 yX8_digest, Cond.instanceMethod yX8_digest, Cond.selects RX8 yX8_digest yX8_digest, Cond.code yX8_digest cX8_digest 4 (some .long), Cond.constantLong RX8 228 (1459), Cond.methodLink RX8 230 yX8_digestSet, Cond.instanceMethod yX8_digestSet, Cond.selects RX8 yX8_digestSet yX8_digestSet, Cond.code yX8_digestSet cX8_digestSet 9 (some .long), Cond.methodLink RX8 240 yX8_mixed, Cond.static yX8_mixed, Cond.code yX8_mixed cX8_mixed 3 (some .long), Cond.constantLong RX8 246 (31), Cond.methodLink RX8 237 yX8_digestLaws, Cond.instanceMethod yX8_digestLaws]
def wsL_law_r42 : List Cond := [Cond.selects RX8 yX8_digestLaws yX8_digestLaws, Cond.code yX8_digestLaws cX8_digestLaws 10 (some .long), Cond.methodLink RL 115 yX9_digest, Cond.instanceMethod yX9_digest, Cond.selects RX9 yX9_digest yX9_digest, Cond.code yX9_digest cX9_digest 2 (some .long), Cond.constantLong RX9 331 (1459), Cond.fieldLink RX9 323 "SoundLawsModel" "hash" "J", Cond.methodLink RX9 333 yX9_saySet, Cond.instanceMethod yX9_saySet, Cond.selects RX9 yX9_saySet yX9_saySet, Cond.code yX9_saySet cX9_saySet 4 none, Cond.methodLink RX9 327 yX9_note, Cond.instanceMethod yX9_note, Cond.selects RX9 yX9_note yX9_note, Cond.code yX9_note cX9_note 3 none, Cond.constantLong RX9 321 (31)]
def wsL_law : List Cond := (wsL_law_r1 ++ (wsL_law_r2 ++ (wsL_law_r3 ++ (wsL_law_r4 ++ (wsL_law_r5 ++ (wsL_law_r6 ++ (wsL_law_r7 ++ (wsL_law_r8 ++ (wsL_law_r9 ++ (wsL_law_r10 ++ (wsL_law_r11 ++ (wsL_law_r12 ++ (wsL_law_r13 ++ (wsL_law_r14 ++ (wsL_law_r15 ++ (wsL_law_r16 ++ (wsL_law_r17 ++ (wsL_law_r18 ++ (wsL_law_r19 ++ (wsL_law_r20 ++ (wsL_law_r21 ++ (wsL_law_r22 ++ (wsL_law_r23 ++ (wsL_law_r24 ++ (wsL_law_r25 ++ (wsL_law_r26 ++ (wsL_law_r27 ++ (wsL_law_r28 ++ (wsL_law_r29 ++ (wsL_law_r30 ++ (wsL_law_r31 ++ (wsL_law_r32 ++ (wsL_law_r33 ++ (wsL_law_r34 ++ (wsL_law_r35 ++ (wsL_law_r36 ++ (wsL_law_r37 ++ (wsL_law_r38 ++ (wsL_law_r39 ++ (wsL_law_r40 ++ (wsL_law_r41 ++ wsL_law_r42))))))))))))))))))))))))))))))))))))))))) ++ wsX80 ++ wsX90 ++ wsX30 ++ wsX50 ++ wsX40 ++ wsX60 ++ wsX00 ++ wsX10 ++ wsX20 ++ wsX70 ++ ([] : List Cond)
theorem mem_r {big : List Cond} (ws : List Cond) (ps : List Nat) (hp : ws = ps.filterMap (fun i => big[i]?)) : ∀ w ∈ ws, w ∈ big := by
  intro w hw
  rw [hp] at hw
  obtain ⟨i, -, hi⟩ := List.mem_filterMap.mp hw
  exact List.mem_of_getElem? hi
set_option maxRecDepth 20000 in
theorem wsL_law_r1_in : ∀ w ∈ wsL_law_r1, w ∈ lw_tbl := mem_r _ [91, 92, 72, 866, 867, 81, 93, 94, 95, 96, 97, 98, 142, 312, 99, 100, 73, 314, 166, 106, 74, 316, 168, 169] (by decide +kernel)
set_option maxRecDepth 20000 in
theorem wsL_law_r2_in : ∀ w ∈ wsL_law_r2, w ∈ lw_tbl := mem_r _ [75, 317, 189, 190, 76, 318, 320, 321, 266, 267, 79, 323, 288, 289, 80, 324, 102, 103, 104, 105, 143, 108, 109, 110] (by decide +kernel)
set_option maxRecDepth 20000 in
theorem wsL_law_r3_in : ∀ w ∈ wsL_law_r3, w ∈ lw_tbl := mem_r _ [119, 123, 127, 171, 172, 173, 176, 177, 188, 178, 192, 193, 194, 242, 244, 246, 195, 196, 77, 248, 224, 225, 78, 252] (by decide +kernel)
set_option maxRecDepth 20000 in
theorem wsL_law_r4_in : ∀ w ∈ wsL_law_r4, w ∈ lw_tbl := mem_r _ [198, 199, 200, 201, 204, 205, 210, 227, 228, 229, 231, 234, 269, 270, 271, 272, 273, 276, 291, 292, 293, 294, 302, 868] (by decide +kernel)
set_option maxRecDepth 20000 in
theorem wsL_law_r5_in : ∀ w ∈ wsL_law_r5, w ∈ lw_tbl := mem_r _ [869, 870, 871, 872, 879, 880, 881, 885, 886, 887, 889, 890, 891, 892, 893, 894, 895, 896, 897, 898, 899, 900, 902, 908] (by decide +kernel)
set_option maxRecDepth 20000 in
theorem wsL_law_r6_in : ∀ w ∈ wsL_law_r6, w ∈ lw_tbl := mem_r _ [909, 910, 911, 904, 352, 353, 354, 355, 313, 996, 997, 998, 999, 1000, 873, 1001, 1002, 1003, 356, 357, 358, 359, 1004, 1005] (by decide +kernel)
set_option maxRecDepth 20000 in
theorem wsL_law_r7_in : ∀ w ∈ wsL_law_r7, w ∈ lw_tbl := mem_r _ [1006, 1007, 360, 361, 362, 363, 364, 366, 0, 367, 368, 369, 370, 371, 112, 117, 145, 150, 372, 373, 374, 375, 377, 378] (by decide +kernel)
set_option maxRecDepth 20000 in
theorem wsL_law_r8_in : ∀ w ∈ wsL_law_r8, w ∈ lw_tbl := mem_r _ [379, 82, 380, 381, 382, 383, 384, 1310, 385, 386, 387, 388, 389, 1309, 391, 392, 393, 394, 395, 396, 397, 398, 399, 400] (by decide +kernel)
set_option maxRecDepth 20000 in
theorem wsL_law_r9_in : ∀ w ∈ wsL_law_r9, w ∈ lw_tbl := mem_r _ [83, 401, 405, 406, 84, 407, 408, 409, 410, 402, 403, 404, 411, 412, 413, 414, 415, 85, 416, 417, 418, 419, 420, 421] (by decide +kernel)
set_option maxRecDepth 20000 in
theorem wsL_law_r10_in : ∀ w ∈ wsL_law_r10, w ∈ lw_tbl := mem_r _ [422, 423, 424, 425, 426, 427, 428, 429, 430, 431, 432, 434, 435, 86, 436, 437, 438, 439, 440, 441, 442, 443, 445, 447] (by decide +kernel)
set_option maxRecDepth 20000 in
theorem wsL_law_r11_in : ∀ w ∈ wsL_law_r11, w ∈ lw_tbl := mem_r _ [449, 450, 451, 452, 453, 87, 454, 455, 456, 457, 458, 459, 460, 461, 462, 463, 465, 1, 466, 146, 120, 147, 467, 469] (by decide +kernel)
set_option maxRecDepth 20000 in
theorem wsL_law_r12_in : ∀ w ∈ wsL_law_r12, w ∈ lw_tbl := mem_r _ [2, 470, 148, 149, 471, 473, 3, 474, 475, 477, 4, 478, 125, 479, 481, 5, 482, 483, 485, 6, 486, 487, 489, 7] (by decide +kernel)
set_option maxRecDepth 20000 in
theorem wsL_law_r13_in : ∀ w ∈ wsL_law_r13, w ∈ lw_tbl := mem_r _ [490, 492, 494, 8, 495, 128, 497, 498, 1008, 1009, 1010, 1011, 1012, 1014, 28, 1015, 874, 875, 878, 1016, 1018, 29, 1019, 1020] (by decide +kernel)
set_option maxRecDepth 20000 in
theorem wsL_law_r14_in : ∀ w ∈ wsL_law_r14, w ∈ lw_tbl := mem_r _ [1022, 30, 1023, 876, 877, 1024, 1025, 1026, 1027, 1029, 31, 1030, 1031, 1033, 32, 1034, 1035, 1037, 33, 1038, 1039, 1041, 34, 1042] (by decide +kernel)
set_option maxRecDepth 20000 in
theorem wsL_law_r15_in : ∀ w ∈ wsL_law_r15, w ∈ lw_tbl := mem_r _ [1043, 1045, 35, 1046, 1047, 1048, 1049, 500, 501, 502, 503, 144, 322, 319, 315, 114, 504, 505, 506, 507, 508, 509, 510, 511] (by decide +kernel)
set_option maxRecDepth 20000 in
theorem wsL_law_r16_in : ∀ w ∈ wsL_law_r16, w ∈ lw_tbl := mem_r _ [111, 116, 512, 514, 513, 88, 515, 516, 517, 518, 174, 1050, 1051, 1052, 1053, 882, 883, 888, 901, 884, 1054, 1056, 36, 1057] (by decide +kernel)
set_option maxRecDepth 20000 in
theorem wsL_law_r17_in : ∀ w ∈ wsL_law_r17, w ∈ lw_tbl := mem_r _ [519, 520, 521, 522, 523, 525, 9, 526, 527, 529, 10, 530, 531, 532, 533, 534, 115, 250, 113, 535, 536, 537, 538, 230] (by decide +kernel)
set_option maxRecDepth 20000 in
theorem wsL_law_r18_in : ∀ w ∈ wsL_law_r18, w ∈ lw_tbl := mem_r _ [539, 541, 11, 542, 121, 124, 233, 129, 586, 546, 547, 548, 549, 551, 552, 553, 555, 12, 556, 561, 563, 13, 564, 567] (by decide +kernel)
set_option maxRecDepth 20000 in
theorem wsL_law_r19_in : ∀ w ∈ wsL_law_r19, w ∈ lw_tbl := mem_r _ [568, 569, 570, 571, 572, 573, 574, 575, 577, 14, 578, 580, 581, 582, 584, 585, 587, 588, 589, 590, 591, 592, 89, 593] (by decide +kernel)
set_option maxRecDepth 20000 in
theorem wsL_law_r20_in : ∀ w ∈ wsL_law_r20, w ∈ lw_tbl := mem_r _ [594, 596, 15, 597, 600, 601, 602, 603, 606, 607, 609, 610, 611, 612, 613, 614, 615, 616, 617, 618, 206, 208, 619, 621] (by decide +kernel)
set_option maxRecDepth 20000 in
theorem wsL_law_r21_in : ∀ w ∈ wsL_law_r21, w ∈ lw_tbl := mem_r _ [16, 622, 623, 625, 17, 626, 202, 627, 629, 18, 630, 122, 126, 245, 631, 632, 633, 634, 635, 636, 637, 638, 639, 640] (by decide +kernel)
set_option maxRecDepth 20000 in
theorem wsL_law_r22_in : ∀ w ∈ wsL_law_r22, w ∈ lw_tbl := mem_r _ [641, 642, 643, 644, 645, 646, 647, 648, 651, 652, 653, 654, 662, 655, 656, 657, 90, 658, 659, 660, 661, 1164, 1165, 1166] (by decide +kernel)
set_option maxRecDepth 20000 in
theorem wsL_law_r23_in : ∀ w ∈ wsL_law_r23, w ∈ lw_tbl := mem_r _ [1167, 1136, 1138, 49, 1139, 1168, 1170, 54, 1171, 1079, 1081, 38, 1082, 1083, 1085, 39, 1086, 1087, 1089, 40, 1090, 1091, 1093, 41] (by decide +kernel)
set_option maxRecDepth 20000 in
theorem wsL_law_r24_in : ∀ w ∈ wsL_law_r24, w ∈ lw_tbl := mem_r _ [1094, 1095, 1097, 42, 1098, 1099, 1101, 43, 1102, 1103, 1104, 1105, 1106, 1108, 44, 1109, 1063, 1064, 1065, 1066, 1067, 1068, 1069, 1110] (by decide +kernel)
set_option maxRecDepth 20000 in
theorem wsL_law_r25_in : ∀ w ∈ wsL_law_r25, w ∈ lw_tbl := mem_r _ [1111, 1112, 1113, 1115, 45, 1116, 1117, 1119, 46, 1120, 1121, 1123, 47, 1124, 1125, 1126, 1127, 1128, 1130, 48, 1131, 1172, 1174, 55] (by decide +kernel)
set_option maxRecDepth 20000 in
theorem wsL_law_r26_in : ∀ w ∈ wsL_law_r26, w ∈ lw_tbl := mem_r _ [1175, 1140, 1142, 50, 1143, 1144, 1146, 51, 1147, 1176, 1178, 56, 1179, 1180, 1182, 57, 1183, 1184, 1186, 58, 1187, 1188, 1189, 1190] (by decide +kernel)
set_option maxRecDepth 20000 in
theorem wsL_law_r27_in : ∀ w ∈ wsL_law_r27, w ∈ lw_tbl := mem_r _ [1191, 1193, 59, 1194, 1195, 1196, 1197, 663, 664, 665, 666, 667, 668, 669, 670, 671, 672, 1198, 1199, 1200, 1201, 1202, 673, 674] (by decide +kernel)
set_option maxRecDepth 20000 in
theorem wsL_law_r28_in : ∀ w ∈ wsL_law_r28, w ∈ lw_tbl := mem_r _ [675, 676, 677, 679, 19, 680, 118, 681, 682, 684, 20, 685, 686, 688, 21, 689, 130, 691, 243, 690, 692, 1203, 1204, 1205] (by decide +kernel)
set_option maxRecDepth 20000 in
theorem wsL_law_r29_in : ∀ w ∈ wsL_law_r29, w ∈ lw_tbl := mem_r _ [1206, 1152, 1154, 52, 1155, 693, 694, 695, 696, 249, 697, 699, 22, 700, 701, 702, 703, 704, 705, 706, 707, 708, 1070, 1071] (by decide +kernel)
set_option maxRecDepth 20000 in
theorem wsL_law_r30_in : ∀ w ∈ wsL_law_r30, w ∈ lw_tbl := mem_r _ [1072, 1073, 1062, 1078, 1074, 1076, 37, 1077, 709, 710, 711, 712, 247, 1132, 1133, 1134, 1135, 713, 714, 715, 716, 203, 717, 718] (by decide +kernel)
set_option maxRecDepth 20000 in
theorem wsL_law_r31_in : ∀ w ∈ wsL_law_r31, w ∈ lw_tbl := mem_r _ [1148, 1149, 1150, 1151, 719, 720, 721, 722, 723, 724, 725, 726, 274, 727, 728, 729, 730, 731, 732, 733, 275, 734, 735, 736] (by decide +kernel)
set_option maxRecDepth 20000 in
theorem wsL_law_r32_in : ∀ w ∈ wsL_law_r32, w ∈ lw_tbl := mem_r _ [737, 739, 1156, 1157, 1158, 1159, 1160, 1162, 53, 1163, 740, 741, 742, 743, 744, 1058, 1059, 1060, 1061, 745, 746, 747, 748, 749] (by decide +kernel)
set_option maxRecDepth 20000 in
theorem wsL_law_r33_in : ∀ w ∈ wsL_law_r33, w ∈ lw_tbl := mem_r _ [750, 751, 752, 1207, 1208, 1209, 1210, 1211, 1213, 60, 1214, 754, 755, 756, 757, 758, 759, 760, 761, 1215, 1216, 1217, 1218, 1219] (by decide +kernel)
set_option maxRecDepth 20000 in
theorem wsL_law_r34_in : ∀ w ∈ wsL_law_r34, w ∈ lw_tbl := mem_r _ [1221, 61, 1222, 762, 763, 764, 765, 766, 767, 768, 769, 770, 771, 772, 773, 774, 1223, 1224, 1225, 1226, 775, 776, 777, 778] (by decide +kernel)
set_option maxRecDepth 20000 in
theorem wsL_law_r35_in : ∀ w ∈ wsL_law_r35, w ∈ lw_tbl := mem_r _ [1227, 1228, 1229, 1230, 779, 780, 781, 782, 251, 783, 784, 785, 786, 1231, 1232, 1233, 1234, 1235, 1237, 62, 1238, 787, 788, 789] (by decide +kernel)
set_option maxRecDepth 20000 in
theorem wsL_law_r36_in : ∀ w ∈ wsL_law_r36, w ∈ lw_tbl := mem_r _ [790, 175, 791, 792, 793, 794, 1239, 1240, 1241, 1242, 795, 796, 797, 798, 1243, 1244, 1245, 1246, 799, 800, 801, 802, 299, 301] (by decide +kernel)
set_option maxRecDepth 20000 in
theorem wsL_law_r37_in : ∀ w ∈ wsL_law_r37, w ∈ lw_tbl := mem_r _ [297, 803, 804, 805, 806, 296, 298, 300, 232, 807, 808, 810, 23, 811, 812, 813, 814, 815, 816, 817, 818, 820, 24, 821] (by decide +kernel)
set_option maxRecDepth 20000 in
theorem wsL_law_r38_in : ∀ w ∈ wsL_law_r38, w ∈ lw_tbl := mem_r _ [1247, 1248, 1249, 1250, 1251, 903, 1252, 1254, 63, 1255, 1256, 1257, 1258, 1259, 822, 823, 824, 825, 826, 827, 828, 829, 830, 1260] (by decide +kernel)
set_option maxRecDepth 20000 in
theorem wsL_law_r39_in : ∀ w ∈ wsL_law_r39, w ∈ lw_tbl := mem_r _ [1261, 1262, 1263, 905, 906, 907, 1264, 1266, 64, 1267, 1268, 1269, 1270, 831, 832, 833, 834, 1271, 1272, 1273, 1274, 835, 836, 837] (by decide +kernel)
set_option maxRecDepth 20000 in
theorem wsL_law_r40_in : ∀ w ∈ wsL_law_r40, w ∈ lw_tbl := mem_r _ [838, 839, 841, 25, 842, 207, 209, 843, 844, 845, 846, 847, 848, 1275, 1276, 1277, 1278, 1279, 1281, 65, 1282, 1283, 1285, 66] (by decide +kernel)
set_option maxRecDepth 20000 in
theorem wsL_law_r41_in : ∀ w ∈ wsL_law_r41, w ∈ lw_tbl := mem_r _ [1286, 1287, 1289, 67, 1290, 1291, 1293, 68, 1294, 849, 850, 851, 852, 853, 854, 856, 26, 857, 858, 859, 860, 861, 862, 864] (by decide +kernel)
set_option maxRecDepth 20000 in
theorem wsL_law_r42_in : ∀ w ∈ wsL_law_r42, w ∈ lw_tbl := mem_r _ [27, 865, 1295, 1296, 1297, 1298, 1299, 912, 1300, 1302, 69, 1303, 1304, 1306, 70, 1307, 1308] (by decide +kernel)
set_option maxRecDepth 20000 in
theorem wsX00_in : ∀ w ∈ wsX00, w ∈ lw_tbl := mem_r _ [277, 279, 281, 283, 285] (by decide +kernel)
set_option maxRecDepth 20000 in
theorem wsX10_in : ∀ w ∈ wsX10, w ∈ lw_tbl := mem_r _ [303, 305, 307, 309] (by decide +kernel)
set_option maxRecDepth 20000 in
theorem wsX20_in : ∀ w ∈ wsX20, w ∈ lw_tbl := mem_r _ [211, 213, 215, 217, 219, 221] (by decide +kernel)
set_option maxRecDepth 20000 in
theorem wsX30_in : ∀ w ∈ wsX30, w ∈ lw_tbl := mem_r _ [151, 153, 155, 157, 159, 161, 163] (by decide +kernel)
set_option maxRecDepth 20000 in
theorem wsX40_in : ∀ w ∈ wsX40, w ∈ lw_tbl := mem_r _ [179, 181, 183, 185] (by decide +kernel)
set_option maxRecDepth 20000 in
theorem wsX50_in : ∀ w ∈ wsX50, w ∈ lw_tbl := mem_r _ [131, 133, 135, 137, 139] (by decide +kernel)
set_option maxRecDepth 20000 in
theorem wsX60_in : ∀ w ∈ wsX60, w ∈ lw_tbl := mem_r _ [253, 255, 257, 259, 261, 263] (by decide +kernel)
set_option maxRecDepth 20000 in
theorem wsX70_in : ∀ w ∈ wsX70, w ∈ lw_tbl := mem_r _ [235, 237, 239] (by decide +kernel)
set_option maxRecDepth 20000 in
theorem wsX80_in : ∀ w ∈ wsX80, w ∈ lw_tbl := mem_r _ [325, 327, 329, 331, 333, 335, 337, 339, 341, 343, 345, 347, 349] (by decide +kernel)
set_option maxRecDepth 20000 in
theorem wsX90_in : ∀ w ∈ wsX90, w ∈ lw_tbl := mem_r _ [913, 915, 917, 919, 921, 923, 925, 927, 929, 931, 933, 935, 937, 939, 941, 943, 945, 947, 949, 951, 953, 955, 957, 959, 961, 963, 965, 967, 969, 971, 973, 975, 977, 979, 981, 983, 985, 987, 989, 991, 993] (by decide +kernel)
theorem wsL_law_in : ∀ w ∈ wsL_law, w ∈ lw_tbl := by
  unfold wsL_law
  exact List.forall_mem_append.mpr ⟨List.forall_mem_append.mpr ⟨List.forall_mem_append.mpr ⟨List.forall_mem_append.mpr ⟨List.forall_mem_append.mpr ⟨List.forall_mem_append.mpr ⟨List.forall_mem_append.mpr ⟨List.forall_mem_append.mpr ⟨List.forall_mem_append.mpr ⟨List.forall_mem_append.mpr ⟨List.forall_mem_append.mpr ⟨List.forall_mem_append.mpr ⟨wsL_law_r1_in, List.forall_mem_append.mpr ⟨wsL_law_r2_in, List.forall_mem_append.mpr ⟨wsL_law_r3_in, List.forall_mem_append.mpr ⟨wsL_law_r4_in, List.forall_mem_append.mpr ⟨wsL_law_r5_in, List.forall_mem_append.mpr ⟨wsL_law_r6_in, List.forall_mem_append.mpr ⟨wsL_law_r7_in, List.forall_mem_append.mpr ⟨wsL_law_r8_in, List.forall_mem_append.mpr ⟨wsL_law_r9_in, List.forall_mem_append.mpr ⟨wsL_law_r10_in, List.forall_mem_append.mpr ⟨wsL_law_r11_in, List.forall_mem_append.mpr ⟨wsL_law_r12_in, List.forall_mem_append.mpr ⟨wsL_law_r13_in, List.forall_mem_append.mpr ⟨wsL_law_r14_in, List.forall_mem_append.mpr ⟨wsL_law_r15_in, List.forall_mem_append.mpr ⟨wsL_law_r16_in, List.forall_mem_append.mpr ⟨wsL_law_r17_in, List.forall_mem_append.mpr ⟨wsL_law_r18_in, List.forall_mem_append.mpr ⟨wsL_law_r19_in, List.forall_mem_append.mpr ⟨wsL_law_r20_in, List.forall_mem_append.mpr ⟨wsL_law_r21_in, List.forall_mem_append.mpr ⟨wsL_law_r22_in, List.forall_mem_append.mpr ⟨wsL_law_r23_in, List.forall_mem_append.mpr ⟨wsL_law_r24_in, List.forall_mem_append.mpr ⟨wsL_law_r25_in, List.forall_mem_append.mpr ⟨wsL_law_r26_in, List.forall_mem_append.mpr ⟨wsL_law_r27_in, List.forall_mem_append.mpr ⟨wsL_law_r28_in, List.forall_mem_append.mpr ⟨wsL_law_r29_in, List.forall_mem_append.mpr ⟨wsL_law_r30_in, List.forall_mem_append.mpr ⟨wsL_law_r31_in, List.forall_mem_append.mpr ⟨wsL_law_r32_in, List.forall_mem_append.mpr ⟨wsL_law_r33_in, List.forall_mem_append.mpr ⟨wsL_law_r34_in, List.forall_mem_append.mpr ⟨wsL_law_r35_in, List.forall_mem_append.mpr ⟨wsL_law_r36_in, List.forall_mem_append.mpr ⟨wsL_law_r37_in, List.forall_mem_append.mpr ⟨wsL_law_r38_in, List.forall_mem_append.mpr ⟨wsL_law_r39_in, List.forall_mem_append.mpr ⟨wsL_law_r40_in, List.forall_mem_append.mpr ⟨wsL_law_r41_in, wsL_law_r42_in⟩⟩⟩⟩⟩⟩⟩⟩⟩⟩⟩⟩⟩⟩⟩⟩⟩⟩⟩⟩⟩⟩⟩⟩⟩⟩⟩⟩⟩⟩⟩⟩⟩⟩⟩⟩⟩⟩⟩⟩⟩, wsX80_in⟩, wsX90_in⟩, wsX30_in⟩, wsX50_in⟩, wsX40_in⟩, wsX60_in⟩, wsX00_in⟩, wsX10_in⟩, wsX20_in⟩, wsX70_in⟩, (fun _ h => absurd h List.not_mem_nil)⟩
theorem inlX0 : ∀ w ∈ wsX00, w ∈ wsL_law := fun _ h => List.mem_append_left _ (List.mem_append_left _ (List.mem_append_left _ (List.mem_append_left _ (List.mem_append_right _ h))))
theorem inX0 : ∀ w ∈ wsX00, w ∈ lw_tbl := fun w h => wsL_law_in w (inlX0 w h)
theorem inlX1 : ∀ w ∈ wsX10, w ∈ wsL_law := fun _ h => List.mem_append_left _ (List.mem_append_left _ (List.mem_append_left _ (List.mem_append_right _ h)))
theorem inX1 : ∀ w ∈ wsX10, w ∈ lw_tbl := fun w h => wsL_law_in w (inlX1 w h)
theorem inlX2 : ∀ w ∈ wsX20, w ∈ wsL_law := fun _ h => List.mem_append_left _ (List.mem_append_left _ (List.mem_append_right _ h))
theorem inX2 : ∀ w ∈ wsX20, w ∈ lw_tbl := fun w h => wsL_law_in w (inlX2 w h)
theorem inlX3 : ∀ w ∈ wsX30, w ∈ wsL_law := fun _ h => List.mem_append_left _ (List.mem_append_left _ (List.mem_append_left _ (List.mem_append_left _ (List.mem_append_left _ (List.mem_append_left _ (List.mem_append_left _ (List.mem_append_left _ (List.mem_append_right _ h))))))))
theorem inX3 : ∀ w ∈ wsX30, w ∈ lw_tbl := fun w h => wsL_law_in w (inlX3 w h)
theorem inlX4 : ∀ w ∈ wsX40, w ∈ wsL_law := fun _ h => List.mem_append_left _ (List.mem_append_left _ (List.mem_append_left _ (List.mem_append_left _ (List.mem_append_left _ (List.mem_append_left _ (List.mem_append_right _ h))))))
theorem inX4 : ∀ w ∈ wsX40, w ∈ lw_tbl := fun w h => wsL_law_in w (inlX4 w h)
theorem inlX5 : ∀ w ∈ wsX50, w ∈ wsL_law := fun _ h => List.mem_append_left _ (List.mem_append_left _ (List.mem_append_left _ (List.mem_append_left _ (List.mem_append_left _ (List.mem_append_left _ (List.mem_append_left _ (List.mem_append_right _ h)))))))
theorem inX5 : ∀ w ∈ wsX50, w ∈ lw_tbl := fun w h => wsL_law_in w (inlX5 w h)
theorem inlX6 : ∀ w ∈ wsX60, w ∈ wsL_law := fun _ h => List.mem_append_left _ (List.mem_append_left _ (List.mem_append_left _ (List.mem_append_left _ (List.mem_append_left _ (List.mem_append_right _ h)))))
theorem inX6 : ∀ w ∈ wsX60, w ∈ lw_tbl := fun w h => wsL_law_in w (inlX6 w h)
theorem inlX7 : ∀ w ∈ wsX70, w ∈ wsL_law := fun _ h => List.mem_append_left _ (List.mem_append_right _ h)
theorem inX7 : ∀ w ∈ wsX70, w ∈ lw_tbl := fun w h => wsL_law_in w (inlX7 w h)
theorem inlX8 : ∀ w ∈ wsX80, w ∈ wsL_law := fun _ h => List.mem_append_left _ (List.mem_append_left _ (List.mem_append_left _ (List.mem_append_left _ (List.mem_append_left _ (List.mem_append_left _ (List.mem_append_left _ (List.mem_append_left _ (List.mem_append_left _ (List.mem_append_left _ (List.mem_append_right _ h))))))))))
theorem inX8 : ∀ w ∈ wsX80, w ∈ lw_tbl := fun w h => wsL_law_in w (inlX8 w h)
theorem inlX9 : ∀ w ∈ wsX90, w ∈ wsL_law := fun _ h => List.mem_append_left _ (List.mem_append_left _ (List.mem_append_left _ (List.mem_append_left _ (List.mem_append_left _ (List.mem_append_left _ (List.mem_append_left _ (List.mem_append_left _ (List.mem_append_left _ (List.mem_append_right _ h)))))))))
theorem inX9 : ∀ w ∈ wsX90, w ∈ lw_tbl := fun w h => wsL_law_in w (inlX9 w h)
theorem inJx145de : ∀ w ∈ wsJx145de0, w ∈ lw_tbl := by decide +kernel
theorem inJx9f9b0 : ∀ w ∈ wsJx9f9b00, w ∈ lw_tbl := by decide +kernel
theorem inJ11 : ∀ w ∈ wsJ110, w ∈ lw_tbl := by decide +kernel
theorem inJxb160c : ∀ w ∈ wsJxb160c0, w ∈ lw_tbl := by decide +kernel
theorem inJ6 : ∀ w ∈ wsJ60, w ∈ lw_tbl := by decide +kernel
theorem inJ9 : ∀ w ∈ wsJ90, w ∈ lw_tbl := by decide +kernel
theorem inJ0 : ∀ w ∈ wsJ00, w ∈ lw_tbl := by decide +kernel
theorem inJ1 : ∀ w ∈ wsJ10, w ∈ lw_tbl := by decide +kernel
theorem inJ2 : ∀ w ∈ wsJ20, w ∈ lw_tbl := by decide +kernel
theorem inJ10 : ∀ w ∈ wsJ100, w ∈ lw_tbl := by decide +kernel
theorem inJxfd54e : ∀ w ∈ wsJxfd54e0, w ∈ lw_tbl := by decide +kernel
theorem inJx3cf43 : ∀ w ∈ wsJx3cf430, w ∈ lw_tbl := by decide +kernel
theorem inJ7 : ∀ w ∈ wsJ70, w ∈ lw_tbl := by decide +kernel
theorem inJ3 : ∀ w ∈ wsJ30, w ∈ lw_tbl := by decide +kernel
theorem dX0_init_0 : decode cX0_init 0 = .ok (.aload_n 0, 1) := by decide +kernel
theorem dX0_init_1 : decode cX0_init 1 = .ok (.invokespecial 3, 3) := by decide +kernel
theorem dX0_init_4 : decode cX0_init 4 = .ok (.aload_n 0, 1) := by decide +kernel
theorem dX0_init_5 : decode cX0_init 5 = .ok (.iconst 4, 1) := by decide +kernel
theorem dX0_init_6 : decode cX0_init 6 = .ok (.newarray .int, 2) := by decide +kernel
theorem dX0_init_8 : decode cX0_init 8 = .ok (.putfield 9, 3) := by decide +kernel
theorem dX0_init_11 : decode cX0_init 11 = .ok (.aload_n 0, 1) := by decide +kernel
theorem dX0_init_12 : decode cX0_init 12 = .ok (.iconst 4, 1) := by decide +kernel
theorem dX0_init_13 : decode cX0_init 13 = .ok (.newarray .int, 2) := by decide +kernel
theorem dX0_init_15 : decode cX0_init 15 = .ok (.putfield 15, 3) := by decide +kernel
theorem dX0_init_18 : decode cX0_init 18 = .ok (.aload_n 0, 1) := by decide +kernel
theorem dX0_init_19 : decode cX0_init 19 = .ok (.iconst 5, 1) := by decide +kernel
theorem dX0_init_20 : decode cX0_init 20 = .ok (.newarray .int, 2) := by decide +kernel
theorem dX0_init_22 : decode cX0_init 22 = .ok (.putfield 18, 3) := by decide +kernel
theorem dX0_init_25 : decode cX0_init 25 = .ok (.return_, 1) := by decide +kernel
set_option maxRecDepth 20000 in
theorem ggX0_readFirst_X0_readSounds : GoodIn wsX0_readFirst wsX0_readSounds := goodIn_r _ [6] (by decide +kernel) (by decide +kernel)
set_option maxRecDepth 20000 in
theorem gX0_readFirst_X0_readSounds : GoodIn wsX0_readFirst (va_wsS RX0 21 yX0_readSounds wsX0_readSounds) := goodIn_app (goodIn_of _ (by decide +kernel)) ggX0_readFirst_X0_readSounds
theorem dX0_readFirst_0 : decode cX0_readFirst 0 = .ok (.aload_n 0, 1) := by decide +kernel
theorem dX0_readFirst_1 : decode cX0_readFirst 1 = .ok (.aload_n 1, 1) := by decide +kernel
theorem dX0_readFirst_2 : decode cX0_readFirst 2 = .ok (.iload_n 2, 1) := by decide +kernel
theorem dX0_readFirst_3 : decode cX0_readFirst 3 = .ok (.iload_n 3, 1) := by decide +kernel
theorem dX0_readFirst_4 : decode cX0_readFirst 4 = .ok (.aload_n 0, 1) := by decide +kernel
theorem dX0_readFirst_5 : decode cX0_readFirst 5 = .ok (.getfield 9, 3) := by decide +kernel
theorem dX0_readFirst_8 : decode cX0_readFirst 8 = .ok (.invokestatic 21, 3) := by decide +kernel
theorem dX0_readFirst_11 : decode cX0_readFirst 11 = .ok (.putfield 25, 3) := by decide +kernel
theorem dX0_readFirst_14 : decode cX0_readFirst 14 = .ok (.return_, 1) := by decide +kernel
set_option maxRecDepth 20000 in
theorem ggX0_readSecond_X0_readSounds : GoodIn wsX0_readSecond wsX0_readSounds := goodIn_r _ [6] (by decide +kernel) (by decide +kernel)
set_option maxRecDepth 20000 in
theorem gX0_readSecond_X0_readSounds : GoodIn wsX0_readSecond (va_wsS RX0 21 yX0_readSounds wsX0_readSounds) := goodIn_app (goodIn_of _ (by decide +kernel)) ggX0_readSecond_X0_readSounds
theorem dX0_readSecond_0 : decode cX0_readSecond 0 = .ok (.aload_n 0, 1) := by decide +kernel
theorem dX0_readSecond_1 : decode cX0_readSecond 1 = .ok (.aload_n 1, 1) := by decide +kernel
theorem dX0_readSecond_2 : decode cX0_readSecond 2 = .ok (.iload_n 2, 1) := by decide +kernel
theorem dX0_readSecond_3 : decode cX0_readSecond 3 = .ok (.iload_n 3, 1) := by decide +kernel
theorem dX0_readSecond_4 : decode cX0_readSecond 4 = .ok (.aload_n 0, 1) := by decide +kernel
theorem dX0_readSecond_5 : decode cX0_readSecond 5 = .ok (.getfield 15, 3) := by decide +kernel
theorem dX0_readSecond_8 : decode cX0_readSecond 8 = .ok (.invokestatic 21, 3) := by decide +kernel
theorem dX0_readSecond_11 : decode cX0_readSecond 11 = .ok (.putfield 29, 3) := by decide +kernel
theorem dX0_readSecond_14 : decode cX0_readSecond 14 = .ok (.return_, 1) := by decide +kernel
set_option maxRecDepth 20000 in
theorem ggX0_leastCost_X8_costOf : GoodIn wsX0_leastCost wsX8_costOf := goodIn_r _ [12, 13] (by decide +kernel) (by decide +kernel)
set_option maxRecDepth 20000 in
theorem gX0_leastCost_X8_costOf_n32 : GoodIn wsX0_leastCost (wsX8_costOf) := ggX0_leastCost_X8_costOf
theorem dX0_leastCost_0 : decode cX0_leastCost 0 = .ok (.iconst 0, 1) := by decide +kernel
theorem dX0_leastCost_1 : decode cX0_leastCost 1 = .ok (.istore_n 1, 1) := by decide +kernel
theorem dX0_leastCost_2 : decode cX0_leastCost 2 = .ok (.iload_n 1, 1) := by decide +kernel
theorem dX0_leastCost_3 : decode cX0_leastCost 3 = .ok (.aload_n 0, 1) := by decide +kernel
theorem dX0_leastCost_4 : decode cX0_leastCost 4 = .ok (.getfield 29, 3) := by decide +kernel
theorem dX0_leastCost_7 : decode cX0_leastCost 7 = .ok (.if_icmp .gt 18, 3) := by decide +kernel
theorem dX0_leastCost_10 : decode cX0_leastCost 10 = .ok (.aload_n 0, 1) := by decide +kernel
theorem dX0_leastCost_11 : decode cX0_leastCost 11 = .ok (.getfield 18, 3) := by decide +kernel
theorem dX0_leastCost_14 : decode cX0_leastCost 14 = .ok (.iload_n 1, 1) := by decide +kernel
theorem dX0_leastCost_15 : decode cX0_leastCost 15 = .ok (.iload_n 1, 1) := by decide +kernel
theorem dX0_leastCost_16 : decode cX0_leastCost 16 = .ok (.iconst 3, 1) := by decide +kernel
theorem dX0_leastCost_17 : decode cX0_leastCost 17 = .ok (.imul, 1) := by decide +kernel
theorem dX0_leastCost_18 : decode cX0_leastCost 18 = .ok (.iastore, 1) := by decide +kernel
theorem dX0_leastCost_19 : decode cX0_leastCost 19 = .ok (.iinc 1 1, 3) := by decide +kernel
theorem dX0_leastCost_22 : decode cX0_leastCost 22 = .ok (.goto (-20), 3) := by decide +kernel
theorem dX0_leastCost_25 : decode cX0_leastCost 25 = .ok (.iconst 0, 1) := by decide +kernel
theorem dX0_leastCost_26 : decode cX0_leastCost 26 = .ok (.istore_n 1, 1) := by decide +kernel
theorem dX0_leastCost_27 : decode cX0_leastCost 27 = .ok (.iload_n 1, 1) := by decide +kernel
theorem dX0_leastCost_28 : decode cX0_leastCost 28 = .ok (.aload_n 0, 1) := by decide +kernel
theorem dX0_leastCost_29 : decode cX0_leastCost 29 = .ok (.getfield 25, 3) := by decide +kernel
theorem dX0_leastCost_32 : decode cX0_leastCost 32 = .ok (.if_icmp .ge 104, 3) := by decide +kernel
theorem dX0_leastCost_35 : decode cX0_leastCost 35 = .ok (.aload_n 0, 1) := by decide +kernel
theorem dX0_leastCost_36 : decode cX0_leastCost 36 = .ok (.getfield 18, 3) := by decide +kernel
theorem dX0_leastCost_39 : decode cX0_leastCost 39 = .ok (.iconst 0, 1) := by decide +kernel
theorem dX0_leastCost_40 : decode cX0_leastCost 40 = .ok (.iaload, 1) := by decide +kernel
theorem dX0_leastCost_41 : decode cX0_leastCost 41 = .ok (.istore_n 2, 1) := by decide +kernel
theorem dX0_leastCost_42 : decode cX0_leastCost 42 = .ok (.aload_n 0, 1) := by decide +kernel
theorem dX0_leastCost_43 : decode cX0_leastCost 43 = .ok (.getfield 18, 3) := by decide +kernel
theorem dX0_leastCost_46 : decode cX0_leastCost 46 = .ok (.iconst 0, 1) := by decide +kernel
theorem dX0_leastCost_47 : decode cX0_leastCost 47 = .ok (.dup2, 1) := by decide +kernel
theorem dX0_leastCost_48 : decode cX0_leastCost 48 = .ok (.iaload, 1) := by decide +kernel
theorem dX0_leastCost_49 : decode cX0_leastCost 49 = .ok (.iconst 3, 1) := by decide +kernel
theorem dX0_leastCost_50 : decode cX0_leastCost 50 = .ok (.iadd, 1) := by decide +kernel
theorem dX0_leastCost_51 : decode cX0_leastCost 51 = .ok (.iastore, 1) := by decide +kernel
theorem dX0_leastCost_52 : decode cX0_leastCost 52 = .ok (.iconst 1, 1) := by decide +kernel
theorem dX0_leastCost_53 : decode cX0_leastCost 53 = .ok (.istore_n 3, 1) := by decide +kernel
theorem dX0_leastCost_54 : decode cX0_leastCost 54 = .ok (.iload_n 3, 1) := by decide +kernel
theorem dX0_leastCost_55 : decode cX0_leastCost 55 = .ok (.aload_n 0, 1) := by decide +kernel
theorem dX0_leastCost_56 : decode cX0_leastCost 56 = .ok (.getfield 29, 3) := by decide +kernel
theorem dX0_leastCost_59 : decode cX0_leastCost 59 = .ok (.if_icmp .gt 71, 3) := by decide +kernel
theorem dX0_leastCost_62 : decode cX0_leastCost 62 = .ok (.iload_n 2, 1) := by decide +kernel
theorem dX0_leastCost_63 : decode cX0_leastCost 63 = .ok (.aload_n 0, 1) := by decide +kernel
theorem dX0_leastCost_64 : decode cX0_leastCost 64 = .ok (.getfield 9, 3) := by decide +kernel
theorem dX0_leastCost_67 : decode cX0_leastCost 67 = .ok (.iload_n 1, 1) := by decide +kernel
theorem dX0_leastCost_68 : decode cX0_leastCost 68 = .ok (.iaload, 1) := by decide +kernel
theorem dX0_leastCost_69 : decode cX0_leastCost 69 = .ok (.aload_n 0, 1) := by decide +kernel
theorem dX0_leastCost_70 : decode cX0_leastCost 70 = .ok (.getfield 15, 3) := by decide +kernel
theorem dX0_leastCost_73 : decode cX0_leastCost 73 = .ok (.iload_n 3, 1) := by decide +kernel
theorem dX0_leastCost_74 : decode cX0_leastCost 74 = .ok (.iconst 1, 1) := by decide +kernel
theorem dX0_leastCost_75 : decode cX0_leastCost 75 = .ok (.isub, 1) := by decide +kernel
theorem dX0_leastCost_76 : decode cX0_leastCost 76 = .ok (.iaload, 1) := by decide +kernel
theorem dX0_leastCost_77 : decode cX0_leastCost 77 = .ok (.invokestatic 32, 3) := by decide +kernel
theorem dX0_leastCost_80 : decode cX0_leastCost 80 = .ok (.iadd, 1) := by decide +kernel
theorem dX0_leastCost_81 : decode cX0_leastCost 81 = .ok (.istore 4, 2) := by decide +kernel
theorem dX0_leastCost_83 : decode cX0_leastCost 83 = .ok (.aload_n 0, 1) := by decide +kernel
theorem dX0_leastCost_84 : decode cX0_leastCost 84 = .ok (.getfield 18, 3) := by decide +kernel
theorem dX0_leastCost_87 : decode cX0_leastCost 87 = .ok (.iload_n 3, 1) := by decide +kernel
theorem dX0_leastCost_88 : decode cX0_leastCost 88 = .ok (.iaload, 1) := by decide +kernel
theorem dX0_leastCost_89 : decode cX0_leastCost 89 = .ok (.aload_n 0, 1) := by decide +kernel
theorem dX0_leastCost_90 : decode cX0_leastCost 90 = .ok (.getfield 18, 3) := by decide +kernel
theorem dX0_leastCost_93 : decode cX0_leastCost 93 = .ok (.iload_n 3, 1) := by decide +kernel
theorem dX0_leastCost_94 : decode cX0_leastCost 94 = .ok (.iconst 1, 1) := by decide +kernel
theorem dX0_leastCost_95 : decode cX0_leastCost 95 = .ok (.isub, 1) := by decide +kernel
theorem dX0_leastCost_96 : decode cX0_leastCost 96 = .ok (.iaload, 1) := by decide +kernel
theorem dX0_leastCost_97 : decode cX0_leastCost 97 = .ok (.invokestatic 36, 3) := by decide +kernel
theorem dX0_leastCost_100 : decode cX0_leastCost 100 = .ok (.iconst 3, 1) := by decide +kernel
theorem dX0_leastCost_101 : decode cX0_leastCost 101 = .ok (.iadd, 1) := by decide +kernel
theorem dX0_leastCost_102 : decode cX0_leastCost 102 = .ok (.istore 5, 2) := by decide +kernel
theorem dX0_leastCost_104 : decode cX0_leastCost 104 = .ok (.aload_n 0, 1) := by decide +kernel
theorem dX0_leastCost_105 : decode cX0_leastCost 105 = .ok (.getfield 18, 3) := by decide +kernel
theorem dX0_leastCost_108 : decode cX0_leastCost 108 = .ok (.iload_n 3, 1) := by decide +kernel
theorem dX0_leastCost_109 : decode cX0_leastCost 109 = .ok (.iaload, 1) := by decide +kernel
theorem dX0_leastCost_110 : decode cX0_leastCost 110 = .ok (.istore_n 2, 1) := by decide +kernel
theorem dX0_leastCost_111 : decode cX0_leastCost 111 = .ok (.aload_n 0, 1) := by decide +kernel
theorem dX0_leastCost_112 : decode cX0_leastCost 112 = .ok (.getfield 18, 3) := by decide +kernel
theorem dX0_leastCost_115 : decode cX0_leastCost 115 = .ok (.iload_n 3, 1) := by decide +kernel
theorem dX0_leastCost_116 : decode cX0_leastCost 116 = .ok (.iload 4, 2) := by decide +kernel
theorem dX0_leastCost_118 : decode cX0_leastCost 118 = .ok (.iload 5, 2) := by decide +kernel
theorem dX0_leastCost_120 : decode cX0_leastCost 120 = .ok (.invokestatic 36, 3) := by decide +kernel
theorem dX0_leastCost_123 : decode cX0_leastCost 123 = .ok (.iastore, 1) := by decide +kernel
theorem dX0_leastCost_124 : decode cX0_leastCost 124 = .ok (.iinc 3 1, 3) := by decide +kernel
theorem dX0_leastCost_127 : decode cX0_leastCost 127 = .ok (.goto (-73), 3) := by decide +kernel
theorem dX0_leastCost_130 : decode cX0_leastCost 130 = .ok (.iinc 1 1, 3) := by decide +kernel
theorem dX0_leastCost_133 : decode cX0_leastCost 133 = .ok (.goto (-106), 3) := by decide +kernel
theorem dX0_leastCost_136 : decode cX0_leastCost 136 = .ok (.aload_n 0, 1) := by decide +kernel
theorem dX0_leastCost_137 : decode cX0_leastCost 137 = .ok (.getfield 18, 3) := by decide +kernel
theorem dX0_leastCost_140 : decode cX0_leastCost 140 = .ok (.aload_n 0, 1) := by decide +kernel
theorem dX0_leastCost_141 : decode cX0_leastCost 141 = .ok (.getfield 29, 3) := by decide +kernel
theorem dX0_leastCost_144 : decode cX0_leastCost 144 = .ok (.iaload, 1) := by decide +kernel
theorem dX0_leastCost_145 : decode cX0_leastCost 145 = .ok (.ireturn, 1) := by decide +kernel
theorem dX0_readSounds_0 : decode cX0_readSounds 0 = .ok (.iconst 0, 1) := by decide +kernel
theorem dX0_readSounds_1 : decode cX0_readSounds 1 = .ok (.istore 4, 2) := by decide +kernel
theorem dX0_readSounds_3 : decode cX0_readSounds 3 = .ok (.iconst 0, 1) := by decide +kernel
theorem dX0_readSounds_4 : decode cX0_readSounds 4 = .ok (.istore 5, 2) := by decide +kernel
theorem dX0_readSounds_6 : decode cX0_readSounds 6 = .ok (.iload 5, 2) := by decide +kernel
theorem dX0_readSounds_8 : decode cX0_readSounds 8 = .ok (.iload_n 2, 1) := by decide +kernel
theorem dX0_readSounds_9 : decode cX0_readSounds 9 = .ok (.if_icmp .ge 31, 3) := by decide +kernel
theorem dX0_readSounds_12 : decode cX0_readSounds 12 = .ok (.aload_n 0, 1) := by decide +kernel
theorem dX0_readSounds_13 : decode cX0_readSounds 13 = .ok (.iload_n 1, 1) := by decide +kernel
theorem dX0_readSounds_14 : decode cX0_readSounds 14 = .ok (.iload 5, 2) := by decide +kernel
theorem dX0_readSounds_16 : decode cX0_readSounds 16 = .ok (.iadd, 1) := by decide +kernel
theorem dX0_readSounds_17 : decode cX0_readSounds 17 = .ok (.iaload, 1) := by decide +kernel
theorem dX0_readSounds_18 : decode cX0_readSounds 18 = .ok (.istore 6, 2) := by decide +kernel
theorem dX0_readSounds_20 : decode cX0_readSounds 20 = .ok (.iload 6, 2) := by decide +kernel
theorem dX0_readSounds_22 : decode cX0_readSounds 22 = .ok (.ifCond .eq 12, 3) := by decide +kernel
theorem dX0_readSounds_25 : decode cX0_readSounds 25 = .ok (.aload_n 3, 1) := by decide +kernel
theorem dX0_readSounds_26 : decode cX0_readSounds 26 = .ok (.iload 4, 2) := by decide +kernel
theorem dX0_readSounds_28 : decode cX0_readSounds 28 = .ok (.iload 6, 2) := by decide +kernel
theorem dX0_readSounds_30 : decode cX0_readSounds 30 = .ok (.iastore, 1) := by decide +kernel
theorem dX0_readSounds_31 : decode cX0_readSounds 31 = .ok (.iinc 4 1, 3) := by decide +kernel
theorem dX0_readSounds_34 : decode cX0_readSounds 34 = .ok (.iinc 5 1, 3) := by decide +kernel
theorem dX0_readSounds_37 : decode cX0_readSounds 37 = .ok (.goto (-31), 3) := by decide +kernel
theorem dX0_readSounds_40 : decode cX0_readSounds 40 = .ok (.iload 4, 2) := by decide +kernel
theorem dX0_readSounds_42 : decode cX0_readSounds 42 = .ok (.ireturn, 1) := by decide +kernel
set_option maxRecDepth 20000 in
theorem ggX1_init_X7_init : GoodIn wsX1_init wsX7_init := goodIn_r _ [9, 10, 2, 3, 11, 12, 13, 14, 15, 16] (by decide +kernel) (by decide +kernel)
set_option maxRecDepth 20000 in
theorem gX1_init_X7_init_n11 : GoodIn wsX1_init (wsX7_init) := ggX1_init_X7_init
theorem dX1_init_0 : decode cX1_init 0 = .ok (.aload_n 0, 1) := by decide +kernel
theorem dX1_init_1 : decode cX1_init 1 = .ok (.invokespecial 3, 3) := by decide +kernel
theorem dX1_init_4 : decode cX1_init 4 = .ok (.aload_n 0, 1) := by decide +kernel
theorem dX1_init_5 : decode cX1_init 5 = .ok (.new 9, 3) := by decide +kernel
theorem dX1_init_8 : decode cX1_init 8 = .ok (.dup, 1) := by decide +kernel
theorem dX1_init_9 : decode cX1_init 9 = .ok (.invokespecial 11, 3) := by decide +kernel
theorem dX1_init_12 : decode cX1_init 12 = .ok (.putfield 12, 3) := by decide +kernel
theorem dX1_init_15 : decode cX1_init 15 = .ok (.return_, 1) := by decide +kernel
set_option maxRecDepth 20000 in
theorem ggX1_drawSets_X7_plant : GoodIn wsX1_drawSets wsX7_plant := goodIn_r _ [10, 11, 50, 51, 52] (by decide +kernel) (by decide +kernel)
set_option maxRecDepth 20000 in
theorem gX1_drawSets_X7_plant : GoodIn wsX1_drawSets (wsV RX1 28 RX7 yX7_plant wsX7_plant) := goodIn_app (goodIn_of _ (by decide +kernel)) ggX1_drawSets_X7_plant
set_option maxRecDepth 20000 in
theorem ggX1_drawSets_X1_drawSound : GoodIn wsX1_drawSets wsX1_drawSound := goodIn_r _ [16, 17, 1, 18, 19, 20, 46, 47, 48, 49] (by decide +kernel) (by decide +kernel)
set_option maxRecDepth 20000 in
theorem gX1_drawSets_X1_drawSound : GoodIn wsX1_drawSets (wsV RX1 36 RX1 yX1_drawSound wsX1_drawSound) := goodIn_app (goodIn_of _ (by decide +kernel)) ggX1_drawSets_X1_drawSound
set_option maxRecDepth 20000 in
theorem ggX1_drawSets_X7_climb : GoodIn wsX1_drawSets wsX7_climb := goodIn_r _ [24, 11, 25, 26, 27, 28, 29, 30, 31, 32, 9, 33, 34, 35, 36, 37, 50, 51, 52] (by decide +kernel) (by decide +kernel)
set_option maxRecDepth 20000 in
theorem gX1_drawSets_X7_climb : GoodIn wsX1_drawSets (wsV RX1 40 RX7 yX7_climb wsX7_climb) := goodIn_app (goodIn_of _ (by decide +kernel)) ggX1_drawSets_X7_climb
set_option maxRecDepth 20000 in
theorem ggX1_drawSets_X7_root : GoodIn wsX1_drawSets wsX7_root := goodIn_r _ [41, 11, 27, 28, 29, 50, 51, 52] (by decide +kernel) (by decide +kernel)
set_option maxRecDepth 20000 in
theorem gX1_drawSets_X7_root : GoodIn wsX1_drawSets (wsV RX1 43 RX7 yX7_root wsX7_root) := goodIn_app (goodIn_of _ (by decide +kernel)) ggX1_drawSets_X7_root
set_option maxRecDepth 20000 in
theorem ggX1_drawSets_X1_isForeign : GoodIn wsX1_drawSets wsX1_isForeign := goodIn_r _ [45, 4, 5, 46, 47, 48, 49, 50, 51, 52] (by decide +kernel) (by decide +kernel)
set_option maxRecDepth 20000 in
theorem gX1_drawSets_X1_isForeign : GoodIn wsX1_drawSets (wsV RX1 46 RX1 yX1_isForeign wsX1_isForeign) := goodIn_app (goodIn_of _ (by decide +kernel)) ggX1_drawSets_X1_isForeign
theorem dX1_drawSets_0 : decode cX1_drawSets 0 = .ok (.aload_n 0, 1) := by decide +kernel
theorem dX1_drawSets_1 : decode cX1_drawSets 1 = .ok (.iload_n 2, 1) := by decide +kernel
theorem dX1_drawSets_2 : decode cX1_drawSets 2 = .ok (.putfield 18, 3) := by decide +kernel
theorem dX1_drawSets_5 : decode cX1_drawSets 5 = .ok (.aload_n 0, 1) := by decide +kernel
theorem dX1_drawSets_6 : decode cX1_drawSets 6 = .ok (.iconst 0, 1) := by decide +kernel
theorem dX1_drawSets_7 : decode cX1_drawSets 7 = .ok (.putfield 22, 3) := by decide +kernel
theorem dX1_drawSets_10 : decode cX1_drawSets 10 = .ok (.aload_n 0, 1) := by decide +kernel
theorem dX1_drawSets_11 : decode cX1_drawSets 11 = .ok (.iconst 0, 1) := by decide +kernel
theorem dX1_drawSets_12 : decode cX1_drawSets 12 = .ok (.putfield 25, 3) := by decide +kernel
theorem dX1_drawSets_15 : decode cX1_drawSets 15 = .ok (.aload_n 0, 1) := by decide +kernel
theorem dX1_drawSets_16 : decode cX1_drawSets 16 = .ok (.getfield 12, 3) := by decide +kernel
theorem dX1_drawSets_19 : decode cX1_drawSets 19 = .ok (.iconst 4, 1) := by decide +kernel
theorem dX1_drawSets_20 : decode cX1_drawSets 20 = .ok (.invokevirtual 28, 3) := by decide +kernel
theorem dX1_drawSets_23 : decode cX1_drawSets 23 = .ok (.iconst 0, 1) := by decide +kernel
theorem dX1_drawSets_24 : decode cX1_drawSets 24 = .ok (.istore_n 3, 1) := by decide +kernel
theorem dX1_drawSets_25 : decode cX1_drawSets 25 = .ok (.iload_n 3, 1) := by decide +kernel
theorem dX1_drawSets_26 : decode cX1_drawSets 26 = .ok (.iload_n 1, 1) := by decide +kernel
theorem dX1_drawSets_27 : decode cX1_drawSets 27 = .ok (.if_icmp .ge 86, 3) := by decide +kernel
theorem dX1_drawSets_30 : decode cX1_drawSets 30 = .ok (.iconst 0, 1) := by decide +kernel
theorem dX1_drawSets_31 : decode cX1_drawSets 31 = .ok (.istore 4, 2) := by decide +kernel
theorem dX1_drawSets_33 : decode cX1_drawSets 33 = .ok (.iload 4, 2) := by decide +kernel
theorem dX1_drawSets_35 : decode cX1_drawSets 35 = .ok (.iconst 4, 1) := by decide +kernel
theorem dX1_drawSets_36 : decode cX1_drawSets 36 = .ok (.if_icmp .ge 23, 3) := by decide +kernel
theorem dX1_drawSets_39 : decode cX1_drawSets 39 = .ok (.aload_n 0, 1) := by decide +kernel
theorem dX1_drawSets_40 : decode cX1_drawSets 40 = .ok (.getfield 12, 3) := by decide +kernel
theorem dX1_drawSets_43 : decode cX1_drawSets 43 = .ok (.getfield 32, 3) := by decide +kernel
theorem dX1_drawSets_46 : decode cX1_drawSets 46 = .ok (.iload 4, 2) := by decide +kernel
theorem dX1_drawSets_48 : decode cX1_drawSets 48 = .ok (.aload_n 0, 1) := by decide +kernel
theorem dX1_drawSets_49 : decode cX1_drawSets 49 = .ok (.invokevirtual 36, 3) := by decide +kernel
theorem dX1_drawSets_52 : decode cX1_drawSets 52 = .ok (.iastore, 1) := by decide +kernel
theorem dX1_drawSets_53 : decode cX1_drawSets 53 = .ok (.iinc 4 1, 3) := by decide +kernel
theorem dX1_drawSets_56 : decode cX1_drawSets 56 = .ok (.goto (-23), 3) := by decide +kernel
theorem dX1_drawSets_59 : decode cX1_drawSets 59 = .ok (.aload_n 0, 1) := by decide +kernel
theorem dX1_drawSets_60 : decode cX1_drawSets 60 = .ok (.dup, 1) := by decide +kernel
theorem dX1_drawSets_61 : decode cX1_drawSets 61 = .ok (.getfield 22, 3) := by decide +kernel
theorem dX1_drawSets_64 : decode cX1_drawSets 64 = .ok (.aload_n 0, 1) := by decide +kernel
theorem dX1_drawSets_65 : decode cX1_drawSets 65 = .ok (.getfield 12, 3) := by decide +kernel
theorem dX1_drawSets_68 : decode cX1_drawSets 68 = .ok (.invokevirtual 40, 3) := by decide +kernel
theorem dX1_drawSets_71 : decode cX1_drawSets 71 = .ok (.iadd, 1) := by decide +kernel
theorem dX1_drawSets_72 : decode cX1_drawSets 72 = .ok (.putfield 22, 3) := by decide +kernel
theorem dX1_drawSets_75 : decode cX1_drawSets 75 = .ok (.aload_n 0, 1) := by decide +kernel
theorem dX1_drawSets_76 : decode cX1_drawSets 76 = .ok (.aload_n 0, 1) := by decide +kernel
theorem dX1_drawSets_77 : decode cX1_drawSets 77 = .ok (.getfield 12, 3) := by decide +kernel
theorem dX1_drawSets_80 : decode cX1_drawSets 80 = .ok (.getfield 32, 3) := by decide +kernel
theorem dX1_drawSets_83 : decode cX1_drawSets 83 = .ok (.aload_n 0, 1) := by decide +kernel
theorem dX1_drawSets_84 : decode cX1_drawSets 84 = .ok (.getfield 12, 3) := by decide +kernel
theorem dX1_drawSets_87 : decode cX1_drawSets 87 = .ok (.invokevirtual 43, 3) := by decide +kernel
theorem dX1_drawSets_90 : decode cX1_drawSets 90 = .ok (.iaload, 1) := by decide +kernel
theorem dX1_drawSets_91 : decode cX1_drawSets 91 = .ok (.invokevirtual 46, 3) := by decide +kernel
theorem dX1_drawSets_94 : decode cX1_drawSets 94 = .ok (.ifCond .eq 13, 3) := by decide +kernel
theorem dX1_drawSets_97 : decode cX1_drawSets 97 = .ok (.aload_n 0, 1) := by decide +kernel
theorem dX1_drawSets_98 : decode cX1_drawSets 98 = .ok (.dup, 1) := by decide +kernel
theorem dX1_drawSets_99 : decode cX1_drawSets 99 = .ok (.getfield 25, 3) := by decide +kernel
theorem dX1_drawSets_102 : decode cX1_drawSets 102 = .ok (.iconst 1, 1) := by decide +kernel
theorem dX1_drawSets_103 : decode cX1_drawSets 103 = .ok (.iadd, 1) := by decide +kernel
theorem dX1_drawSets_104 : decode cX1_drawSets 104 = .ok (.putfield 25, 3) := by decide +kernel
theorem dX1_drawSets_107 : decode cX1_drawSets 107 = .ok (.iinc 3 1, 3) := by decide +kernel
theorem dX1_drawSets_110 : decode cX1_drawSets 110 = .ok (.goto (-85), 3) := by decide +kernel
theorem dX1_drawSets_113 : decode cX1_drawSets 113 = .ok (.return_, 1) := by decide +kernel
theorem dX1_drawSound_0 : decode cX1_drawSound 0 = .ok (.aload_n 0, 1) := by decide +kernel
theorem dX1_drawSound_1 : decode cX1_drawSound 1 = .ok (.ldc2_w 50, 3) := by decide +kernel
theorem dX1_drawSound_4 : decode cX1_drawSound 4 = .ok (.aload_n 0, 1) := by decide +kernel
theorem dX1_drawSound_5 : decode cX1_drawSound 5 = .ok (.getfield 18, 3) := by decide +kernel
theorem dX1_drawSound_8 : decode cX1_drawSound 8 = .ok (.i2l, 1) := by decide +kernel
theorem dX1_drawSound_9 : decode cX1_drawSound 9 = .ok (.lmul, 1) := by decide +kernel
theorem dX1_drawSound_10 : decode cX1_drawSound 10 = .ok (.ldc2_w 52, 3) := by decide +kernel
theorem dX1_drawSound_13 : decode cX1_drawSound 13 = .ok (.ladd, 1) := by decide +kernel
theorem dX1_drawSound_14 : decode cX1_drawSound 14 = .ok (.ldc2_w 54, 3) := by decide +kernel
theorem dX1_drawSound_17 : decode cX1_drawSound 17 = .ok (.lrem, 1) := by decide +kernel
theorem dX1_drawSound_18 : decode cX1_drawSound 18 = .ok (.l2i, 1) := by decide +kernel
theorem dX1_drawSound_19 : decode cX1_drawSound 19 = .ok (.putfield 18, 3) := by decide +kernel
theorem dX1_drawSound_22 : decode cX1_drawSound 22 = .ok (.aload_n 0, 1) := by decide +kernel
theorem dX1_drawSound_23 : decode cX1_drawSound 23 = .ok (.getfield 18, 3) := by decide +kernel
theorem dX1_drawSound_26 : decode cX1_drawSound 26 = .ok (.ldc 56, 2) := by decide +kernel
theorem dX1_drawSound_28 : decode cX1_drawSound 28 = .ok (.idiv, 1) := by decide +kernel
theorem dX1_drawSound_29 : decode cX1_drawSound 29 = .ok (.bipush 9, 2) := by decide +kernel
theorem dX1_drawSound_31 : decode cX1_drawSound 31 = .ok (.irem, 1) := by decide +kernel
theorem dX1_drawSound_32 : decode cX1_drawSound 32 = .ok (.ireturn, 1) := by decide +kernel
theorem dX1_isForeign_0 : decode cX1_isForeign 0 = .ok (.iconst 0, 1) := by decide +kernel
theorem dX1_isForeign_1 : decode cX1_isForeign 1 = .ok (.istore_n 2, 1) := by decide +kernel
theorem dX1_isForeign_2 : decode cX1_isForeign 2 = .ok (.iload_n 2, 1) := by decide +kernel
theorem dX1_isForeign_3 : decode cX1_isForeign 3 = .ok (.iconst 4, 1) := by decide +kernel
theorem dX1_isForeign_4 : decode cX1_isForeign 4 = .ok (.if_icmp .ge 24, 3) := by decide +kernel
theorem dX1_isForeign_7 : decode cX1_isForeign 7 = .ok (.aload_n 0, 1) := by decide +kernel
theorem dX1_isForeign_8 : decode cX1_isForeign 8 = .ok (.getfield 12, 3) := by decide +kernel
theorem dX1_isForeign_11 : decode cX1_isForeign 11 = .ok (.getfield 32, 3) := by decide +kernel
theorem dX1_isForeign_14 : decode cX1_isForeign 14 = .ok (.iload_n 2, 1) := by decide +kernel
theorem dX1_isForeign_15 : decode cX1_isForeign 15 = .ok (.iaload, 1) := by decide +kernel
theorem dX1_isForeign_16 : decode cX1_isForeign 16 = .ok (.iload_n 1, 1) := by decide +kernel
theorem dX1_isForeign_17 : decode cX1_isForeign 17 = .ok (.if_icmp .ne 5, 3) := by decide +kernel
theorem dX1_isForeign_20 : decode cX1_isForeign 20 = .ok (.iconst 0, 1) := by decide +kernel
theorem dX1_isForeign_21 : decode cX1_isForeign 21 = .ok (.ireturn, 1) := by decide +kernel
theorem dX1_isForeign_22 : decode cX1_isForeign 22 = .ok (.iinc 2 1, 3) := by decide +kernel
theorem dX1_isForeign_25 : decode cX1_isForeign 25 = .ok (.goto (-23), 3) := by decide +kernel
theorem dX1_isForeign_28 : decode cX1_isForeign 28 = .ok (.iconst 1, 1) := by decide +kernel
theorem dX1_isForeign_29 : decode cX1_isForeign 29 = .ok (.ireturn, 1) := by decide +kernel
theorem dX2_init_0 : decode cX2_init 0 = .ok (.aload_n 0, 1) := by decide +kernel
theorem dX2_init_1 : decode cX2_init 1 = .ok (.invokespecial 3, 3) := by decide +kernel
theorem dX2_init_4 : decode cX2_init 4 = .ok (.aload_n 0, 1) := by decide +kernel
theorem dX2_init_5 : decode cX2_init 5 = .ok (.bipush 72, 2) := by decide +kernel
theorem dX2_init_7 : decode cX2_init 7 = .ok (.newarray .int, 2) := by decide +kernel
theorem dX2_init_9 : decode cX2_init 9 = .ok (.putfield 9, 3) := by decide +kernel
theorem dX2_init_12 : decode cX2_init 12 = .ok (.aload_n 0, 1) := by decide +kernel
theorem dX2_init_13 : decode cX2_init 13 = .ok (.bipush 72, 2) := by decide +kernel
theorem dX2_init_15 : decode cX2_init 15 = .ok (.newarray .int, 2) := by decide +kernel
theorem dX2_init_17 : decode cX2_init 17 = .ok (.putfield 15, 3) := by decide +kernel
theorem dX2_init_20 : decode cX2_init 20 = .ok (.aload_n 0, 1) := by decide +kernel
theorem dX2_init_21 : decode cX2_init 21 = .ok (.bipush 72, 2) := by decide +kernel
theorem dX2_init_23 : decode cX2_init 23 = .ok (.newarray .int, 2) := by decide +kernel
theorem dX2_init_25 : decode cX2_init 25 = .ok (.putfield 18, 3) := by decide +kernel
theorem dX2_init_28 : decode cX2_init 28 = .ok (.aload_n 0, 1) := by decide +kernel
theorem dX2_init_29 : decode cX2_init 29 = .ok (.sipush 648, 3) := by decide +kernel
theorem dX2_init_32 : decode cX2_init 32 = .ok (.newarray .int, 2) := by decide +kernel
theorem dX2_init_34 : decode cX2_init 34 = .ok (.putfield 21, 3) := by decide +kernel
theorem dX2_init_37 : decode cX2_init 37 = .ok (.return_, 1) := by decide +kernel
set_option maxRecDepth 20000 in
theorem ggX2_clear_J7_fill_53178 : GoodIn wsX2_clear wsJ7_fill_53178 := goodIn_r _ [5] (by decide +kernel) (by decide +kernel)
set_option maxRecDepth 20000 in
theorem gX2_clear_J7_fill_53178 : GoodIn wsX2_clear (va_wsS RX2 24 yJ7_fill_53178 wsJ7_fill_53178) := goodIn_app (goodIn_of _ (by decide +kernel)) ggX2_clear_J7_fill_53178
theorem dX2_clear_0 : decode cX2_clear 0 = .ok (.aload_n 0, 1) := by decide +kernel
theorem dX2_clear_1 : decode cX2_clear 1 = .ok (.getfield 21, 3) := by decide +kernel
theorem dX2_clear_4 : decode cX2_clear 4 = .ok (.iconst 0, 1) := by decide +kernel
theorem dX2_clear_5 : decode cX2_clear 5 = .ok (.invokestatic 24, 3) := by decide +kernel
theorem dX2_clear_8 : decode cX2_clear 8 = .ok (.return_, 1) := by decide +kernel
theorem dX2_weigh_0 : decode cX2_weigh 0 = .ok (.aload_n 0, 1) := by decide +kernel
theorem dX2_weigh_1 : decode cX2_weigh 1 = .ok (.getfield 21, 3) := by decide +kernel
theorem dX2_weigh_4 : decode cX2_weigh 4 = .ok (.iload_n 1, 1) := by decide +kernel
theorem dX2_weigh_5 : decode cX2_weigh 5 = .ok (.bipush 9, 2) := by decide +kernel
theorem dX2_weigh_7 : decode cX2_weigh 7 = .ok (.imul, 1) := by decide +kernel
theorem dX2_weigh_8 : decode cX2_weigh 8 = .ok (.iload_n 2, 1) := by decide +kernel
theorem dX2_weigh_9 : decode cX2_weigh 9 = .ok (.iadd, 1) := by decide +kernel
theorem dX2_weigh_10 : decode cX2_weigh 10 = .ok (.dup2, 1) := by decide +kernel
theorem dX2_weigh_11 : decode cX2_weigh 11 = .ok (.iaload, 1) := by decide +kernel
theorem dX2_weigh_12 : decode cX2_weigh 12 = .ok (.iload_n 3, 1) := by decide +kernel
theorem dX2_weigh_13 : decode cX2_weigh 13 = .ok (.iadd, 1) := by decide +kernel
theorem dX2_weigh_14 : decode cX2_weigh 14 = .ok (.iastore, 1) := by decide +kernel
theorem dX2_weigh_15 : decode cX2_weigh 15 = .ok (.return_, 1) := by decide +kernel
theorem dX2_tell_0 : decode cX2_tell 0 = .ok (.iload_n 2, 1) := by decide +kernel
theorem dX2_tell_1 : decode cX2_tell 1 = .ok (.lookupswitch 41 #[(0, 27), (1, 34)], 27) := by decide +kernel
theorem dX2_tell_28 : decode cX2_tell 28 = .ok (.aload_n 0, 1) := by decide +kernel
theorem dX2_tell_29 : decode cX2_tell 29 = .ok (.getfield 9, 3) := by decide +kernel
theorem dX2_tell_32 : decode cX2_tell 32 = .ok (.iload_n 1, 1) := by decide +kernel
theorem dX2_tell_33 : decode cX2_tell 33 = .ok (.iaload, 1) := by decide +kernel
theorem dX2_tell_34 : decode cX2_tell 34 = .ok (.ireturn, 1) := by decide +kernel
theorem dX2_tell_35 : decode cX2_tell 35 = .ok (.aload_n 0, 1) := by decide +kernel
theorem dX2_tell_36 : decode cX2_tell 36 = .ok (.getfield 15, 3) := by decide +kernel
theorem dX2_tell_39 : decode cX2_tell 39 = .ok (.iload_n 1, 1) := by decide +kernel
theorem dX2_tell_40 : decode cX2_tell 40 = .ok (.iaload, 1) := by decide +kernel
theorem dX2_tell_41 : decode cX2_tell 41 = .ok (.ireturn, 1) := by decide +kernel
theorem dX2_tell_42 : decode cX2_tell 42 = .ok (.aload_n 0, 1) := by decide +kernel
theorem dX2_tell_43 : decode cX2_tell 43 = .ok (.getfield 18, 3) := by decide +kernel
theorem dX2_tell_46 : decode cX2_tell 46 = .ok (.iload_n 1, 1) := by decide +kernel
theorem dX2_tell_47 : decode cX2_tell 47 = .ok (.iaload, 1) := by decide +kernel
theorem dX2_tell_48 : decode cX2_tell 48 = .ok (.ireturn, 1) := by decide +kernel
set_option maxRecDepth 20000 in
theorem ggX2_settle_X2_settleLaw : GoodIn wsX2_settle wsX2_settleLaw := goodIn_r _ [9, 10, 3, 11, 4, 12, 13, 14, 15, 16, 17] (by decide +kernel) (by decide +kernel)
set_option maxRecDepth 20000 in
theorem gX2_settle_X2_settleLaw : GoodIn wsX2_settle (wsV RX2 37 RX2 yX2_settleLaw wsX2_settleLaw) := goodIn_app (goodIn_of _ (by decide +kernel)) ggX2_settle_X2_settleLaw
theorem dX2_settle_0 : decode cX2_settle 0 = .ok (.aload_n 0, 1) := by decide +kernel
theorem dX2_settle_1 : decode cX2_settle 1 = .ok (.iconst 0, 1) := by decide +kernel
theorem dX2_settle_2 : decode cX2_settle 2 = .ok (.putfield 30, 3) := by decide +kernel
theorem dX2_settle_5 : decode cX2_settle 5 = .ok (.aload_n 0, 1) := by decide +kernel
theorem dX2_settle_6 : decode cX2_settle 6 = .ok (.iconst 0, 1) := by decide +kernel
theorem dX2_settle_7 : decode cX2_settle 7 = .ok (.putfield 34, 3) := by decide +kernel
theorem dX2_settle_10 : decode cX2_settle 10 = .ok (.iconst 0, 1) := by decide +kernel
theorem dX2_settle_11 : decode cX2_settle 11 = .ok (.istore_n 2, 1) := by decide +kernel
theorem dX2_settle_12 : decode cX2_settle 12 = .ok (.iload_n 2, 1) := by decide +kernel
theorem dX2_settle_13 : decode cX2_settle 13 = .ok (.iload_n 1, 1) := by decide +kernel
theorem dX2_settle_14 : decode cX2_settle 14 = .ok (.bipush 9, 2) := by decide +kernel
theorem dX2_settle_16 : decode cX2_settle 16 = .ok (.imul, 1) := by decide +kernel
theorem dX2_settle_17 : decode cX2_settle 17 = .ok (.iconst 2, 1) := by decide +kernel
theorem dX2_settle_18 : decode cX2_settle 18 = .ok (.imul, 1) := by decide +kernel
theorem dX2_settle_19 : decode cX2_settle 19 = .ok (.if_icmp .ge 49, 3) := by decide +kernel
theorem dX2_settle_22 : decode cX2_settle 22 = .ok (.aload_n 0, 1) := by decide +kernel
theorem dX2_settle_23 : decode cX2_settle 23 = .ok (.iload_n 2, 1) := by decide +kernel
theorem dX2_settle_24 : decode cX2_settle 24 = .ok (.invokevirtual 37, 3) := by decide +kernel
theorem dX2_settle_27 : decode cX2_settle 27 = .ok (.aload_n 0, 1) := by decide +kernel
theorem dX2_settle_28 : decode cX2_settle 28 = .ok (.getfield 9, 3) := by decide +kernel
theorem dX2_settle_31 : decode cX2_settle 31 = .ok (.iload_n 2, 1) := by decide +kernel
theorem dX2_settle_32 : decode cX2_settle 32 = .ok (.iaload, 1) := by decide +kernel
theorem dX2_settle_33 : decode cX2_settle 33 = .ok (.iconst (-1), 1) := by decide +kernel
theorem dX2_settle_34 : decode cX2_settle 34 = .ok (.if_icmp .eq 13, 3) := by decide +kernel
theorem dX2_settle_37 : decode cX2_settle 37 = .ok (.aload_n 0, 1) := by decide +kernel
theorem dX2_settle_38 : decode cX2_settle 38 = .ok (.dup, 1) := by decide +kernel
theorem dX2_settle_39 : decode cX2_settle 39 = .ok (.getfield 30, 3) := by decide +kernel
theorem dX2_settle_42 : decode cX2_settle 42 = .ok (.iconst 1, 1) := by decide +kernel
theorem dX2_settle_43 : decode cX2_settle 43 = .ok (.iadd, 1) := by decide +kernel
theorem dX2_settle_44 : decode cX2_settle 44 = .ok (.putfield 30, 3) := by decide +kernel
theorem dX2_settle_47 : decode cX2_settle 47 = .ok (.aload_n 0, 1) := by decide +kernel
theorem dX2_settle_48 : decode cX2_settle 48 = .ok (.dup, 1) := by decide +kernel
theorem dX2_settle_49 : decode cX2_settle 49 = .ok (.getfield 34, 3) := by decide +kernel
theorem dX2_settle_52 : decode cX2_settle 52 = .ok (.aload_n 0, 1) := by decide +kernel
theorem dX2_settle_53 : decode cX2_settle 53 = .ok (.getfield 18, 3) := by decide +kernel
theorem dX2_settle_56 : decode cX2_settle 56 = .ok (.iload_n 2, 1) := by decide +kernel
theorem dX2_settle_57 : decode cX2_settle 57 = .ok (.iaload, 1) := by decide +kernel
theorem dX2_settle_58 : decode cX2_settle 58 = .ok (.iadd, 1) := by decide +kernel
theorem dX2_settle_59 : decode cX2_settle 59 = .ok (.putfield 34, 3) := by decide +kernel
theorem dX2_settle_62 : decode cX2_settle 62 = .ok (.iinc 2 1, 3) := by decide +kernel
theorem dX2_settle_65 : decode cX2_settle 65 = .ok (.goto (-53), 3) := by decide +kernel
theorem dX2_settle_68 : decode cX2_settle 68 = .ok (.return_, 1) := by decide +kernel
theorem dX2_settleLaw_0 : decode cX2_settleLaw 0 = .ok (.iconst (-1), 1) := by decide +kernel
theorem dX2_settleLaw_1 : decode cX2_settleLaw 1 = .ok (.istore_n 2, 1) := by decide +kernel
theorem dX2_settleLaw_2 : decode cX2_settleLaw 2 = .ok (.iconst 0, 1) := by decide +kernel
theorem dX2_settleLaw_3 : decode cX2_settleLaw 3 = .ok (.istore_n 3, 1) := by decide +kernel
theorem dX2_settleLaw_4 : decode cX2_settleLaw 4 = .ok (.iconst 0, 1) := by decide +kernel
theorem dX2_settleLaw_5 : decode cX2_settleLaw 5 = .ok (.istore 4, 2) := by decide +kernel
theorem dX2_settleLaw_7 : decode cX2_settleLaw 7 = .ok (.iconst 0, 1) := by decide +kernel
theorem dX2_settleLaw_8 : decode cX2_settleLaw 8 = .ok (.istore 5, 2) := by decide +kernel
theorem dX2_settleLaw_10 : decode cX2_settleLaw 10 = .ok (.iload 5, 2) := by decide +kernel
theorem dX2_settleLaw_12 : decode cX2_settleLaw 12 = .ok (.bipush 9, 2) := by decide +kernel
theorem dX2_settleLaw_14 : decode cX2_settleLaw 14 = .ok (.if_icmp .ge 42, 3) := by decide +kernel
theorem dX2_settleLaw_17 : decode cX2_settleLaw 17 = .ok (.aload_n 0, 1) := by decide +kernel
theorem dX2_settleLaw_18 : decode cX2_settleLaw 18 = .ok (.getfield 21, 3) := by decide +kernel
theorem dX2_settleLaw_21 : decode cX2_settleLaw 21 = .ok (.iload_n 1, 1) := by decide +kernel
theorem dX2_settleLaw_22 : decode cX2_settleLaw 22 = .ok (.bipush 9, 2) := by decide +kernel
theorem dX2_settleLaw_24 : decode cX2_settleLaw 24 = .ok (.imul, 1) := by decide +kernel
theorem dX2_settleLaw_25 : decode cX2_settleLaw 25 = .ok (.iload 5, 2) := by decide +kernel
theorem dX2_settleLaw_27 : decode cX2_settleLaw 27 = .ok (.iadd, 1) := by decide +kernel
theorem dX2_settleLaw_28 : decode cX2_settleLaw 28 = .ok (.iaload, 1) := by decide +kernel
theorem dX2_settleLaw_29 : decode cX2_settleLaw 29 = .ok (.istore 6, 2) := by decide +kernel
theorem dX2_settleLaw_31 : decode cX2_settleLaw 31 = .ok (.iload 4, 2) := by decide +kernel
theorem dX2_settleLaw_33 : decode cX2_settleLaw 33 = .ok (.iload 6, 2) := by decide +kernel
theorem dX2_settleLaw_35 : decode cX2_settleLaw 35 = .ok (.iadd, 1) := by decide +kernel
theorem dX2_settleLaw_36 : decode cX2_settleLaw 36 = .ok (.istore 4, 2) := by decide +kernel
theorem dX2_settleLaw_38 : decode cX2_settleLaw 38 = .ok (.iload 6, 2) := by decide +kernel
theorem dX2_settleLaw_40 : decode cX2_settleLaw 40 = .ok (.iload_n 3, 1) := by decide +kernel
theorem dX2_settleLaw_41 : decode cX2_settleLaw 41 = .ok (.if_icmp .le 9, 3) := by decide +kernel
theorem dX2_settleLaw_44 : decode cX2_settleLaw 44 = .ok (.iload 6, 2) := by decide +kernel
theorem dX2_settleLaw_46 : decode cX2_settleLaw 46 = .ok (.istore_n 3, 1) := by decide +kernel
theorem dX2_settleLaw_47 : decode cX2_settleLaw 47 = .ok (.iload 5, 2) := by decide +kernel
theorem dX2_settleLaw_49 : decode cX2_settleLaw 49 = .ok (.istore_n 2, 1) := by decide +kernel
theorem dX2_settleLaw_50 : decode cX2_settleLaw 50 = .ok (.iinc 5 1, 3) := by decide +kernel
theorem dX2_settleLaw_53 : decode cX2_settleLaw 53 = .ok (.goto (-43), 3) := by decide +kernel
theorem dX2_settleLaw_56 : decode cX2_settleLaw 56 = .ok (.aload_n 0, 1) := by decide +kernel
theorem dX2_settleLaw_57 : decode cX2_settleLaw 57 = .ok (.getfield 9, 3) := by decide +kernel
theorem dX2_settleLaw_60 : decode cX2_settleLaw 60 = .ok (.iload_n 1, 1) := by decide +kernel
theorem dX2_settleLaw_61 : decode cX2_settleLaw 61 = .ok (.iload_n 2, 1) := by decide +kernel
theorem dX2_settleLaw_62 : decode cX2_settleLaw 62 = .ok (.iastore, 1) := by decide +kernel
theorem dX2_settleLaw_63 : decode cX2_settleLaw 63 = .ok (.aload_n 0, 1) := by decide +kernel
theorem dX2_settleLaw_64 : decode cX2_settleLaw 64 = .ok (.getfield 15, 3) := by decide +kernel
theorem dX2_settleLaw_67 : decode cX2_settleLaw 67 = .ok (.iload_n 1, 1) := by decide +kernel
theorem dX2_settleLaw_68 : decode cX2_settleLaw 68 = .ok (.iload_n 3, 1) := by decide +kernel
theorem dX2_settleLaw_69 : decode cX2_settleLaw 69 = .ok (.iastore, 1) := by decide +kernel
theorem dX2_settleLaw_70 : decode cX2_settleLaw 70 = .ok (.aload_n 0, 1) := by decide +kernel
theorem dX2_settleLaw_71 : decode cX2_settleLaw 71 = .ok (.getfield 18, 3) := by decide +kernel
theorem dX2_settleLaw_74 : decode cX2_settleLaw 74 = .ok (.iload_n 1, 1) := by decide +kernel
theorem dX2_settleLaw_75 : decode cX2_settleLaw 75 = .ok (.iload 4, 2) := by decide +kernel
theorem dX2_settleLaw_77 : decode cX2_settleLaw 77 = .ok (.iload_n 3, 1) := by decide +kernel
theorem dX2_settleLaw_78 : decode cX2_settleLaw 78 = .ok (.isub, 1) := by decide +kernel
theorem dX2_settleLaw_79 : decode cX2_settleLaw 79 = .ok (.iastore, 1) := by decide +kernel
theorem dX2_settleLaw_80 : decode cX2_settleLaw 80 = .ok (.return_, 1) := by decide +kernel
set_option maxRecDepth 20000 in
theorem ggX3_init_X5_init : GoodIn wsX3_init wsX5_init := goodIn_r _ [9, 10, 2, 3, 11, 12, 13, 14, 15, 16, 17, 18, 19] (by decide +kernel) (by decide +kernel)
set_option maxRecDepth 20000 in
theorem gX3_init_X5_init_n11 : GoodIn wsX3_init (wsX5_init) := ggX3_init_X5_init
theorem dX3_init_0 : decode cX3_init 0 = .ok (.aload_n 0, 1) := by decide +kernel
theorem dX3_init_1 : decode cX3_init 1 = .ok (.invokespecial 3, 3) := by decide +kernel
theorem dX3_init_4 : decode cX3_init 4 = .ok (.aload_n 0, 1) := by decide +kernel
theorem dX3_init_5 : decode cX3_init 5 = .ok (.new 9, 3) := by decide +kernel
theorem dX3_init_8 : decode cX3_init 8 = .ok (.dup, 1) := by decide +kernel
theorem dX3_init_9 : decode cX3_init 9 = .ok (.invokespecial 11, 3) := by decide +kernel
theorem dX3_init_12 : decode cX3_init 12 = .ok (.putfield 12, 3) := by decide +kernel
theorem dX3_init_15 : decode cX3_init 15 = .ok (.return_, 1) := by decide +kernel
theorem dX3_start_0 : decode cX3_start 0 = .ok (.aload_n 0, 1) := by decide +kernel
theorem dX3_start_1 : decode cX3_start 1 = .ok (.getfield 12, 3) := by decide +kernel
theorem dX3_start_4 : decode cX3_start 4 = .ok (.iconst 0, 1) := by decide +kernel
theorem dX3_start_5 : decode cX3_start 5 = .ok (.putfield 18, 3) := by decide +kernel
theorem dX3_start_8 : decode cX3_start 8 = .ok (.aload_n 0, 1) := by decide +kernel
theorem dX3_start_9 : decode cX3_start 9 = .ok (.getfield 12, 3) := by decide +kernel
theorem dX3_start_12 : decode cX3_start 12 = .ok (.iconst 0, 1) := by decide +kernel
theorem dX3_start_13 : decode cX3_start 13 = .ok (.putfield 22, 3) := by decide +kernel
theorem dX3_start_16 : decode cX3_start 16 = .ok (.aload_n 0, 1) := by decide +kernel
theorem dX3_start_17 : decode cX3_start 17 = .ok (.iconst 1, 1) := by decide +kernel
theorem dX3_start_18 : decode cX3_start 18 = .ok (.putfield 25, 3) := by decide +kernel
theorem dX3_start_21 : decode cX3_start 21 = .ok (.aload_n 0, 1) := by decide +kernel
theorem dX3_start_22 : decode cX3_start 22 = .ok (.iconst 0, 1) := by decide +kernel
theorem dX3_start_23 : decode cX3_start 23 = .ok (.putfield 29, 3) := by decide +kernel
theorem dX3_start_26 : decode cX3_start 26 = .ok (.return_, 1) := by decide +kernel
set_option maxRecDepth 20000 in
theorem ggX3_accepts_J0_indexOf_0f7a4 : GoodIn wsX3_accepts wsJ0_indexOf_0f7a4 := goodIn_r _ [6, 7, 8, 9, 5, 10, 11, 12, 13, 14, 15, 16, 17, 18, 19, 20, 21, 22, 23, 24, 25, 26, 27, 28, 29, 30, 31, 32, 33, 34, 35, 36, 37, 38, 39, 40, 41, 42, 43, 44, 45, 46, 47, 48, 49, 50, 51, 52, 53, 54, 55, 56, 57, 58, 59, 60, 61, 62, 63, 64, 65, 66, 67, 68, 69, 70, 71, 72, 73, 74, 75, 76, 77, 78, 79, 80, 81, 82, 83, 84, 85, 86, 87, 88, 89, 90] (by decide +kernel) (by decide +kernel)
set_option maxRecDepth 20000 in
theorem gX3_accepts_J0_indexOf_0f7a4 : GoodIn wsX3_accepts (wsV RX3 34 RJ0 yJ0_indexOf_0f7a4 wsJ0_indexOf_0f7a4) := goodIn_app (goodIn_of _ (by decide +kernel)) ggX3_accepts_J0_indexOf_0f7a4
set_option maxRecDepth 20000 in
theorem ggX3_accepts_X3_acceptsKind : GoodIn wsX3_accepts wsX3_acceptsKind := goodIn_r _ [95, 96, 97, 98, 99, 100, 1, 101, 102, 103, 94, 104, 105, 106, 138, 139, 140, 141, 142, 143, 144, 145, 146, 147, 148, 149] (by decide +kernel) (by decide +kernel)
set_option maxRecDepth 20000 in
theorem gX3_accepts_X3_acceptsKind : GoodIn wsX3_accepts (wsV RX3 40 RX3 yX3_acceptsKind wsX3_acceptsKind) := goodIn_app (goodIn_of _ (by decide +kernel)) ggX3_accepts_X3_acceptsKind
set_option maxRecDepth 20000 in
theorem ggX3_accepts_X3_endsWord : GoodIn wsX3_accepts wsX3_endsWord := goodIn_r _ [110, 96, 111, 100, 112, 113, 114, 94, 115, 105, 116, 98, 117, 118, 119, 120, 106, 121, 101, 102, 103, 104, 138, 139, 140, 141, 142, 143, 144, 145, 146, 147, 148, 149] (by decide +kernel) (by decide +kernel)
set_option maxRecDepth 20000 in
theorem gX3_accepts_X3_endsWord : GoodIn wsX3_accepts (wsV RX3 44 RX3 yX3_endsWord wsX3_endsWord) := goodIn_app (goodIn_of _ (by decide +kernel)) ggX3_accepts_X3_endsWord
set_option maxRecDepth 20000 in
theorem ggX3_accepts_X3_endsSet : GoodIn wsX3_accepts wsX3_endsSet := goodIn_r _ [125, 96, 97, 100, 111, 1, 126, 127, 128, 94, 129, 112, 113, 114, 115, 105, 116, 98, 117, 118, 119, 120, 106, 121, 138, 139, 140, 141, 142, 143, 144, 145, 146, 147, 148, 149] (by decide +kernel) (by decide +kernel)
set_option maxRecDepth 20000 in
theorem gX3_accepts_X3_endsSet : GoodIn wsX3_accepts (wsV RX3 48 RX3 yX3_endsSet wsX3_endsSet) := goodIn_app (goodIn_of _ (by decide +kernel)) ggX3_accepts_X3_endsSet
set_option maxRecDepth 20000 in
theorem ggX3_accepts_X3_acceptsSound : GoodIn wsX3_accepts wsX3_acceptsSound := goodIn_r _ [133, 100, 96, 116, 98, 105, 134, 106, 135, 136, 137, 138, 139, 140, 141, 142, 143, 144, 145, 146, 147, 148, 149] (by decide +kernel) (by decide +kernel)
set_option maxRecDepth 20000 in
theorem gX3_accepts_X3_acceptsSound : GoodIn wsX3_accepts (wsV RX3 53 RX3 yX3_acceptsSound wsX3_acceptsSound) := goodIn_app (goodIn_of _ (by decide +kernel)) ggX3_accepts_X3_acceptsSound
theorem dX3_accepts_0 : decode cX3_accepts 0 = .ok (.aload_n 0, 1) := by decide +kernel
theorem dX3_accepts_1 : decode cX3_accepts 1 = .ok (.getfield 25, 3) := by decide +kernel
theorem dX3_accepts_4 : decode cX3_accepts 4 = .ok (.ifCond .eq 15, 3) := by decide +kernel
theorem dX3_accepts_7 : decode cX3_accepts 7 = .ok (.aload_n 0, 1) := by decide +kernel
theorem dX3_accepts_8 : decode cX3_accepts 8 = .ok (.ldc 32, 2) := by decide +kernel
theorem dX3_accepts_10 : decode cX3_accepts 10 = .ok (.iload_n 1, 1) := by decide +kernel
theorem dX3_accepts_11 : decode cX3_accepts 11 = .ok (.i2c, 1) := by decide +kernel
theorem dX3_accepts_12 : decode cX3_accepts 12 = .ok (.invokevirtual 34, 3) := by decide +kernel
theorem dX3_accepts_15 : decode cX3_accepts 15 = .ok (.invokevirtual 40, 3) := by decide +kernel
theorem dX3_accepts_18 : decode cX3_accepts 18 = .ok (.ireturn, 1) := by decide +kernel
theorem dX3_accepts_19 : decode cX3_accepts 19 = .ok (.iload_n 1, 1) := by decide +kernel
theorem dX3_accepts_20 : decode cX3_accepts 20 = .ok (.bipush 47, 2) := by decide +kernel
theorem dX3_accepts_22 : decode cX3_accepts 22 = .ok (.if_icmp .ne 8, 3) := by decide +kernel
theorem dX3_accepts_25 : decode cX3_accepts 25 = .ok (.aload_n 0, 1) := by decide +kernel
theorem dX3_accepts_26 : decode cX3_accepts 26 = .ok (.invokevirtual 44, 3) := by decide +kernel
theorem dX3_accepts_29 : decode cX3_accepts 29 = .ok (.ireturn, 1) := by decide +kernel
theorem dX3_accepts_30 : decode cX3_accepts 30 = .ok (.iload_n 1, 1) := by decide +kernel
theorem dX3_accepts_31 : decode cX3_accepts 31 = .ok (.bipush 44, 2) := by decide +kernel
theorem dX3_accepts_33 : decode cX3_accepts 33 = .ok (.if_icmp .ne 8, 3) := by decide +kernel
theorem dX3_accepts_36 : decode cX3_accepts 36 = .ok (.aload_n 0, 1) := by decide +kernel
theorem dX3_accepts_37 : decode cX3_accepts 37 = .ok (.invokevirtual 48, 3) := by decide +kernel
theorem dX3_accepts_40 : decode cX3_accepts 40 = .ok (.ireturn, 1) := by decide +kernel
theorem dX3_accepts_41 : decode cX3_accepts 41 = .ok (.aload_n 0, 1) := by decide +kernel
theorem dX3_accepts_42 : decode cX3_accepts 42 = .ok (.ldc 51, 2) := by decide +kernel
theorem dX3_accepts_44 : decode cX3_accepts 44 = .ok (.iload_n 1, 1) := by decide +kernel
theorem dX3_accepts_45 : decode cX3_accepts 45 = .ok (.i2c, 1) := by decide +kernel
theorem dX3_accepts_46 : decode cX3_accepts 46 = .ok (.invokevirtual 34, 3) := by decide +kernel
theorem dX3_accepts_49 : decode cX3_accepts 49 = .ok (.invokevirtual 53, 3) := by decide +kernel
theorem dX3_accepts_52 : decode cX3_accepts 52 = .ok (.ireturn, 1) := by decide +kernel
set_option maxRecDepth 20000 in
theorem ggX3_finish_X3_setIsWhole : GoodIn wsX3_finish wsX3_setIsWhole := goodIn_r _ [10, 3, 2, 4, 11, 12, 13, 9, 14, 15, 16, 17, 23, 24, 25, 26, 27, 28, 29, 30, 31, 32, 33, 34] (by decide +kernel) (by decide +kernel)
set_option maxRecDepth 20000 in
theorem gX3_finish_X3_setIsWhole : GoodIn wsX3_finish (wsV RX3 56 RX3 yX3_setIsWhole wsX3_setIsWhole) := goodIn_app (goodIn_of _ (by decide +kernel)) ggX3_finish_X3_setIsWhole
set_option maxRecDepth 20000 in
theorem ggX3_finish_X3_closeWord : GoodIn wsX3_finish wsX3_closeWord := goodIn_r _ [21, 2, 16, 17, 15, 22, 5, 23, 24, 25, 26, 27, 28, 29, 30, 31, 32, 33, 34] (by decide +kernel) (by decide +kernel)
set_option maxRecDepth 20000 in
theorem gX3_finish_X3_closeWord : GoodIn wsX3_finish (wsV RX3 59 RX3 yX3_closeWord wsX3_closeWord) := goodIn_app (goodIn_of _ (by decide +kernel)) ggX3_finish_X3_closeWord
theorem dX3_finish_0 : decode cX3_finish 0 = .ok (.aload_n 0, 1) := by decide +kernel
theorem dX3_finish_1 : decode cX3_finish 1 = .ok (.getfield 25, 3) := by decide +kernel
theorem dX3_finish_4 : decode cX3_finish 4 = .ok (.ifCond .ne 10, 3) := by decide +kernel
theorem dX3_finish_7 : decode cX3_finish 7 = .ok (.aload_n 0, 1) := by decide +kernel
theorem dX3_finish_8 : decode cX3_finish 8 = .ok (.invokevirtual 56, 3) := by decide +kernel
theorem dX3_finish_11 : decode cX3_finish 11 = .ok (.ifCond .ne 5, 3) := by decide +kernel
theorem dX3_finish_14 : decode cX3_finish 14 = .ok (.iconst 0, 1) := by decide +kernel
theorem dX3_finish_15 : decode cX3_finish 15 = .ok (.ireturn, 1) := by decide +kernel
theorem dX3_finish_16 : decode cX3_finish 16 = .ok (.aload_n 0, 1) := by decide +kernel
theorem dX3_finish_17 : decode cX3_finish 17 = .ok (.invokevirtual 59, 3) := by decide +kernel
theorem dX3_finish_20 : decode cX3_finish 20 = .ok (.aload_n 0, 1) := by decide +kernel
theorem dX3_finish_21 : decode cX3_finish 21 = .ok (.getfield 12, 3) := by decide +kernel
theorem dX3_finish_24 : decode cX3_finish 24 = .ok (.aload_n 0, 1) := by decide +kernel
theorem dX3_finish_25 : decode cX3_finish 25 = .ok (.getfield 62, 3) := by decide +kernel
theorem dX3_finish_28 : decode cX3_finish 28 = .ok (.iconst 1, 1) := by decide +kernel
theorem dX3_finish_29 : decode cX3_finish 29 = .ok (.iadd, 1) := by decide +kernel
theorem dX3_finish_30 : decode cX3_finish 30 = .ok (.putfield 22, 3) := by decide +kernel
theorem dX3_finish_33 : decode cX3_finish 33 = .ok (.aload_n 0, 1) := by decide +kernel
theorem dX3_finish_34 : decode cX3_finish 34 = .ok (.getfield 29, 3) := by decide +kernel
theorem dX3_finish_37 : decode cX3_finish 37 = .ok (.ifCond .ne 7, 3) := by decide +kernel
theorem dX3_finish_40 : decode cX3_finish 40 = .ok (.iconst 1, 1) := by decide +kernel
theorem dX3_finish_41 : decode cX3_finish 41 = .ok (.goto 4, 3) := by decide +kernel
theorem dX3_finish_44 : decode cX3_finish 44 = .ok (.iconst 0, 1) := by decide +kernel
theorem dX3_finish_45 : decode cX3_finish 45 = .ok (.ireturn, 1) := by decide +kernel
set_option maxRecDepth 20000 in
theorem ggX3_acceptsKind_X3_openWord : GoodIn wsX3_acceptsKind wsX3_openWord := goodIn_r _ [11, 12, 13, 14, 15, 16, 17, 18, 19, 20] (by decide +kernel) (by decide +kernel)
set_option maxRecDepth 20000 in
theorem gX3_acceptsKind_X3_openWord : GoodIn wsX3_acceptsKind (wsV RX3 72 RX3 yX3_openWord wsX3_openWord) := goodIn_app (goodIn_of _ (by decide +kernel)) ggX3_acceptsKind_X3_openWord
theorem dX3_acceptsKind_0 : decode cX3_acceptsKind 0 = .ok (.iload_n 1, 1) := by decide +kernel
theorem dX3_acceptsKind_1 : decode cX3_acceptsKind 1 = .ok (.ifCond .ge 5, 3) := by decide +kernel
theorem dX3_acceptsKind_4 : decode cX3_acceptsKind 4 = .ok (.iconst 0, 1) := by decide +kernel
theorem dX3_acceptsKind_5 : decode cX3_acceptsKind 5 = .ok (.ireturn, 1) := by decide +kernel
theorem dX3_acceptsKind_6 : decode cX3_acceptsKind 6 = .ok (.aload_n 0, 1) := by decide +kernel
theorem dX3_acceptsKind_7 : decode cX3_acceptsKind 7 = .ok (.aload_n 0, 1) := by decide +kernel
theorem dX3_acceptsKind_8 : decode cX3_acceptsKind 8 = .ok (.getfield 12, 3) := by decide +kernel
theorem dX3_acceptsKind_11 : decode cX3_acceptsKind 11 = .ok (.getfield 18, 3) := by decide +kernel
theorem dX3_acceptsKind_14 : decode cX3_acceptsKind 14 = .ok (.putfield 65, 3) := by decide +kernel
theorem dX3_acceptsKind_17 : decode cX3_acceptsKind 17 = .ok (.aload_n 0, 1) := by decide +kernel
theorem dX3_acceptsKind_18 : decode cX3_acceptsKind 18 = .ok (.getfield 12, 3) := by decide +kernel
theorem dX3_acceptsKind_21 : decode cX3_acceptsKind 21 = .ok (.dup, 1) := by decide +kernel
theorem dX3_acceptsKind_22 : decode cX3_acceptsKind 22 = .ok (.getfield 18, 3) := by decide +kernel
theorem dX3_acceptsKind_25 : decode cX3_acceptsKind 25 = .ok (.iconst 1, 1) := by decide +kernel
theorem dX3_acceptsKind_26 : decode cX3_acceptsKind 26 = .ok (.iadd, 1) := by decide +kernel
theorem dX3_acceptsKind_27 : decode cX3_acceptsKind 27 = .ok (.putfield 18, 3) := by decide +kernel
theorem dX3_acceptsKind_30 : decode cX3_acceptsKind 30 = .ok (.aload_n 0, 1) := by decide +kernel
theorem dX3_acceptsKind_31 : decode cX3_acceptsKind 31 = .ok (.getfield 12, 3) := by decide +kernel
theorem dX3_acceptsKind_34 : decode cX3_acceptsKind 34 = .ok (.getfield 68, 3) := by decide +kernel
theorem dX3_acceptsKind_37 : decode cX3_acceptsKind 37 = .ok (.aload_n 0, 1) := by decide +kernel
theorem dX3_acceptsKind_38 : decode cX3_acceptsKind 38 = .ok (.getfield 65, 3) := by decide +kernel
theorem dX3_acceptsKind_41 : decode cX3_acceptsKind 41 = .ok (.iload_n 1, 1) := by decide +kernel
theorem dX3_acceptsKind_42 : decode cX3_acceptsKind 42 = .ok (.iastore, 1) := by decide +kernel
theorem dX3_acceptsKind_43 : decode cX3_acceptsKind 43 = .ok (.aload_n 0, 1) := by decide +kernel
theorem dX3_acceptsKind_44 : decode cX3_acceptsKind 44 = .ok (.iconst 0, 1) := by decide +kernel
theorem dX3_acceptsKind_45 : decode cX3_acceptsKind 45 = .ok (.putfield 62, 3) := by decide +kernel
theorem dX3_acceptsKind_48 : decode cX3_acceptsKind 48 = .ok (.aload_n 0, 1) := by decide +kernel
theorem dX3_acceptsKind_49 : decode cX3_acceptsKind 49 = .ok (.invokevirtual 72, 3) := by decide +kernel
theorem dX3_acceptsKind_52 : decode cX3_acceptsKind 52 = .ok (.aload_n 0, 1) := by decide +kernel
theorem dX3_acceptsKind_53 : decode cX3_acceptsKind 53 = .ok (.iconst 0, 1) := by decide +kernel
theorem dX3_acceptsKind_54 : decode cX3_acceptsKind 54 = .ok (.putfield 25, 3) := by decide +kernel
theorem dX3_acceptsKind_57 : decode cX3_acceptsKind 57 = .ok (.iconst 1, 1) := by decide +kernel
theorem dX3_acceptsKind_58 : decode cX3_acceptsKind 58 = .ok (.ireturn, 1) := by decide +kernel
set_option maxRecDepth 20000 in
theorem ggX3_acceptsSound_X8_wordAt : GoodIn wsX3_acceptsSound wsX8_wordAt := goodIn_r _ [10] (by decide +kernel) (by decide +kernel)
set_option maxRecDepth 20000 in
theorem gX3_acceptsSound_X8_wordAt_n84 : GoodIn wsX3_acceptsSound (wsX8_wordAt) := ggX3_acceptsSound_X8_wordAt
theorem dX3_acceptsSound_0 : decode cX3_acceptsSound 0 = .ok (.aload_n 0, 1) := by decide +kernel
theorem dX3_acceptsSound_1 : decode cX3_acceptsSound 1 = .ok (.getfield 62, 3) := by decide +kernel
theorem dX3_acceptsSound_4 : decode cX3_acceptsSound 4 = .ok (.ifCond .ne 7, 3) := by decide +kernel
theorem dX3_acceptsSound_7 : decode cX3_acceptsSound 7 = .ok (.iconst 4, 1) := by decide +kernel
theorem dX3_acceptsSound_8 : decode cX3_acceptsSound 8 = .ok (.goto 15, 3) := by decide +kernel
theorem dX3_acceptsSound_11 : decode cX3_acceptsSound 11 = .ok (.aload_n 0, 1) := by decide +kernel
theorem dX3_acceptsSound_12 : decode cX3_acceptsSound 12 = .ok (.getfield 12, 3) := by decide +kernel
theorem dX3_acceptsSound_15 : decode cX3_acceptsSound 15 = .ok (.getfield 75, 3) := by decide +kernel
theorem dX3_acceptsSound_18 : decode cX3_acceptsSound 18 = .ok (.aload_n 0, 1) := by decide +kernel
theorem dX3_acceptsSound_19 : decode cX3_acceptsSound 19 = .ok (.getfield 65, 3) := by decide +kernel
theorem dX3_acceptsSound_22 : decode cX3_acceptsSound 22 = .ok (.iaload, 1) := by decide +kernel
theorem dX3_acceptsSound_23 : decode cX3_acceptsSound 23 = .ok (.istore_n 2, 1) := by decide +kernel
theorem dX3_acceptsSound_24 : decode cX3_acceptsSound 24 = .ok (.iload_n 1, 1) := by decide +kernel
theorem dX3_acceptsSound_25 : decode cX3_acceptsSound 25 = .ok (.ifCond .lt 11, 3) := by decide +kernel
theorem dX3_acceptsSound_28 : decode cX3_acceptsSound 28 = .ok (.aload_n 0, 1) := by decide +kernel
theorem dX3_acceptsSound_29 : decode cX3_acceptsSound 29 = .ok (.getfield 78, 3) := by decide +kernel
theorem dX3_acceptsSound_32 : decode cX3_acceptsSound 32 = .ok (.iload_n 2, 1) := by decide +kernel
theorem dX3_acceptsSound_33 : decode cX3_acceptsSound 33 = .ok (.if_icmp .lt 5, 3) := by decide +kernel
theorem dX3_acceptsSound_36 : decode cX3_acceptsSound 36 = .ok (.iconst 0, 1) := by decide +kernel
theorem dX3_acceptsSound_37 : decode cX3_acceptsSound 37 = .ok (.ireturn, 1) := by decide +kernel
theorem dX3_acceptsSound_38 : decode cX3_acceptsSound 38 = .ok (.aload_n 0, 1) := by decide +kernel
theorem dX3_acceptsSound_39 : decode cX3_acceptsSound 39 = .ok (.getfield 12, 3) := by decide +kernel
theorem dX3_acceptsSound_42 : decode cX3_acceptsSound 42 = .ok (.getfield 81, 3) := by decide +kernel
theorem dX3_acceptsSound_45 : decode cX3_acceptsSound 45 = .ok (.aload_n 0, 1) := by decide +kernel
theorem dX3_acceptsSound_46 : decode cX3_acceptsSound 46 = .ok (.getfield 65, 3) := by decide +kernel
theorem dX3_acceptsSound_49 : decode cX3_acceptsSound 49 = .ok (.aload_n 0, 1) := by decide +kernel
theorem dX3_acceptsSound_50 : decode cX3_acceptsSound 50 = .ok (.getfield 62, 3) := by decide +kernel
theorem dX3_acceptsSound_53 : decode cX3_acceptsSound 53 = .ok (.invokestatic 84, 3) := by decide +kernel
theorem dX3_acceptsSound_56 : decode cX3_acceptsSound 56 = .ok (.aload_n 0, 1) := by decide +kernel
theorem dX3_acceptsSound_57 : decode cX3_acceptsSound 57 = .ok (.getfield 78, 3) := by decide +kernel
theorem dX3_acceptsSound_60 : decode cX3_acceptsSound 60 = .ok (.iadd, 1) := by decide +kernel
theorem dX3_acceptsSound_61 : decode cX3_acceptsSound 61 = .ok (.iload_n 1, 1) := by decide +kernel
theorem dX3_acceptsSound_62 : decode cX3_acceptsSound 62 = .ok (.iastore, 1) := by decide +kernel
theorem dX3_acceptsSound_63 : decode cX3_acceptsSound 63 = .ok (.aload_n 0, 1) := by decide +kernel
theorem dX3_acceptsSound_64 : decode cX3_acceptsSound 64 = .ok (.dup, 1) := by decide +kernel
theorem dX3_acceptsSound_65 : decode cX3_acceptsSound 65 = .ok (.getfield 78, 3) := by decide +kernel
theorem dX3_acceptsSound_68 : decode cX3_acceptsSound 68 = .ok (.iconst 1, 1) := by decide +kernel
theorem dX3_acceptsSound_69 : decode cX3_acceptsSound 69 = .ok (.iadd, 1) := by decide +kernel
theorem dX3_acceptsSound_70 : decode cX3_acceptsSound 70 = .ok (.putfield 78, 3) := by decide +kernel
theorem dX3_acceptsSound_73 : decode cX3_acceptsSound 73 = .ok (.iload_n 1, 1) := by decide +kernel
theorem dX3_acceptsSound_74 : decode cX3_acceptsSound 74 = .ok (.ifCond .eq 8, 3) := by decide +kernel
theorem dX3_acceptsSound_77 : decode cX3_acceptsSound 77 = .ok (.aload_n 0, 1) := by decide +kernel
theorem dX3_acceptsSound_78 : decode cX3_acceptsSound 78 = .ok (.iconst 0, 1) := by decide +kernel
theorem dX3_acceptsSound_79 : decode cX3_acceptsSound 79 = .ok (.putfield 88, 3) := by decide +kernel
theorem dX3_acceptsSound_82 : decode cX3_acceptsSound 82 = .ok (.iconst 1, 1) := by decide +kernel
theorem dX3_acceptsSound_83 : decode cX3_acceptsSound 83 = .ok (.ireturn, 1) := by decide +kernel
set_option maxRecDepth 20000 in
theorem ggX3_endsWord_X3_wordIsWhole : GoodIn wsX3_endsWord wsX3_wordIsWhole := goodIn_r _ [8, 3, 9, 1, 10, 11, 22, 23, 24, 25, 26, 27, 28, 29, 30, 31, 32, 33] (by decide +kernel) (by decide +kernel)
set_option maxRecDepth 20000 in
theorem gX3_endsWord_X3_wordIsWhole : GoodIn wsX3_endsWord (wsV RX3 91 RX3 yX3_wordIsWhole wsX3_wordIsWhole) := goodIn_app (goodIn_of _ (by decide +kernel)) ggX3_endsWord_X3_wordIsWhole
set_option maxRecDepth 20000 in
theorem ggX3_endsWord_X3_closeWord : GoodIn wsX3_endsWord wsX3_closeWord := goodIn_r _ [15, 1, 10, 11, 9, 16, 17, 22, 23, 24, 25, 26, 27, 28, 29, 30, 31, 32, 33] (by decide +kernel) (by decide +kernel)
set_option maxRecDepth 20000 in
theorem gX3_endsWord_X3_closeWord : GoodIn wsX3_endsWord (wsV RX3 59 RX3 yX3_closeWord wsX3_closeWord) := goodIn_app (goodIn_of _ (by decide +kernel)) ggX3_endsWord_X3_closeWord
set_option maxRecDepth 20000 in
theorem ggX3_endsWord_X3_openWord : GoodIn wsX3_endsWord wsX3_openWord := goodIn_r _ [21, 9, 16, 22, 23, 24, 25, 26, 27, 28] (by decide +kernel) (by decide +kernel)
set_option maxRecDepth 20000 in
theorem gX3_endsWord_X3_openWord : GoodIn wsX3_endsWord (wsV RX3 72 RX3 yX3_openWord wsX3_openWord) := goodIn_app (goodIn_of _ (by decide +kernel)) ggX3_endsWord_X3_openWord
theorem dX3_endsWord_0 : decode cX3_endsWord 0 = .ok (.aload_n 0, 1) := by decide +kernel
theorem dX3_endsWord_1 : decode cX3_endsWord 1 = .ok (.getfield 12, 3) := by decide +kernel
theorem dX3_endsWord_4 : decode cX3_endsWord 4 = .ok (.getfield 22, 3) := by decide +kernel
theorem dX3_endsWord_7 : decode cX3_endsWord 7 = .ok (.ifCond .ne 7, 3) := by decide +kernel
theorem dX3_endsWord_10 : decode cX3_endsWord 10 = .ok (.iconst 4, 1) := by decide +kernel
theorem dX3_endsWord_11 : decode cX3_endsWord 11 = .ok (.goto 10, 3) := by decide +kernel
theorem dX3_endsWord_14 : decode cX3_endsWord 14 = .ok (.aload_n 0, 1) := by decide +kernel
theorem dX3_endsWord_15 : decode cX3_endsWord 15 = .ok (.getfield 12, 3) := by decide +kernel
theorem dX3_endsWord_18 : decode cX3_endsWord 18 = .ok (.getfield 22, 3) := by decide +kernel
theorem dX3_endsWord_21 : decode cX3_endsWord 21 = .ok (.istore_n 1, 1) := by decide +kernel
theorem dX3_endsWord_22 : decode cX3_endsWord 22 = .ok (.aload_n 0, 1) := by decide +kernel
theorem dX3_endsWord_23 : decode cX3_endsWord 23 = .ok (.invokevirtual 91, 3) := by decide +kernel
theorem dX3_endsWord_26 : decode cX3_endsWord 26 = .ok (.ifCond .eq 13, 3) := by decide +kernel
theorem dX3_endsWord_29 : decode cX3_endsWord 29 = .ok (.aload_n 0, 1) := by decide +kernel
theorem dX3_endsWord_30 : decode cX3_endsWord 30 = .ok (.getfield 62, 3) := by decide +kernel
theorem dX3_endsWord_33 : decode cX3_endsWord 33 = .ok (.iconst 1, 1) := by decide +kernel
theorem dX3_endsWord_34 : decode cX3_endsWord 34 = .ok (.iadd, 1) := by decide +kernel
theorem dX3_endsWord_35 : decode cX3_endsWord 35 = .ok (.iload_n 1, 1) := by decide +kernel
theorem dX3_endsWord_36 : decode cX3_endsWord 36 = .ok (.if_icmp .lt 5, 3) := by decide +kernel
theorem dX3_endsWord_39 : decode cX3_endsWord 39 = .ok (.iconst 0, 1) := by decide +kernel
theorem dX3_endsWord_40 : decode cX3_endsWord 40 = .ok (.ireturn, 1) := by decide +kernel
theorem dX3_endsWord_41 : decode cX3_endsWord 41 = .ok (.aload_n 0, 1) := by decide +kernel
theorem dX3_endsWord_42 : decode cX3_endsWord 42 = .ok (.invokevirtual 59, 3) := by decide +kernel
theorem dX3_endsWord_45 : decode cX3_endsWord 45 = .ok (.aload_n 0, 1) := by decide +kernel
theorem dX3_endsWord_46 : decode cX3_endsWord 46 = .ok (.dup, 1) := by decide +kernel
theorem dX3_endsWord_47 : decode cX3_endsWord 47 = .ok (.getfield 62, 3) := by decide +kernel
theorem dX3_endsWord_50 : decode cX3_endsWord 50 = .ok (.iconst 1, 1) := by decide +kernel
theorem dX3_endsWord_51 : decode cX3_endsWord 51 = .ok (.iadd, 1) := by decide +kernel
theorem dX3_endsWord_52 : decode cX3_endsWord 52 = .ok (.putfield 62, 3) := by decide +kernel
theorem dX3_endsWord_55 : decode cX3_endsWord 55 = .ok (.aload_n 0, 1) := by decide +kernel
theorem dX3_endsWord_56 : decode cX3_endsWord 56 = .ok (.invokevirtual 72, 3) := by decide +kernel
theorem dX3_endsWord_59 : decode cX3_endsWord 59 = .ok (.iconst 1, 1) := by decide +kernel
theorem dX3_endsWord_60 : decode cX3_endsWord 60 = .ok (.ireturn, 1) := by decide +kernel
set_option maxRecDepth 20000 in
theorem ggX3_endsSet_X3_setIsWhole : GoodIn wsX3_endsSet wsX3_setIsWhole := goodIn_r _ [10, 3, 1, 4, 11, 12, 13, 9, 14, 15, 16, 17, 24, 25, 26, 27, 28, 29, 30, 31, 32, 33, 34, 35] (by decide +kernel) (by decide +kernel)
set_option maxRecDepth 20000 in
theorem gX3_endsSet_X3_setIsWhole : GoodIn wsX3_endsSet (wsV RX3 56 RX3 yX3_setIsWhole wsX3_setIsWhole) := goodIn_app (goodIn_of _ (by decide +kernel)) ggX3_endsSet_X3_setIsWhole
set_option maxRecDepth 20000 in
theorem ggX3_endsSet_X3_closeWord : GoodIn wsX3_endsSet wsX3_closeWord := goodIn_r _ [21, 1, 16, 17, 15, 22, 23, 24, 25, 26, 27, 28, 29, 30, 31, 32, 33, 34, 35] (by decide +kernel) (by decide +kernel)
set_option maxRecDepth 20000 in
theorem gX3_endsSet_X3_closeWord : GoodIn wsX3_endsSet (wsV RX3 59 RX3 yX3_closeWord wsX3_closeWord) := goodIn_app (goodIn_of _ (by decide +kernel)) ggX3_endsSet_X3_closeWord
theorem dX3_endsSet_0 : decode cX3_endsSet 0 = .ok (.aload_n 0, 1) := by decide +kernel
theorem dX3_endsSet_1 : decode cX3_endsSet 1 = .ok (.invokevirtual 56, 3) := by decide +kernel
theorem dX3_endsSet_4 : decode cX3_endsSet 4 = .ok (.ifCond .eq 14, 3) := by decide +kernel
theorem dX3_endsSet_7 : decode cX3_endsSet 7 = .ok (.aload_n 0, 1) := by decide +kernel
theorem dX3_endsSet_8 : decode cX3_endsSet 8 = .ok (.getfield 12, 3) := by decide +kernel
theorem dX3_endsSet_11 : decode cX3_endsSet 11 = .ok (.getfield 18, 3) := by decide +kernel
theorem dX3_endsSet_14 : decode cX3_endsSet 14 = .ok (.iconst 5, 1) := by decide +kernel
theorem dX3_endsSet_15 : decode cX3_endsSet 15 = .ok (.if_icmp .lt 5, 3) := by decide +kernel
theorem dX3_endsSet_18 : decode cX3_endsSet 18 = .ok (.iconst 0, 1) := by decide +kernel
theorem dX3_endsSet_19 : decode cX3_endsSet 19 = .ok (.ireturn, 1) := by decide +kernel
theorem dX3_endsSet_20 : decode cX3_endsSet 20 = .ok (.aload_n 0, 1) := by decide +kernel
theorem dX3_endsSet_21 : decode cX3_endsSet 21 = .ok (.invokevirtual 59, 3) := by decide +kernel
theorem dX3_endsSet_24 : decode cX3_endsSet 24 = .ok (.aload_n 0, 1) := by decide +kernel
theorem dX3_endsSet_25 : decode cX3_endsSet 25 = .ok (.getfield 12, 3) := by decide +kernel
theorem dX3_endsSet_28 : decode cX3_endsSet 28 = .ok (.aload_n 0, 1) := by decide +kernel
theorem dX3_endsSet_29 : decode cX3_endsSet 29 = .ok (.getfield 62, 3) := by decide +kernel
theorem dX3_endsSet_32 : decode cX3_endsSet 32 = .ok (.iconst 1, 1) := by decide +kernel
theorem dX3_endsSet_33 : decode cX3_endsSet 33 = .ok (.iadd, 1) := by decide +kernel
theorem dX3_endsSet_34 : decode cX3_endsSet 34 = .ok (.putfield 22, 3) := by decide +kernel
theorem dX3_endsSet_37 : decode cX3_endsSet 37 = .ok (.aload_n 0, 1) := by decide +kernel
theorem dX3_endsSet_38 : decode cX3_endsSet 38 = .ok (.iconst 1, 1) := by decide +kernel
theorem dX3_endsSet_39 : decode cX3_endsSet 39 = .ok (.putfield 25, 3) := by decide +kernel
theorem dX3_endsSet_42 : decode cX3_endsSet 42 = .ok (.iconst 1, 1) := by decide +kernel
theorem dX3_endsSet_43 : decode cX3_endsSet 43 = .ok (.ireturn, 1) := by decide +kernel
theorem dX3_wordIsWhole_0 : decode cX3_wordIsWhole 0 = .ok (.aload_n 0, 1) := by decide +kernel
theorem dX3_wordIsWhole_1 : decode cX3_wordIsWhole 1 = .ok (.getfield 62, 3) := by decide +kernel
theorem dX3_wordIsWhole_4 : decode cX3_wordIsWhole 4 = .ok (.ifCond .ne 18, 3) := by decide +kernel
theorem dX3_wordIsWhole_7 : decode cX3_wordIsWhole 7 = .ok (.aload_n 0, 1) := by decide +kernel
theorem dX3_wordIsWhole_8 : decode cX3_wordIsWhole 8 = .ok (.getfield 78, 3) := by decide +kernel
theorem dX3_wordIsWhole_11 : decode cX3_wordIsWhole 11 = .ok (.ifCond .le 7, 3) := by decide +kernel
theorem dX3_wordIsWhole_14 : decode cX3_wordIsWhole 14 = .ok (.iconst 1, 1) := by decide +kernel
theorem dX3_wordIsWhole_15 : decode cX3_wordIsWhole 15 = .ok (.goto 31, 3) := by decide +kernel
theorem dX3_wordIsWhole_18 : decode cX3_wordIsWhole 18 = .ok (.iconst 0, 1) := by decide +kernel
theorem dX3_wordIsWhole_19 : decode cX3_wordIsWhole 19 = .ok (.goto 27, 3) := by decide +kernel
theorem dX3_wordIsWhole_22 : decode cX3_wordIsWhole 22 = .ok (.aload_n 0, 1) := by decide +kernel
theorem dX3_wordIsWhole_23 : decode cX3_wordIsWhole 23 = .ok (.getfield 78, 3) := by decide +kernel
theorem dX3_wordIsWhole_26 : decode cX3_wordIsWhole 26 = .ok (.aload_n 0, 1) := by decide +kernel
theorem dX3_wordIsWhole_27 : decode cX3_wordIsWhole 27 = .ok (.getfield 12, 3) := by decide +kernel
theorem dX3_wordIsWhole_30 : decode cX3_wordIsWhole 30 = .ok (.getfield 75, 3) := by decide +kernel
theorem dX3_wordIsWhole_33 : decode cX3_wordIsWhole 33 = .ok (.aload_n 0, 1) := by decide +kernel
theorem dX3_wordIsWhole_34 : decode cX3_wordIsWhole 34 = .ok (.getfield 65, 3) := by decide +kernel
theorem dX3_wordIsWhole_37 : decode cX3_wordIsWhole 37 = .ok (.iaload, 1) := by decide +kernel
theorem dX3_wordIsWhole_38 : decode cX3_wordIsWhole 38 = .ok (.if_icmp .ne 7, 3) := by decide +kernel
theorem dX3_wordIsWhole_41 : decode cX3_wordIsWhole 41 = .ok (.iconst 1, 1) := by decide +kernel
theorem dX3_wordIsWhole_42 : decode cX3_wordIsWhole 42 = .ok (.goto 4, 3) := by decide +kernel
theorem dX3_wordIsWhole_45 : decode cX3_wordIsWhole 45 = .ok (.iconst 0, 1) := by decide +kernel
theorem dX3_wordIsWhole_46 : decode cX3_wordIsWhole 46 = .ok (.ireturn, 1) := by decide +kernel
set_option maxRecDepth 20000 in
theorem ggX3_setIsWhole_X3_wordIsWhole : GoodIn wsX3_setIsWhole wsX3_wordIsWhole := goodIn_r _ [8, 1, 9, 2, 10, 11, 12, 13, 14, 15, 16, 17, 18, 19, 20, 21, 22, 23] (by decide +kernel) (by decide +kernel)
set_option maxRecDepth 20000 in
theorem gX3_setIsWhole_X3_wordIsWhole : GoodIn wsX3_setIsWhole (wsV RX3 91 RX3 yX3_wordIsWhole wsX3_wordIsWhole) := goodIn_app (goodIn_of _ (by decide +kernel)) ggX3_setIsWhole_X3_wordIsWhole
theorem dX3_setIsWhole_0 : decode cX3_setIsWhole 0 = .ok (.aload_n 0, 1) := by decide +kernel
theorem dX3_setIsWhole_1 : decode cX3_setIsWhole 1 = .ok (.getfield 62, 3) := by decide +kernel
theorem dX3_setIsWhole_4 : decode cX3_setIsWhole 4 = .ok (.iconst 1, 1) := by decide +kernel
theorem dX3_setIsWhole_5 : decode cX3_setIsWhole 5 = .ok (.iadd, 1) := by decide +kernel
theorem dX3_setIsWhole_6 : decode cX3_setIsWhole 6 = .ok (.istore_n 1, 1) := by decide +kernel
theorem dX3_setIsWhole_7 : decode cX3_setIsWhole 7 = .ok (.aload_n 0, 1) := by decide +kernel
theorem dX3_setIsWhole_8 : decode cX3_setIsWhole 8 = .ok (.invokevirtual 91, 3) := by decide +kernel
theorem dX3_setIsWhole_11 : decode cX3_setIsWhole 11 = .ok (.ifCond .eq 8, 3) := by decide +kernel
theorem dX3_setIsWhole_14 : decode cX3_setIsWhole 14 = .ok (.iload_n 1, 1) := by decide +kernel
theorem dX3_setIsWhole_15 : decode cX3_setIsWhole 15 = .ok (.iconst 2, 1) := by decide +kernel
theorem dX3_setIsWhole_16 : decode cX3_setIsWhole 16 = .ok (.if_icmp .ge 5, 3) := by decide +kernel
theorem dX3_setIsWhole_19 : decode cX3_setIsWhole 19 = .ok (.iconst 0, 1) := by decide +kernel
theorem dX3_setIsWhole_20 : decode cX3_setIsWhole 20 = .ok (.ireturn, 1) := by decide +kernel
theorem dX3_setIsWhole_21 : decode cX3_setIsWhole 21 = .ok (.aload_n 0, 1) := by decide +kernel
theorem dX3_setIsWhole_22 : decode cX3_setIsWhole 22 = .ok (.getfield 12, 3) := by decide +kernel
theorem dX3_setIsWhole_25 : decode cX3_setIsWhole 25 = .ok (.getfield 22, 3) := by decide +kernel
theorem dX3_setIsWhole_28 : decode cX3_setIsWhole 28 = .ok (.ifCond .eq 14, 3) := by decide +kernel
theorem dX3_setIsWhole_31 : decode cX3_setIsWhole 31 = .ok (.iload_n 1, 1) := by decide +kernel
theorem dX3_setIsWhole_32 : decode cX3_setIsWhole 32 = .ok (.aload_n 0, 1) := by decide +kernel
theorem dX3_setIsWhole_33 : decode cX3_setIsWhole 33 = .ok (.getfield 12, 3) := by decide +kernel
theorem dX3_setIsWhole_36 : decode cX3_setIsWhole 36 = .ok (.getfield 22, 3) := by decide +kernel
theorem dX3_setIsWhole_39 : decode cX3_setIsWhole 39 = .ok (.if_icmp .ne 7, 3) := by decide +kernel
theorem dX3_setIsWhole_42 : decode cX3_setIsWhole 42 = .ok (.iconst 1, 1) := by decide +kernel
theorem dX3_setIsWhole_43 : decode cX3_setIsWhole 43 = .ok (.goto 4, 3) := by decide +kernel
theorem dX3_setIsWhole_46 : decode cX3_setIsWhole 46 = .ok (.iconst 0, 1) := by decide +kernel
theorem dX3_setIsWhole_47 : decode cX3_setIsWhole 47 = .ok (.ireturn, 1) := by decide +kernel
theorem dX3_openWord_0 : decode cX3_openWord 0 = .ok (.aload_n 0, 1) := by decide +kernel
theorem dX3_openWord_1 : decode cX3_openWord 1 = .ok (.iconst 0, 1) := by decide +kernel
theorem dX3_openWord_2 : decode cX3_openWord 2 = .ok (.putfield 78, 3) := by decide +kernel
theorem dX3_openWord_5 : decode cX3_openWord 5 = .ok (.aload_n 0, 1) := by decide +kernel
theorem dX3_openWord_6 : decode cX3_openWord 6 = .ok (.iconst 1, 1) := by decide +kernel
theorem dX3_openWord_7 : decode cX3_openWord 7 = .ok (.putfield 88, 3) := by decide +kernel
theorem dX3_openWord_10 : decode cX3_openWord 10 = .ok (.return_, 1) := by decide +kernel
theorem dX3_closeWord_0 : decode cX3_closeWord 0 = .ok (.aload_n 0, 1) := by decide +kernel
theorem dX3_closeWord_1 : decode cX3_closeWord 1 = .ok (.getfield 12, 3) := by decide +kernel
theorem dX3_closeWord_4 : decode cX3_closeWord 4 = .ok (.getfield 75, 3) := by decide +kernel
theorem dX3_closeWord_7 : decode cX3_closeWord 7 = .ok (.aload_n 0, 1) := by decide +kernel
theorem dX3_closeWord_8 : decode cX3_closeWord 8 = .ok (.getfield 65, 3) := by decide +kernel
theorem dX3_closeWord_11 : decode cX3_closeWord 11 = .ok (.aload_n 0, 1) := by decide +kernel
theorem dX3_closeWord_12 : decode cX3_closeWord 12 = .ok (.getfield 78, 3) := by decide +kernel
theorem dX3_closeWord_15 : decode cX3_closeWord 15 = .ok (.iastore, 1) := by decide +kernel
theorem dX3_closeWord_16 : decode cX3_closeWord 16 = .ok (.aload_n 0, 1) := by decide +kernel
theorem dX3_closeWord_17 : decode cX3_closeWord 17 = .ok (.getfield 88, 3) := by decide +kernel
theorem dX3_closeWord_20 : decode cX3_closeWord 20 = .ok (.ifCond .eq 8, 3) := by decide +kernel
theorem dX3_closeWord_23 : decode cX3_closeWord 23 = .ok (.aload_n 0, 1) := by decide +kernel
theorem dX3_closeWord_24 : decode cX3_closeWord 24 = .ok (.iconst 1, 1) := by decide +kernel
theorem dX3_closeWord_25 : decode cX3_closeWord 25 = .ok (.putfield 29, 3) := by decide +kernel
theorem dX3_closeWord_28 : decode cX3_closeWord 28 = .ok (.return_, 1) := by decide +kernel
theorem dX4_init_0 : decode cX4_init 0 = .ok (.aload_n 0, 1) := by decide +kernel
theorem dX4_init_1 : decode cX4_init 1 = .ok (.invokespecial 3, 3) := by decide +kernel
theorem dX4_init_4 : decode cX4_init 4 = .ok (.aload_n 0, 1) := by decide +kernel
theorem dX4_init_5 : decode cX4_init 5 = .ok (.bipush 6, 2) := by decide +kernel
theorem dX4_init_7 : decode cX4_init 7 = .ok (.newarray .int, 2) := by decide +kernel
theorem dX4_init_9 : decode cX4_init 9 = .ok (.putfield 9, 3) := by decide +kernel
theorem dX4_init_12 : decode cX4_init 12 = .ok (.aload_n 0, 1) := by decide +kernel
theorem dX4_init_13 : decode cX4_init 13 = .ok (.bipush 6, 2) := by decide +kernel
theorem dX4_init_15 : decode cX4_init 15 = .ok (.newarray .int, 2) := by decide +kernel
theorem dX4_init_17 : decode cX4_init 17 = .ok (.putfield 15, 3) := by decide +kernel
theorem dX4_init_20 : decode cX4_init 20 = .ok (.aload_n 0, 1) := by decide +kernel
theorem dX4_init_21 : decode cX4_init 21 = .ok (.bipush 6, 2) := by decide +kernel
theorem dX4_init_23 : decode cX4_init 23 = .ok (.newarray .boolean, 2) := by decide +kernel
theorem dX4_init_25 : decode cX4_init 25 = .ok (.putfield 18, 3) := by decide +kernel
theorem dX4_init_28 : decode cX4_init 28 = .ok (.return_, 1) := by decide +kernel
theorem dX4_clear_0 : decode cX4_clear 0 = .ok (.aload_n 0, 1) := by decide +kernel
theorem dX4_clear_1 : decode cX4_clear 1 = .ok (.iconst 0, 1) := by decide +kernel
theorem dX4_clear_2 : decode cX4_clear 2 = .ok (.putfield 22, 3) := by decide +kernel
theorem dX4_clear_5 : decode cX4_clear 5 = .ok (.return_, 1) := by decide +kernel
theorem dX4_add_0 : decode cX4_add 0 = .ok (.aload_n 0, 1) := by decide +kernel
theorem dX4_add_1 : decode cX4_add 1 = .ok (.getfield 9, 3) := by decide +kernel
theorem dX4_add_4 : decode cX4_add 4 = .ok (.aload_n 0, 1) := by decide +kernel
theorem dX4_add_5 : decode cX4_add 5 = .ok (.getfield 22, 3) := by decide +kernel
theorem dX4_add_8 : decode cX4_add 8 = .ok (.iload_n 1, 1) := by decide +kernel
theorem dX4_add_9 : decode cX4_add 9 = .ok (.iastore, 1) := by decide +kernel
theorem dX4_add_10 : decode cX4_add 10 = .ok (.aload_n 0, 1) := by decide +kernel
theorem dX4_add_11 : decode cX4_add 11 = .ok (.getfield 15, 3) := by decide +kernel
theorem dX4_add_14 : decode cX4_add 14 = .ok (.aload_n 0, 1) := by decide +kernel
theorem dX4_add_15 : decode cX4_add 15 = .ok (.getfield 22, 3) := by decide +kernel
theorem dX4_add_18 : decode cX4_add 18 = .ok (.iload_n 2, 1) := by decide +kernel
theorem dX4_add_19 : decode cX4_add 19 = .ok (.iastore, 1) := by decide +kernel
theorem dX4_add_20 : decode cX4_add 20 = .ok (.aload_n 0, 1) := by decide +kernel
theorem dX4_add_21 : decode cX4_add 21 = .ok (.getfield 18, 3) := by decide +kernel
theorem dX4_add_24 : decode cX4_add 24 = .ok (.aload_n 0, 1) := by decide +kernel
theorem dX4_add_25 : decode cX4_add 25 = .ok (.getfield 22, 3) := by decide +kernel
theorem dX4_add_28 : decode cX4_add 28 = .ok (.iload_n 3, 1) := by decide +kernel
theorem dX4_add_29 : decode cX4_add 29 = .ok (.bastore, 1) := by decide +kernel
theorem dX4_add_30 : decode cX4_add 30 = .ok (.aload_n 0, 1) := by decide +kernel
theorem dX4_add_31 : decode cX4_add 31 = .ok (.dup, 1) := by decide +kernel
theorem dX4_add_32 : decode cX4_add 32 = .ok (.getfield 22, 3) := by decide +kernel
theorem dX4_add_35 : decode cX4_add 35 = .ok (.iconst 1, 1) := by decide +kernel
theorem dX4_add_36 : decode cX4_add 36 = .ok (.iadd, 1) := by decide +kernel
theorem dX4_add_37 : decode cX4_add 37 = .ok (.putfield 22, 3) := by decide +kernel
theorem dX4_add_40 : decode cX4_add 40 = .ok (.return_, 1) := by decide +kernel
set_option maxRecDepth 20000 in
theorem ggX4_become_X4_add : GoodIn wsX4_become wsX4_add := goodIn_r _ [9, 2, 1, 3, 4, 10, 11, 12, 13] (by decide +kernel) (by decide +kernel)
set_option maxRecDepth 20000 in
theorem gX4_become_X4_add : GoodIn wsX4_become (wsV RX4 26 RX4 yX4_add wsX4_add) := goodIn_app (goodIn_of _ (by decide +kernel)) ggX4_become_X4_add
theorem dX4_become_0 : decode cX4_become 0 = .ok (.aload_n 0, 1) := by decide +kernel
theorem dX4_become_1 : decode cX4_become 1 = .ok (.iconst 0, 1) := by decide +kernel
theorem dX4_become_2 : decode cX4_become 2 = .ok (.putfield 22, 3) := by decide +kernel
theorem dX4_become_5 : decode cX4_become 5 = .ok (.iconst 0, 1) := by decide +kernel
theorem dX4_become_6 : decode cX4_become 6 = .ok (.istore_n 2, 1) := by decide +kernel
theorem dX4_become_7 : decode cX4_become 7 = .ok (.iload_n 2, 1) := by decide +kernel
theorem dX4_become_8 : decode cX4_become 8 = .ok (.aload_n 1, 1) := by decide +kernel
theorem dX4_become_9 : decode cX4_become 9 = .ok (.getfield 22, 3) := by decide +kernel
theorem dX4_become_12 : decode cX4_become 12 = .ok (.if_icmp .ge 31, 3) := by decide +kernel
theorem dX4_become_15 : decode cX4_become 15 = .ok (.aload_n 0, 1) := by decide +kernel
theorem dX4_become_16 : decode cX4_become 16 = .ok (.aload_n 1, 1) := by decide +kernel
theorem dX4_become_17 : decode cX4_become 17 = .ok (.getfield 9, 3) := by decide +kernel
theorem dX4_become_20 : decode cX4_become 20 = .ok (.iload_n 2, 1) := by decide +kernel
theorem dX4_become_21 : decode cX4_become 21 = .ok (.iaload, 1) := by decide +kernel
theorem dX4_become_22 : decode cX4_become 22 = .ok (.aload_n 1, 1) := by decide +kernel
theorem dX4_become_23 : decode cX4_become 23 = .ok (.getfield 15, 3) := by decide +kernel
theorem dX4_become_26 : decode cX4_become 26 = .ok (.iload_n 2, 1) := by decide +kernel
theorem dX4_become_27 : decode cX4_become 27 = .ok (.iaload, 1) := by decide +kernel
theorem dX4_become_28 : decode cX4_become 28 = .ok (.aload_n 1, 1) := by decide +kernel
theorem dX4_become_29 : decode cX4_become 29 = .ok (.getfield 18, 3) := by decide +kernel
theorem dX4_become_32 : decode cX4_become 32 = .ok (.iload_n 2, 1) := by decide +kernel
theorem dX4_become_33 : decode cX4_become 33 = .ok (.baload, 1) := by decide +kernel
theorem dX4_become_34 : decode cX4_become 34 = .ok (.invokevirtual 26, 3) := by decide +kernel
theorem dX4_become_37 : decode cX4_become 37 = .ok (.iinc 2 1, 3) := by decide +kernel
theorem dX4_become_40 : decode cX4_become 40 = .ok (.goto (-33), 3) := by decide +kernel
theorem dX4_become_43 : decode cX4_become 43 = .ok (.return_, 1) := by decide +kernel
theorem dX4_loseSet_0 : decode cX4_loseSet 0 = .ok (.iconst 0, 1) := by decide +kernel
theorem dX4_loseSet_1 : decode cX4_loseSet 1 = .ok (.istore_n 2, 1) := by decide +kernel
theorem dX4_loseSet_2 : decode cX4_loseSet 2 = .ok (.iload_n 2, 1) := by decide +kernel
theorem dX4_loseSet_3 : decode cX4_loseSet 3 = .ok (.aload_n 0, 1) := by decide +kernel
theorem dX4_loseSet_4 : decode cX4_loseSet 4 = .ok (.getfield 22, 3) := by decide +kernel
theorem dX4_loseSet_7 : decode cX4_loseSet 7 = .ok (.if_icmp .ge 49, 3) := by decide +kernel
theorem dX4_loseSet_10 : decode cX4_loseSet 10 = .ok (.aload_n 0, 1) := by decide +kernel
theorem dX4_loseSet_11 : decode cX4_loseSet 11 = .ok (.getfield 9, 3) := by decide +kernel
theorem dX4_loseSet_14 : decode cX4_loseSet 14 = .ok (.iload_n 2, 1) := by decide +kernel
theorem dX4_loseSet_15 : decode cX4_loseSet 15 = .ok (.iaload, 1) := by decide +kernel
theorem dX4_loseSet_16 : decode cX4_loseSet 16 = .ok (.iload_n 1, 1) := by decide +kernel
theorem dX4_loseSet_17 : decode cX4_loseSet 17 = .ok (.if_icmp .ne 13, 3) := by decide +kernel
theorem dX4_loseSet_20 : decode cX4_loseSet 20 = .ok (.aload_n 0, 1) := by decide +kernel
theorem dX4_loseSet_21 : decode cX4_loseSet 21 = .ok (.getfield 9, 3) := by decide +kernel
theorem dX4_loseSet_24 : decode cX4_loseSet 24 = .ok (.iload_n 2, 1) := by decide +kernel
theorem dX4_loseSet_25 : decode cX4_loseSet 25 = .ok (.iconst (-1), 1) := by decide +kernel
theorem dX4_loseSet_26 : decode cX4_loseSet 26 = .ok (.iastore, 1) := by decide +kernel
theorem dX4_loseSet_27 : decode cX4_loseSet 27 = .ok (.goto 23, 3) := by decide +kernel
theorem dX4_loseSet_30 : decode cX4_loseSet 30 = .ok (.aload_n 0, 1) := by decide +kernel
theorem dX4_loseSet_31 : decode cX4_loseSet 31 = .ok (.getfield 9, 3) := by decide +kernel
theorem dX4_loseSet_34 : decode cX4_loseSet 34 = .ok (.iload_n 2, 1) := by decide +kernel
theorem dX4_loseSet_35 : decode cX4_loseSet 35 = .ok (.iaload, 1) := by decide +kernel
theorem dX4_loseSet_36 : decode cX4_loseSet 36 = .ok (.iload_n 1, 1) := by decide +kernel
theorem dX4_loseSet_37 : decode cX4_loseSet 37 = .ok (.if_icmp .le 13, 3) := by decide +kernel
theorem dX4_loseSet_40 : decode cX4_loseSet 40 = .ok (.aload_n 0, 1) := by decide +kernel
theorem dX4_loseSet_41 : decode cX4_loseSet 41 = .ok (.getfield 9, 3) := by decide +kernel
theorem dX4_loseSet_44 : decode cX4_loseSet 44 = .ok (.iload_n 2, 1) := by decide +kernel
theorem dX4_loseSet_45 : decode cX4_loseSet 45 = .ok (.dup2, 1) := by decide +kernel
theorem dX4_loseSet_46 : decode cX4_loseSet 46 = .ok (.iaload, 1) := by decide +kernel
theorem dX4_loseSet_47 : decode cX4_loseSet 47 = .ok (.iconst 1, 1) := by decide +kernel
theorem dX4_loseSet_48 : decode cX4_loseSet 48 = .ok (.isub, 1) := by decide +kernel
theorem dX4_loseSet_49 : decode cX4_loseSet 49 = .ok (.iastore, 1) := by decide +kernel
theorem dX4_loseSet_50 : decode cX4_loseSet 50 = .ok (.iinc 2 1, 3) := by decide +kernel
theorem dX4_loseSet_53 : decode cX4_loseSet 53 = .ok (.goto (-51), 3) := by decide +kernel
theorem dX4_loseSet_56 : decode cX4_loseSet 56 = .ok (.return_, 1) := by decide +kernel
set_option maxRecDepth 20000 in
theorem ggX4_sortsOf_X4_sortsThatCould : GoodIn wsX4_sortsOf wsX4_sortsThatCould := goodIn_r _ [8, 9, 10, 7, 11] (by decide +kernel) (by decide +kernel)
set_option maxRecDepth 20000 in
theorem gX4_sortsOf_X4_sortsThatCould : GoodIn wsX4_sortsOf (va_wsS RX4 30 yX4_sortsThatCould wsX4_sortsThatCould) := goodIn_app (goodIn_of _ (by decide +kernel)) ggX4_sortsOf_X4_sortsThatCould
theorem dX4_sortsOf_0 : decode cX4_sortsOf 0 = .ok (.bipush 31, 2) := by decide +kernel
theorem dX4_sortsOf_2 : decode cX4_sortsOf 2 = .ok (.istore_n 2, 1) := by decide +kernel
theorem dX4_sortsOf_3 : decode cX4_sortsOf 3 = .ok (.iconst 0, 1) := by decide +kernel
theorem dX4_sortsOf_4 : decode cX4_sortsOf 4 = .ok (.istore_n 3, 1) := by decide +kernel
theorem dX4_sortsOf_5 : decode cX4_sortsOf 5 = .ok (.iload_n 3, 1) := by decide +kernel
theorem dX4_sortsOf_6 : decode cX4_sortsOf 6 = .ok (.aload_n 0, 1) := by decide +kernel
theorem dX4_sortsOf_7 : decode cX4_sortsOf 7 = .ok (.getfield 22, 3) := by decide +kernel
theorem dX4_sortsOf_10 : decode cX4_sortsOf 10 = .ok (.if_icmp .ge 51, 3) := by decide +kernel
theorem dX4_sortsOf_13 : decode cX4_sortsOf 13 = .ok (.aload_n 0, 1) := by decide +kernel
theorem dX4_sortsOf_14 : decode cX4_sortsOf 14 = .ok (.getfield 9, 3) := by decide +kernel
theorem dX4_sortsOf_17 : decode cX4_sortsOf 17 = .ok (.iload_n 3, 1) := by decide +kernel
theorem dX4_sortsOf_18 : decode cX4_sortsOf 18 = .ok (.iaload, 1) := by decide +kernel
theorem dX4_sortsOf_19 : decode cX4_sortsOf 19 = .ok (.iload_n 1, 1) := by decide +kernel
theorem dX4_sortsOf_20 : decode cX4_sortsOf 20 = .ok (.if_icmp .ne 35, 3) := by decide +kernel
theorem dX4_sortsOf_23 : decode cX4_sortsOf 23 = .ok (.aload_n 0, 1) := by decide +kernel
theorem dX4_sortsOf_24 : decode cX4_sortsOf 24 = .ok (.getfield 15, 3) := by decide +kernel
theorem dX4_sortsOf_27 : decode cX4_sortsOf 27 = .ok (.iload_n 3, 1) := by decide +kernel
theorem dX4_sortsOf_28 : decode cX4_sortsOf 28 = .ok (.iaload, 1) := by decide +kernel
theorem dX4_sortsOf_29 : decode cX4_sortsOf 29 = .ok (.invokestatic 30, 3) := by decide +kernel
theorem dX4_sortsOf_32 : decode cX4_sortsOf 32 = .ok (.istore 4, 2) := by decide +kernel
theorem dX4_sortsOf_34 : decode cX4_sortsOf 34 = .ok (.iload_n 2, 1) := by decide +kernel
theorem dX4_sortsOf_35 : decode cX4_sortsOf 35 = .ok (.aload_n 0, 1) := by decide +kernel
theorem dX4_sortsOf_36 : decode cX4_sortsOf 36 = .ok (.getfield 18, 3) := by decide +kernel
theorem dX4_sortsOf_39 : decode cX4_sortsOf 39 = .ok (.iload_n 3, 1) := by decide +kernel
theorem dX4_sortsOf_40 : decode cX4_sortsOf 40 = .ok (.baload, 1) := by decide +kernel
theorem dX4_sortsOf_41 : decode cX4_sortsOf 41 = .ok (.ifCond .eq 8, 3) := by decide +kernel
theorem dX4_sortsOf_44 : decode cX4_sortsOf 44 = .ok (.iload 4, 2) := by decide +kernel
theorem dX4_sortsOf_46 : decode cX4_sortsOf 46 = .ok (.goto 7, 3) := by decide +kernel
theorem dX4_sortsOf_49 : decode cX4_sortsOf 49 = .ok (.iload 4, 2) := by decide +kernel
theorem dX4_sortsOf_51 : decode cX4_sortsOf 51 = .ok (.iconst (-1), 1) := by decide +kernel
theorem dX4_sortsOf_52 : decode cX4_sortsOf 52 = .ok (.ixor, 1) := by decide +kernel
theorem dX4_sortsOf_53 : decode cX4_sortsOf 53 = .ok (.iand, 1) := by decide +kernel
theorem dX4_sortsOf_54 : decode cX4_sortsOf 54 = .ok (.istore_n 2, 1) := by decide +kernel
theorem dX4_sortsOf_55 : decode cX4_sortsOf 55 = .ok (.iinc 3 1, 3) := by decide +kernel
theorem dX4_sortsOf_58 : decode cX4_sortsOf 58 = .ok (.goto (-53), 3) := by decide +kernel
theorem dX4_sortsOf_61 : decode cX4_sortsOf 61 = .ok (.iload_n 2, 1) := by decide +kernel
theorem dX4_sortsOf_62 : decode cX4_sortsOf 62 = .ok (.ireturn, 1) := by decide +kernel
set_option maxRecDepth 20000 in
theorem ggX4_questionFor_X4_sortsOf : GoodIn wsX4_questionFor wsX4_sortsOf := goodIn_r _ [9, 10, 11, 12, 13, 14, 15, 8, 16, 17, 18, 19, 27, 28, 29, 30] (by decide +kernel) (by decide +kernel)
set_option maxRecDepth 20000 in
theorem gX4_questionFor_X4_sortsOf : GoodIn wsX4_questionFor (wsV RX4 34 RX4 yX4_sortsOf wsX4_sortsOf) := goodIn_app (goodIn_of _ (by decide +kernel)) ggX4_questionFor_X4_sortsOf
set_option maxRecDepth 20000 in
theorem ggX4_questionFor_X4_sortsThatCould : GoodIn wsX4_questionFor wsX4_sortsThatCould := goodIn_r _ [16, 17, 18, 8, 19] (by decide +kernel) (by decide +kernel)
set_option maxRecDepth 20000 in
theorem gX4_questionFor_X4_sortsThatCould : GoodIn wsX4_questionFor (va_wsS RX4 30 yX4_sortsThatCould wsX4_sortsThatCould) := goodIn_app (goodIn_of _ (by decide +kernel)) ggX4_questionFor_X4_sortsThatCould
set_option maxRecDepth 20000 in
theorem ggX4_questionFor_J6_bitCount_0f7a4 : GoodIn wsX4_questionFor wsJ6_bitCount_0f7a4 := goodIn_r _ [23, 24, 25, 26] (by decide +kernel) (by decide +kernel)
set_option maxRecDepth 20000 in
theorem gX4_questionFor_J6_bitCount_0f7a4 : GoodIn wsX4_questionFor (va_wsS RX4 37 yJ6_bitCount_0f7a4 wsJ6_bitCount_0f7a4) := goodIn_app (goodIn_of _ (by decide +kernel)) ggX4_questionFor_J6_bitCount_0f7a4
theorem dX4_questionFor_0 : decode cX4_questionFor 0 = .ok (.aload_n 0, 1) := by decide +kernel
theorem dX4_questionFor_1 : decode cX4_questionFor 1 = .ok (.iload_n 1, 1) := by decide +kernel
theorem dX4_questionFor_2 : decode cX4_questionFor 2 = .ok (.invokevirtual 34, 3) := by decide +kernel
theorem dX4_questionFor_5 : decode cX4_questionFor 5 = .ok (.istore_n 2, 1) := by decide +kernel
theorem dX4_questionFor_6 : decode cX4_questionFor 6 = .ok (.iconst (-1), 1) := by decide +kernel
theorem dX4_questionFor_7 : decode cX4_questionFor 7 = .ok (.istore_n 3, 1) := by decide +kernel
theorem dX4_questionFor_8 : decode cX4_questionFor 8 = .ok (.iconst 0, 1) := by decide +kernel
theorem dX4_questionFor_9 : decode cX4_questionFor 9 = .ok (.istore 4, 2) := by decide +kernel
theorem dX4_questionFor_11 : decode cX4_questionFor 11 = .ok (.iconst 0, 1) := by decide +kernel
theorem dX4_questionFor_12 : decode cX4_questionFor 12 = .ok (.istore 5, 2) := by decide +kernel
theorem dX4_questionFor_14 : decode cX4_questionFor 14 = .ok (.iload 5, 2) := by decide +kernel
theorem dX4_questionFor_16 : decode cX4_questionFor 16 = .ok (.iconst 4, 1) := by decide +kernel
theorem dX4_questionFor_17 : decode cX4_questionFor 17 = .ok (.if_icmp .ge 60, 3) := by decide +kernel
theorem dX4_questionFor_20 : decode cX4_questionFor 20 = .ok (.iload_n 2, 1) := by decide +kernel
theorem dX4_questionFor_21 : decode cX4_questionFor 21 = .ok (.ifCond .eq 56, 3) := by decide +kernel
theorem dX4_questionFor_24 : decode cX4_questionFor 24 = .ok (.iload 5, 2) := by decide +kernel
theorem dX4_questionFor_26 : decode cX4_questionFor 26 = .ok (.invokestatic 30, 3) := by decide +kernel
theorem dX4_questionFor_29 : decode cX4_questionFor 29 = .ok (.istore 6, 2) := by decide +kernel
theorem dX4_questionFor_31 : decode cX4_questionFor 31 = .ok (.iload_n 2, 1) := by decide +kernel
theorem dX4_questionFor_32 : decode cX4_questionFor 32 = .ok (.iload 6, 2) := by decide +kernel
theorem dX4_questionFor_34 : decode cX4_questionFor 34 = .ok (.iand, 1) := by decide +kernel
theorem dX4_questionFor_35 : decode cX4_questionFor 35 = .ok (.invokestatic 37, 3) := by decide +kernel
theorem dX4_questionFor_38 : decode cX4_questionFor 38 = .ok (.iload_n 2, 1) := by decide +kernel
theorem dX4_questionFor_39 : decode cX4_questionFor 39 = .ok (.iload 6, 2) := by decide +kernel
theorem dX4_questionFor_41 : decode cX4_questionFor 41 = .ok (.iconst (-1), 1) := by decide +kernel
theorem dX4_questionFor_42 : decode cX4_questionFor 42 = .ok (.ixor, 1) := by decide +kernel
theorem dX4_questionFor_43 : decode cX4_questionFor 43 = .ok (.iand, 1) := by decide +kernel
theorem dX4_questionFor_44 : decode cX4_questionFor 44 = .ok (.invokestatic 37, 3) := by decide +kernel
theorem dX4_questionFor_47 : decode cX4_questionFor 47 = .ok (.invokestatic 42, 3) := by decide +kernel
theorem dX4_questionFor_50 : decode cX4_questionFor 50 = .ok (.istore 7, 2) := by decide +kernel
theorem dX4_questionFor_52 : decode cX4_questionFor 52 = .ok (.iload_n 3, 1) := by decide +kernel
theorem dX4_questionFor_53 : decode cX4_questionFor 53 = .ok (.iconst (-1), 1) := by decide +kernel
theorem dX4_questionFor_54 : decode cX4_questionFor 54 = .ok (.if_icmp .eq 10, 3) := by decide +kernel
theorem dX4_questionFor_57 : decode cX4_questionFor 57 = .ok (.iload 7, 2) := by decide +kernel
theorem dX4_questionFor_59 : decode cX4_questionFor 59 = .ok (.iload 4, 2) := by decide +kernel
theorem dX4_questionFor_61 : decode cX4_questionFor 61 = .ok (.if_icmp .ge 10, 3) := by decide +kernel
theorem dX4_questionFor_64 : decode cX4_questionFor 64 = .ok (.iload 5, 2) := by decide +kernel
theorem dX4_questionFor_66 : decode cX4_questionFor 66 = .ok (.istore_n 3, 1) := by decide +kernel
theorem dX4_questionFor_67 : decode cX4_questionFor 67 = .ok (.iload 7, 2) := by decide +kernel
theorem dX4_questionFor_69 : decode cX4_questionFor 69 = .ok (.istore 4, 2) := by decide +kernel
theorem dX4_questionFor_71 : decode cX4_questionFor 71 = .ok (.iinc 5 1, 3) := by decide +kernel
theorem dX4_questionFor_74 : decode cX4_questionFor 74 = .ok (.goto (-60), 3) := by decide +kernel
theorem dX4_questionFor_77 : decode cX4_questionFor 77 = .ok (.iload_n 3, 1) := by decide +kernel
theorem dX4_questionFor_78 : decode cX4_questionFor 78 = .ok (.ireturn, 1) := by decide +kernel
set_option maxRecDepth 20000 in
theorem ggX4_sortsThatCould_X4_could : GoodIn wsX4_sortsThatCould wsX4_could := goodIn_r _ [4] (by decide +kernel) (by decide +kernel)
set_option maxRecDepth 20000 in
theorem gX4_sortsThatCould_X4_could : GoodIn wsX4_sortsThatCould (va_wsS RX4 48 yX4_could wsX4_could) := goodIn_app (goodIn_of _ (by decide +kernel)) ggX4_sortsThatCould_X4_could
theorem dX4_sortsThatCould_0 : decode cX4_sortsThatCould 0 = .ok (.iconst 0, 1) := by decide +kernel
theorem dX4_sortsThatCould_1 : decode cX4_sortsThatCould 1 = .ok (.istore_n 1, 1) := by decide +kernel
theorem dX4_sortsThatCould_2 : decode cX4_sortsThatCould 2 = .ok (.iconst 0, 1) := by decide +kernel
theorem dX4_sortsThatCould_3 : decode cX4_sortsThatCould 3 = .ok (.istore_n 2, 1) := by decide +kernel
theorem dX4_sortsThatCould_4 : decode cX4_sortsThatCould 4 = .ok (.iload_n 2, 1) := by decide +kernel
theorem dX4_sortsThatCould_5 : decode cX4_sortsThatCould 5 = .ok (.iconst 5, 1) := by decide +kernel
theorem dX4_sortsThatCould_6 : decode cX4_sortsThatCould 6 = .ok (.if_icmp .ge 23, 3) := by decide +kernel
theorem dX4_sortsThatCould_9 : decode cX4_sortsThatCould 9 = .ok (.iload_n 2, 1) := by decide +kernel
theorem dX4_sortsThatCould_10 : decode cX4_sortsThatCould 10 = .ok (.iload_n 0, 1) := by decide +kernel
theorem dX4_sortsThatCould_11 : decode cX4_sortsThatCould 11 = .ok (.invokestatic 48, 3) := by decide +kernel
theorem dX4_sortsThatCould_14 : decode cX4_sortsThatCould 14 = .ok (.ifCond .eq 9, 3) := by decide +kernel
theorem dX4_sortsThatCould_17 : decode cX4_sortsThatCould 17 = .ok (.iload_n 1, 1) := by decide +kernel
theorem dX4_sortsThatCould_18 : decode cX4_sortsThatCould 18 = .ok (.iconst 1, 1) := by decide +kernel
theorem dX4_sortsThatCould_19 : decode cX4_sortsThatCould 19 = .ok (.iload_n 2, 1) := by decide +kernel
theorem dX4_sortsThatCould_20 : decode cX4_sortsThatCould 20 = .ok (.ishl, 1) := by decide +kernel
theorem dX4_sortsThatCould_21 : decode cX4_sortsThatCould 21 = .ok (.ior, 1) := by decide +kernel
theorem dX4_sortsThatCould_22 : decode cX4_sortsThatCould 22 = .ok (.istore_n 1, 1) := by decide +kernel
theorem dX4_sortsThatCould_23 : decode cX4_sortsThatCould 23 = .ok (.iinc 2 1, 3) := by decide +kernel
theorem dX4_sortsThatCould_26 : decode cX4_sortsThatCould 26 = .ok (.goto (-22), 3) := by decide +kernel
theorem dX4_sortsThatCould_29 : decode cX4_sortsThatCould 29 = .ok (.iload_n 1, 1) := by decide +kernel
theorem dX4_sortsThatCould_30 : decode cX4_sortsThatCould 30 = .ok (.ireturn, 1) := by decide +kernel
theorem dX4_could_0 : decode cX4_could 0 = .ok (.iload_n 1, 1) := by decide +kernel
theorem dX4_could_1 : decode cX4_could 1 = .ok (.tableswitch 70 0 2 #[27, 41, 55], 27) := by decide +kernel
theorem dX4_could_28 : decode cX4_could 28 = .ok (.getstatic 52, 3) := by decide +kernel
theorem dX4_could_31 : decode cX4_could 31 = .ok (.iload_n 0, 1) := by decide +kernel
theorem dX4_could_32 : decode cX4_could 32 = .ok (.iaload, 1) := by decide +kernel
theorem dX4_could_33 : decode cX4_could 33 = .ok (.ifCond .le 7, 3) := by decide +kernel
theorem dX4_could_36 : decode cX4_could 36 = .ok (.iconst 1, 1) := by decide +kernel
theorem dX4_could_37 : decode cX4_could 37 = .ok (.goto 4, 3) := by decide +kernel
theorem dX4_could_40 : decode cX4_could 40 = .ok (.iconst 0, 1) := by decide +kernel
theorem dX4_could_41 : decode cX4_could 41 = .ok (.ireturn, 1) := by decide +kernel
theorem dX4_could_42 : decode cX4_could 42 = .ok (.getstatic 55, 3) := by decide +kernel
theorem dX4_could_45 : decode cX4_could 45 = .ok (.iload_n 0, 1) := by decide +kernel
theorem dX4_could_46 : decode cX4_could 46 = .ok (.iaload, 1) := by decide +kernel
theorem dX4_could_47 : decode cX4_could 47 = .ok (.ifCond .eq 7, 3) := by decide +kernel
theorem dX4_could_50 : decode cX4_could 50 = .ok (.iconst 1, 1) := by decide +kernel
theorem dX4_could_51 : decode cX4_could 51 = .ok (.goto 4, 3) := by decide +kernel
theorem dX4_could_54 : decode cX4_could 54 = .ok (.iconst 0, 1) := by decide +kernel
theorem dX4_could_55 : decode cX4_could 55 = .ok (.ireturn, 1) := by decide +kernel
theorem dX4_could_56 : decode cX4_could 56 = .ok (.getstatic 52, 3) := by decide +kernel
theorem dX4_could_59 : decode cX4_could 59 = .ok (.iload_n 0, 1) := by decide +kernel
theorem dX4_could_60 : decode cX4_could 60 = .ok (.iaload, 1) := by decide +kernel
theorem dX4_could_61 : decode cX4_could 61 = .ok (.iconst 2, 1) := by decide +kernel
theorem dX4_could_62 : decode cX4_could 62 = .ok (.if_icmp .ne 7, 3) := by decide +kernel
theorem dX4_could_65 : decode cX4_could 65 = .ok (.iconst 1, 1) := by decide +kernel
theorem dX4_could_66 : decode cX4_could 66 = .ok (.goto 4, 3) := by decide +kernel
theorem dX4_could_69 : decode cX4_could 69 = .ok (.iconst 0, 1) := by decide +kernel
theorem dX4_could_70 : decode cX4_could 70 = .ok (.ireturn, 1) := by decide +kernel
theorem dX4_could_71 : decode cX4_could 71 = .ok (.getstatic 55, 3) := by decide +kernel
theorem dX4_could_74 : decode cX4_could 74 = .ok (.iload_n 0, 1) := by decide +kernel
theorem dX4_could_75 : decode cX4_could 75 = .ok (.iaload, 1) := by decide +kernel
theorem dX4_could_76 : decode cX4_could 76 = .ok (.ifCond .eq 15, 3) := by decide +kernel
theorem dX4_could_79 : decode cX4_could 79 = .ok (.getstatic 52, 3) := by decide +kernel
theorem dX4_could_82 : decode cX4_could 82 = .ok (.iload_n 0, 1) := by decide +kernel
theorem dX4_could_83 : decode cX4_could 83 = .ok (.iaload, 1) := by decide +kernel
theorem dX4_could_84 : decode cX4_could 84 = .ok (.ifCond .ne 7, 3) := by decide +kernel
theorem dX4_could_87 : decode cX4_could 87 = .ok (.iconst 1, 1) := by decide +kernel
theorem dX4_could_88 : decode cX4_could 88 = .ok (.goto 4, 3) := by decide +kernel
theorem dX4_could_91 : decode cX4_could 91 = .ok (.iconst 0, 1) := by decide +kernel
theorem dX4_could_92 : decode cX4_could 92 = .ok (.ireturn, 1) := by decide +kernel
theorem dX5_init_0 : decode cX5_init 0 = .ok (.aload_n 0, 1) := by decide +kernel
theorem dX5_init_1 : decode cX5_init 1 = .ok (.invokespecial 3, 3) := by decide +kernel
theorem dX5_init_4 : decode cX5_init 4 = .ok (.aload_n 0, 1) := by decide +kernel
theorem dX5_init_5 : decode cX5_init 5 = .ok (.bipush 6, 2) := by decide +kernel
theorem dX5_init_7 : decode cX5_init 7 = .ok (.newarray .int, 2) := by decide +kernel
theorem dX5_init_9 : decode cX5_init 9 = .ok (.putfield 9, 3) := by decide +kernel
theorem dX5_init_12 : decode cX5_init 12 = .ok (.aload_n 0, 1) := by decide +kernel
theorem dX5_init_13 : decode cX5_init 13 = .ok (.bipush 6, 2) := by decide +kernel
theorem dX5_init_15 : decode cX5_init 15 = .ok (.newarray .int, 2) := by decide +kernel
theorem dX5_init_17 : decode cX5_init 17 = .ok (.putfield 15, 3) := by decide +kernel
theorem dX5_init_20 : decode cX5_init 20 = .ok (.aload_n 0, 1) := by decide +kernel
theorem dX5_init_21 : decode cX5_init 21 = .ok (.bipush 96, 2) := by decide +kernel
theorem dX5_init_23 : decode cX5_init 23 = .ok (.newarray .int, 2) := by decide +kernel
theorem dX5_init_25 : decode cX5_init 25 = .ok (.putfield 18, 3) := by decide +kernel
theorem dX5_init_28 : decode cX5_init 28 = .ok (.return_, 1) := by decide +kernel
theorem dX5_become_0 : decode cX5_become 0 = .ok (.aload_n 0, 1) := by decide +kernel
end
section
theorem dX5_become_1 : decode cX5_become 1 = .ok (.aload_n 1, 1) := by decide +kernel
theorem dX5_become_2 : decode cX5_become 2 = .ok (.getfield 21, 3) := by decide +kernel
theorem dX5_become_5 : decode cX5_become 5 = .ok (.putfield 21, 3) := by decide +kernel
theorem dX5_become_8 : decode cX5_become 8 = .ok (.aload_n 0, 1) := by decide +kernel
theorem dX5_become_9 : decode cX5_become 9 = .ok (.aload_n 1, 1) := by decide +kernel
theorem dX5_become_10 : decode cX5_become 10 = .ok (.getfield 25, 3) := by decide +kernel
theorem dX5_become_13 : decode cX5_become 13 = .ok (.putfield 25, 3) := by decide +kernel
theorem dX5_become_16 : decode cX5_become 16 = .ok (.aload_n 1, 1) := by decide +kernel
theorem dX5_become_17 : decode cX5_become 17 = .ok (.getfield 9, 3) := by decide +kernel
theorem dX5_become_20 : decode cX5_become 20 = .ok (.iconst 0, 1) := by decide +kernel
theorem dX5_become_21 : decode cX5_become 21 = .ok (.aload_n 0, 1) := by decide +kernel
theorem dX5_become_22 : decode cX5_become 22 = .ok (.getfield 9, 3) := by decide +kernel
theorem dX5_become_25 : decode cX5_become 25 = .ok (.iconst 0, 1) := by decide +kernel
theorem dX5_become_26 : decode cX5_become 26 = .ok (.bipush 6, 2) := by decide +kernel
theorem dX5_become_28 : decode cX5_become 28 = .ok (.invokestatic 28, 3) := by decide +kernel
theorem dX5_become_31 : decode cX5_become 31 = .ok (.aload_n 1, 1) := by decide +kernel
theorem dX5_become_32 : decode cX5_become 32 = .ok (.getfield 15, 3) := by decide +kernel
theorem dX5_become_35 : decode cX5_become 35 = .ok (.iconst 0, 1) := by decide +kernel
theorem dX5_become_36 : decode cX5_become 36 = .ok (.aload_n 0, 1) := by decide +kernel
theorem dX5_become_37 : decode cX5_become 37 = .ok (.getfield 15, 3) := by decide +kernel
theorem dX5_become_40 : decode cX5_become 40 = .ok (.iconst 0, 1) := by decide +kernel
theorem dX5_become_41 : decode cX5_become 41 = .ok (.bipush 6, 2) := by decide +kernel
theorem dX5_become_43 : decode cX5_become 43 = .ok (.invokestatic 28, 3) := by decide +kernel
theorem dX5_become_46 : decode cX5_become 46 = .ok (.aload_n 1, 1) := by decide +kernel
theorem dX5_become_47 : decode cX5_become 47 = .ok (.getfield 18, 3) := by decide +kernel
theorem dX5_become_50 : decode cX5_become 50 = .ok (.iconst 0, 1) := by decide +kernel
theorem dX5_become_51 : decode cX5_become 51 = .ok (.aload_n 0, 1) := by decide +kernel
theorem dX5_become_52 : decode cX5_become 52 = .ok (.getfield 18, 3) := by decide +kernel
theorem dX5_become_55 : decode cX5_become 55 = .ok (.iconst 0, 1) := by decide +kernel
theorem dX5_become_56 : decode cX5_become 56 = .ok (.bipush 96, 2) := by decide +kernel
theorem dX5_become_58 : decode cX5_become 58 = .ok (.invokestatic 28, 3) := by decide +kernel
theorem dX5_become_61 : decode cX5_become 61 = .ok (.return_, 1) := by decide +kernel
set_option maxRecDepth 20000 in
theorem ggX5_putOver_X8_wordAt : GoodIn wsX5_putOver wsX8_wordAt := goodIn_r _ [10] (by decide +kernel) (by decide +kernel)
set_option maxRecDepth 20000 in
theorem gX5_putOver_X8_wordAt_n34 : GoodIn wsX5_putOver (wsX8_wordAt) := ggX5_putOver_X8_wordAt
theorem dX5_putOver_0 : decode cX5_putOver 0 = .ok (.aload_n 0, 1) := by decide +kernel
theorem dX5_putOver_1 : decode cX5_putOver 1 = .ok (.getfield 9, 3) := by decide +kernel
theorem dX5_putOver_4 : decode cX5_putOver 4 = .ok (.iload_n 2, 1) := by decide +kernel
theorem dX5_putOver_5 : decode cX5_putOver 5 = .ok (.aload_n 0, 1) := by decide +kernel
theorem dX5_putOver_6 : decode cX5_putOver 6 = .ok (.getfield 9, 3) := by decide +kernel
theorem dX5_putOver_9 : decode cX5_putOver 9 = .ok (.iload_n 1, 1) := by decide +kernel
theorem dX5_putOver_10 : decode cX5_putOver 10 = .ok (.iaload, 1) := by decide +kernel
theorem dX5_putOver_11 : decode cX5_putOver 11 = .ok (.iastore, 1) := by decide +kernel
theorem dX5_putOver_12 : decode cX5_putOver 12 = .ok (.aload_n 0, 1) := by decide +kernel
theorem dX5_putOver_13 : decode cX5_putOver 13 = .ok (.getfield 15, 3) := by decide +kernel
theorem dX5_putOver_16 : decode cX5_putOver 16 = .ok (.iload_n 2, 1) := by decide +kernel
theorem dX5_putOver_17 : decode cX5_putOver 17 = .ok (.aload_n 0, 1) := by decide +kernel
theorem dX5_putOver_18 : decode cX5_putOver 18 = .ok (.getfield 15, 3) := by decide +kernel
theorem dX5_putOver_21 : decode cX5_putOver 21 = .ok (.iload_n 1, 1) := by decide +kernel
theorem dX5_putOver_22 : decode cX5_putOver 22 = .ok (.iaload, 1) := by decide +kernel
theorem dX5_putOver_23 : decode cX5_putOver 23 = .ok (.iastore, 1) := by decide +kernel
theorem dX5_putOver_24 : decode cX5_putOver 24 = .ok (.aload_n 0, 1) := by decide +kernel
theorem dX5_putOver_25 : decode cX5_putOver 25 = .ok (.getfield 18, 3) := by decide +kernel
theorem dX5_putOver_28 : decode cX5_putOver 28 = .ok (.iload_n 1, 1) := by decide +kernel
theorem dX5_putOver_29 : decode cX5_putOver 29 = .ok (.iconst 0, 1) := by decide +kernel
theorem dX5_putOver_30 : decode cX5_putOver 30 = .ok (.invokestatic 34, 3) := by decide +kernel
theorem dX5_putOver_33 : decode cX5_putOver 33 = .ok (.aload_n 0, 1) := by decide +kernel
theorem dX5_putOver_34 : decode cX5_putOver 34 = .ok (.getfield 18, 3) := by decide +kernel
theorem dX5_putOver_37 : decode cX5_putOver 37 = .ok (.iload_n 2, 1) := by decide +kernel
theorem dX5_putOver_38 : decode cX5_putOver 38 = .ok (.iconst 0, 1) := by decide +kernel
theorem dX5_putOver_39 : decode cX5_putOver 39 = .ok (.invokestatic 34, 3) := by decide +kernel
theorem dX5_putOver_42 : decode cX5_putOver 42 = .ok (.bipush 16, 2) := by decide +kernel
theorem dX5_putOver_44 : decode cX5_putOver 44 = .ok (.invokestatic 28, 3) := by decide +kernel
theorem dX5_putOver_47 : decode cX5_putOver 47 = .ok (.return_, 1) := by decide +kernel
set_option maxRecDepth 20000 in
theorem ggX5_remove_X5_putOver : GoodIn wsX5_remove wsX5_putOver := goodIn_r _ [6, 7, 8, 9, 10, 11, 12, 13, 14, 15, 16, 17, 18, 19, 20, 21] (by decide +kernel) (by decide +kernel)
set_option maxRecDepth 20000 in
theorem gX5_remove_X5_putOver : GoodIn wsX5_remove (wsV RX5 38 RX5 yX5_putOver wsX5_putOver) := goodIn_app (goodIn_of _ (by decide +kernel)) ggX5_remove_X5_putOver
theorem dX5_remove_0 : decode cX5_remove 0 = .ok (.iload_n 1, 1) := by decide +kernel
theorem dX5_remove_1 : decode cX5_remove 1 = .ok (.iconst 1, 1) := by decide +kernel
theorem dX5_remove_2 : decode cX5_remove 2 = .ok (.iadd, 1) := by decide +kernel
theorem dX5_remove_3 : decode cX5_remove 3 = .ok (.istore_n 2, 1) := by decide +kernel
theorem dX5_remove_4 : decode cX5_remove 4 = .ok (.iload_n 2, 1) := by decide +kernel
theorem dX5_remove_5 : decode cX5_remove 5 = .ok (.aload_n 0, 1) := by decide +kernel
theorem dX5_remove_6 : decode cX5_remove 6 = .ok (.getfield 21, 3) := by decide +kernel
theorem dX5_remove_9 : decode cX5_remove 9 = .ok (.if_icmp .ge 17, 3) := by decide +kernel
theorem dX5_remove_12 : decode cX5_remove 12 = .ok (.aload_n 0, 1) := by decide +kernel
theorem dX5_remove_13 : decode cX5_remove 13 = .ok (.iload_n 2, 1) := by decide +kernel
theorem dX5_remove_14 : decode cX5_remove 14 = .ok (.iload_n 2, 1) := by decide +kernel
theorem dX5_remove_15 : decode cX5_remove 15 = .ok (.iconst 1, 1) := by decide +kernel
theorem dX5_remove_16 : decode cX5_remove 16 = .ok (.isub, 1) := by decide +kernel
theorem dX5_remove_17 : decode cX5_remove 17 = .ok (.invokevirtual 38, 3) := by decide +kernel
theorem dX5_remove_20 : decode cX5_remove 20 = .ok (.iinc 2 1, 3) := by decide +kernel
theorem dX5_remove_23 : decode cX5_remove 23 = .ok (.goto (-19), 3) := by decide +kernel
theorem dX5_remove_26 : decode cX5_remove 26 = .ok (.aload_n 0, 1) := by decide +kernel
theorem dX5_remove_27 : decode cX5_remove 27 = .ok (.dup, 1) := by decide +kernel
theorem dX5_remove_28 : decode cX5_remove 28 = .ok (.getfield 21, 3) := by decide +kernel
theorem dX5_remove_31 : decode cX5_remove 31 = .ok (.iconst 1, 1) := by decide +kernel
theorem dX5_remove_32 : decode cX5_remove 32 = .ok (.isub, 1) := by decide +kernel
theorem dX5_remove_33 : decode cX5_remove 33 = .ok (.putfield 21, 3) := by decide +kernel
theorem dX5_remove_36 : decode cX5_remove 36 = .ok (.return_, 1) := by decide +kernel
set_option maxRecDepth 20000 in
theorem ggX5_exchange_X8_wordAt : GoodIn wsX5_exchange wsX8_wordAt := goodIn_r _ [6] (by decide +kernel) (by decide +kernel)
set_option maxRecDepth 20000 in
theorem gX5_exchange_X8_wordAt_n34 : GoodIn wsX5_exchange (wsX8_wordAt) := ggX5_exchange_X8_wordAt
theorem dX5_exchange_0 : decode cX5_exchange 0 = .ok (.iconst 0, 1) := by decide +kernel
theorem dX5_exchange_1 : decode cX5_exchange 1 = .ok (.istore_n 3, 1) := by decide +kernel
theorem dX5_exchange_2 : decode cX5_exchange 2 = .ok (.iload_n 3, 1) := by decide +kernel
theorem dX5_exchange_3 : decode cX5_exchange 3 = .ok (.aload_n 0, 1) := by decide +kernel
theorem dX5_exchange_4 : decode cX5_exchange 4 = .ok (.getfield 21, 3) := by decide +kernel
theorem dX5_exchange_7 : decode cX5_exchange 7 = .ok (.if_icmp .ge 81, 3) := by decide +kernel
theorem dX5_exchange_10 : decode cX5_exchange 10 = .ok (.iconst 0, 1) := by decide +kernel
theorem dX5_exchange_11 : decode cX5_exchange 11 = .ok (.istore 4, 2) := by decide +kernel
theorem dX5_exchange_13 : decode cX5_exchange 13 = .ok (.iload 4, 2) := by decide +kernel
theorem dX5_exchange_15 : decode cX5_exchange 15 = .ok (.aload_n 0, 1) := by decide +kernel
theorem dX5_exchange_16 : decode cX5_exchange 16 = .ok (.getfield 15, 3) := by decide +kernel
theorem dX5_exchange_19 : decode cX5_exchange 19 = .ok (.iload_n 3, 1) := by decide +kernel
theorem dX5_exchange_20 : decode cX5_exchange 20 = .ok (.iaload, 1) := by decide +kernel
theorem dX5_exchange_21 : decode cX5_exchange 21 = .ok (.if_icmp .ge 61, 3) := by decide +kernel
theorem dX5_exchange_24 : decode cX5_exchange 24 = .ok (.iload_n 3, 1) := by decide +kernel
theorem dX5_exchange_25 : decode cX5_exchange 25 = .ok (.iload_n 1, 1) := by decide +kernel
theorem dX5_exchange_26 : decode cX5_exchange 26 = .ok (.invokestatic 34, 3) := by decide +kernel
theorem dX5_exchange_29 : decode cX5_exchange 29 = .ok (.iload 4, 2) := by decide +kernel
theorem dX5_exchange_31 : decode cX5_exchange 31 = .ok (.iadd, 1) := by decide +kernel
theorem dX5_exchange_32 : decode cX5_exchange 32 = .ok (.istore 5, 2) := by decide +kernel
theorem dX5_exchange_34 : decode cX5_exchange 34 = .ok (.iload_n 3, 1) := by decide +kernel
theorem dX5_exchange_35 : decode cX5_exchange 35 = .ok (.iload_n 2, 1) := by decide +kernel
theorem dX5_exchange_36 : decode cX5_exchange 36 = .ok (.invokestatic 34, 3) := by decide +kernel
theorem dX5_exchange_39 : decode cX5_exchange 39 = .ok (.iload 4, 2) := by decide +kernel
theorem dX5_exchange_41 : decode cX5_exchange 41 = .ok (.iadd, 1) := by decide +kernel
theorem dX5_exchange_42 : decode cX5_exchange 42 = .ok (.istore 6, 2) := by decide +kernel
theorem dX5_exchange_44 : decode cX5_exchange 44 = .ok (.aload_n 0, 1) := by decide +kernel
theorem dX5_exchange_45 : decode cX5_exchange 45 = .ok (.getfield 18, 3) := by decide +kernel
theorem dX5_exchange_48 : decode cX5_exchange 48 = .ok (.iload 5, 2) := by decide +kernel
theorem dX5_exchange_50 : decode cX5_exchange 50 = .ok (.iaload, 1) := by decide +kernel
theorem dX5_exchange_51 : decode cX5_exchange 51 = .ok (.istore 7, 2) := by decide +kernel
theorem dX5_exchange_53 : decode cX5_exchange 53 = .ok (.aload_n 0, 1) := by decide +kernel
theorem dX5_exchange_54 : decode cX5_exchange 54 = .ok (.getfield 18, 3) := by decide +kernel
theorem dX5_exchange_57 : decode cX5_exchange 57 = .ok (.iload 5, 2) := by decide +kernel
theorem dX5_exchange_59 : decode cX5_exchange 59 = .ok (.aload_n 0, 1) := by decide +kernel
theorem dX5_exchange_60 : decode cX5_exchange 60 = .ok (.getfield 18, 3) := by decide +kernel
theorem dX5_exchange_63 : decode cX5_exchange 63 = .ok (.iload 6, 2) := by decide +kernel
theorem dX5_exchange_65 : decode cX5_exchange 65 = .ok (.iaload, 1) := by decide +kernel
theorem dX5_exchange_66 : decode cX5_exchange 66 = .ok (.iastore, 1) := by decide +kernel
theorem dX5_exchange_67 : decode cX5_exchange 67 = .ok (.aload_n 0, 1) := by decide +kernel
theorem dX5_exchange_68 : decode cX5_exchange 68 = .ok (.getfield 18, 3) := by decide +kernel
theorem dX5_exchange_71 : decode cX5_exchange 71 = .ok (.iload 6, 2) := by decide +kernel
theorem dX5_exchange_73 : decode cX5_exchange 73 = .ok (.iload 7, 2) := by decide +kernel
theorem dX5_exchange_75 : decode cX5_exchange 75 = .ok (.iastore, 1) := by decide +kernel
theorem dX5_exchange_76 : decode cX5_exchange 76 = .ok (.iinc 4 1, 3) := by decide +kernel
theorem dX5_exchange_79 : decode cX5_exchange 79 = .ok (.goto (-66), 3) := by decide +kernel
theorem dX5_exchange_82 : decode cX5_exchange 82 = .ok (.iinc 3 1, 3) := by decide +kernel
theorem dX5_exchange_85 : decode cX5_exchange 85 = .ok (.goto (-83), 3) := by decide +kernel
theorem dX5_exchange_88 : decode cX5_exchange 88 = .ok (.return_, 1) := by decide +kernel
set_option maxRecDepth 20000 in
theorem ggX5_isSilentBut_X8_wordAt : GoodIn wsX5_isSilentBut wsX8_wordAt := goodIn_r _ [5] (by decide +kernel) (by decide +kernel)
set_option maxRecDepth 20000 in
theorem gX5_isSilentBut_X8_wordAt_n34 : GoodIn wsX5_isSilentBut (wsX8_wordAt) := ggX5_isSilentBut_X8_wordAt
theorem dX5_isSilentBut_0 : decode cX5_isSilentBut 0 = .ok (.iconst 0, 1) := by decide +kernel
theorem dX5_isSilentBut_1 : decode cX5_isSilentBut 1 = .ok (.istore 4, 2) := by decide +kernel
theorem dX5_isSilentBut_3 : decode cX5_isSilentBut 3 = .ok (.iload 4, 2) := by decide +kernel
theorem dX5_isSilentBut_5 : decode cX5_isSilentBut 5 = .ok (.aload_n 0, 1) := by decide +kernel
theorem dX5_isSilentBut_6 : decode cX5_isSilentBut 6 = .ok (.getfield 15, 3) := by decide +kernel
theorem dX5_isSilentBut_9 : decode cX5_isSilentBut 9 = .ok (.iload_n 1, 1) := by decide +kernel
theorem dX5_isSilentBut_10 : decode cX5_isSilentBut 10 = .ok (.iaload, 1) := by decide +kernel
theorem dX5_isSilentBut_11 : decode cX5_isSilentBut 11 = .ok (.if_icmp .ge 33, 3) := by decide +kernel
theorem dX5_isSilentBut_14 : decode cX5_isSilentBut 14 = .ok (.iload 4, 2) := by decide +kernel
theorem dX5_isSilentBut_16 : decode cX5_isSilentBut 16 = .ok (.iload_n 3, 1) := by decide +kernel
theorem dX5_isSilentBut_17 : decode cX5_isSilentBut 17 = .ok (.if_icmp .eq 21, 3) := by decide +kernel
theorem dX5_isSilentBut_20 : decode cX5_isSilentBut 20 = .ok (.aload_n 0, 1) := by decide +kernel
theorem dX5_isSilentBut_21 : decode cX5_isSilentBut 21 = .ok (.getfield 18, 3) := by decide +kernel
theorem dX5_isSilentBut_24 : decode cX5_isSilentBut 24 = .ok (.iload_n 1, 1) := by decide +kernel
theorem dX5_isSilentBut_25 : decode cX5_isSilentBut 25 = .ok (.iload_n 2, 1) := by decide +kernel
theorem dX5_isSilentBut_26 : decode cX5_isSilentBut 26 = .ok (.invokestatic 34, 3) := by decide +kernel
theorem dX5_isSilentBut_29 : decode cX5_isSilentBut 29 = .ok (.iload 4, 2) := by decide +kernel
theorem dX5_isSilentBut_31 : decode cX5_isSilentBut 31 = .ok (.iadd, 1) := by decide +kernel
theorem dX5_isSilentBut_32 : decode cX5_isSilentBut 32 = .ok (.iaload, 1) := by decide +kernel
theorem dX5_isSilentBut_33 : decode cX5_isSilentBut 33 = .ok (.ifCond .eq 5, 3) := by decide +kernel
theorem dX5_isSilentBut_36 : decode cX5_isSilentBut 36 = .ok (.iconst 0, 1) := by decide +kernel
theorem dX5_isSilentBut_37 : decode cX5_isSilentBut 37 = .ok (.ireturn, 1) := by decide +kernel
theorem dX5_isSilentBut_38 : decode cX5_isSilentBut 38 = .ok (.iinc 4 1, 3) := by decide +kernel
theorem dX5_isSilentBut_41 : decode cX5_isSilentBut 41 = .ok (.goto (-38), 3) := by decide +kernel
theorem dX5_isSilentBut_44 : decode cX5_isSilentBut 44 = .ok (.iconst 1, 1) := by decide +kernel
theorem dX5_isSilentBut_45 : decode cX5_isSilentBut 45 = .ok (.ireturn, 1) := by decide +kernel
set_option maxRecDepth 20000 in
theorem ggX6_init_X2_init : GoodIn wsX6_init wsX2_init := goodIn_r _ [17, 18, 2, 3, 4, 19, 20, 21, 22, 34, 35, 36, 37, 38, 39] (by decide +kernel) (by decide +kernel)
set_option maxRecDepth 20000 in
theorem gX6_init_X2_init_n23 : GoodIn wsX6_init (wsX2_init) := ggX6_init_X2_init
set_option maxRecDepth 20000 in
theorem ggX6_init_X7_init : GoodIn wsX6_init wsX7_init := goodIn_r _ [24, 25, 2, 3, 4, 26, 27, 40, 41, 42] (by decide +kernel) (by decide +kernel)
set_option maxRecDepth 20000 in
theorem gX6_init_X7_init_n30 : GoodIn wsX6_init (wsX7_init) := ggX6_init_X7_init
theorem dX6_init_0 : decode cX6_init 0 = .ok (.aload_n 0, 1) := by decide +kernel
theorem dX6_init_1 : decode cX6_init 1 = .ok (.invokespecial 3, 3) := by decide +kernel
theorem dX6_init_4 : decode cX6_init 4 = .ok (.aload_n 0, 1) := by decide +kernel
theorem dX6_init_5 : decode cX6_init 5 = .ok (.sipush 168, 3) := by decide +kernel
theorem dX6_init_8 : decode cX6_init 8 = .ok (.newarray .int, 2) := by decide +kernel
theorem dX6_init_10 : decode cX6_init 10 = .ok (.putfield 9, 3) := by decide +kernel
theorem dX6_init_13 : decode cX6_init 13 = .ok (.aload_n 0, 1) := by decide +kernel
theorem dX6_init_14 : decode cX6_init 14 = .ok (.bipush 6, 2) := by decide +kernel
theorem dX6_init_16 : decode cX6_init 16 = .ok (.newarray .int, 2) := by decide +kernel
theorem dX6_init_18 : decode cX6_init 18 = .ok (.putfield 15, 3) := by decide +kernel
theorem dX6_init_21 : decode cX6_init 21 = .ok (.aload_n 0, 1) := by decide +kernel
theorem dX6_init_22 : decode cX6_init 22 = .ok (.bipush 24, 2) := by decide +kernel
theorem dX6_init_24 : decode cX6_init 24 = .ok (.newarray .int, 2) := by decide +kernel
theorem dX6_init_26 : decode cX6_init 26 = .ok (.putfield 18, 3) := by decide +kernel
theorem dX6_init_29 : decode cX6_init 29 = .ok (.aload_n 0, 1) := by decide +kernel
theorem dX6_init_30 : decode cX6_init 30 = .ok (.new 21, 3) := by decide +kernel
theorem dX6_init_33 : decode cX6_init 33 = .ok (.dup, 1) := by decide +kernel
theorem dX6_init_34 : decode cX6_init 34 = .ok (.invokespecial 23, 3) := by decide +kernel
theorem dX6_init_37 : decode cX6_init 37 = .ok (.putfield 24, 3) := by decide +kernel
theorem dX6_init_40 : decode cX6_init 40 = .ok (.aload_n 0, 1) := by decide +kernel
theorem dX6_init_41 : decode cX6_init 41 = .ok (.new 28, 3) := by decide +kernel
theorem dX6_init_44 : decode cX6_init 44 = .ok (.dup, 1) := by decide +kernel
theorem dX6_init_45 : decode cX6_init 45 = .ok (.invokespecial 30, 3) := by decide +kernel
theorem dX6_init_48 : decode cX6_init 48 = .ok (.putfield 31, 3) := by decide +kernel
theorem dX6_init_51 : decode cX6_init 51 = .ok (.return_, 1) := by decide +kernel
set_option maxRecDepth 20000 in
theorem ggX6_renew_X7_plant : GoodIn wsX6_renew wsX7_plant := goodIn_r _ [10, 11, 119, 120, 121] (by decide +kernel) (by decide +kernel)
set_option maxRecDepth 20000 in
theorem gX6_renew_X7_plant : GoodIn wsX6_renew (wsV RX6 41 RX7 yX7_plant wsX7_plant) := goodIn_app (goodIn_of _ (by decide +kernel)) ggX6_renew_X7_plant
set_option maxRecDepth 20000 in
theorem ggX6_renew_X6_rebuild : GoodIn wsX6_renew wsX6_rebuild := goodIn_r _ [16, 17, 18, 19, 2, 1, 20, 21, 22, 23, 24, 25, 26, 3, 27, 28, 29, 30, 31, 32, 9, 33, 11, 34, 35, 36, 37, 38, 39, 40, 41, 42, 43, 44, 45, 46, 47, 48, 49, 50, 51, 52, 53, 54, 55, 56, 57, 58, 59, 60, 61, 62, 108, 109, 110, 111, 112, 113, 114, 115, 116, 117, 118, 119, 120, 121] (by decide +kernel) (by decide +kernel)
set_option maxRecDepth 20000 in
theorem gX6_renew_X6_rebuild : GoodIn wsX6_renew (wsV RX6 51 RX6 yX6_rebuild wsX6_rebuild) := goodIn_app (goodIn_of _ (by decide +kernel)) ggX6_renew_X6_rebuild
set_option maxRecDepth 20000 in
theorem ggX6_renew_X2_clear : GoodIn wsX6_renew wsX2_clear := goodIn_r _ [67, 68, 69, 70, 71, 72, 122, 123, 124, 125, 126, 127] (by decide +kernel) (by decide +kernel)
set_option maxRecDepth 20000 in
theorem gX6_renew_X2_clear : GoodIn wsX6_renew (wsV RX6 55 RX2 yX2_clear wsX2_clear) := goodIn_app (goodIn_of _ (by decide +kernel)) ggX6_renew_X2_clear
set_option maxRecDepth 20000 in
theorem ggX6_renew_X6_weigh : GoodIn wsX6_renew wsX6_weigh := goodIn_r _ [76, 18, 19, 2, 21, 5, 77, 78, 79, 15, 80, 22, 61, 28, 62, 36, 37, 27, 29, 81, 82, 83, 84, 85, 86, 87, 66, 88, 68, 114, 115, 116, 117, 118, 108, 109, 110, 111, 112, 113, 122, 123, 124, 125, 126, 127] (by decide +kernel) (by decide +kernel)
set_option maxRecDepth 20000 in
theorem gX6_renew_X6_weigh : GoodIn wsX6_renew (wsV RX6 58 RX6 yX6_weigh wsX6_weigh) := goodIn_app (goodIn_of _ (by decide +kernel)) ggX6_renew_X6_weigh
set_option maxRecDepth 20000 in
theorem ggX6_renew_X2_settle : GoodIn wsX6_renew wsX2_settle := goodIn_r _ [92, 93, 94, 95, 96, 97, 98, 99, 66, 100, 68, 101, 122, 123, 124, 125, 126, 127] (by decide +kernel) (by decide +kernel)
set_option maxRecDepth 20000 in
theorem gX6_renew_X2_settle : GoodIn wsX6_renew (wsV RX6 61 RX2 yX2_settle wsX2_settle) := goodIn_app (goodIn_of _ (by decide +kernel)) ggX6_renew_X2_settle
set_option maxRecDepth 20000 in
theorem ggX6_renew_X6_findStrange : GoodIn wsX6_renew wsX6_findStrange := goodIn_r _ [105, 106, 18, 19, 2, 5, 107, 21, 77, 78, 79, 15, 80, 22, 61, 28, 62, 36, 37, 81, 82, 83, 84, 27, 29, 108, 109, 110, 111, 112, 113, 114, 115, 116, 117, 118, 122, 123, 124, 125, 126, 127] (by decide +kernel) (by decide +kernel)
set_option maxRecDepth 20000 in
theorem gX6_renew_X6_findStrange : GoodIn wsX6_renew (wsV RX6 64 RX6 yX6_findStrange wsX6_findStrange) := goodIn_app (goodIn_of _ (by decide +kernel)) ggX6_renew_X6_findStrange
theorem dX6_renew_0 : decode cX6_renew 0 = .ok (.aload_n 0, 1) := by decide +kernel
theorem dX6_renew_1 : decode cX6_renew 1 = .ok (.getfield 31, 3) := by decide +kernel
theorem dX6_renew_4 : decode cX6_renew 4 = .ok (.aload_n 1, 1) := by decide +kernel
theorem dX6_renew_5 : decode cX6_renew 5 = .ok (.getfield 35, 3) := by decide +kernel
theorem dX6_renew_8 : decode cX6_renew 8 = .ok (.invokevirtual 41, 3) := by decide +kernel
theorem dX6_renew_11 : decode cX6_renew 11 = .ok (.aload_n 0, 1) := by decide +kernel
theorem dX6_renew_12 : decode cX6_renew 12 = .ok (.iconst 0, 1) := by decide +kernel
theorem dX6_renew_13 : decode cX6_renew 13 = .ok (.putfield 45, 3) := by decide +kernel
theorem dX6_renew_16 : decode cX6_renew 16 = .ok (.iconst 0, 1) := by decide +kernel
theorem dX6_renew_17 : decode cX6_renew 17 = .ok (.istore_n 2, 1) := by decide +kernel
theorem dX6_renew_18 : decode cX6_renew 18 = .ok (.iload_n 2, 1) := by decide +kernel
theorem dX6_renew_19 : decode cX6_renew 19 = .ok (.aload_n 1, 1) := by decide +kernel
theorem dX6_renew_20 : decode cX6_renew 20 = .ok (.getfield 48, 3) := by decide +kernel
theorem dX6_renew_23 : decode cX6_renew 23 = .ok (.if_icmp .ge 15, 3) := by decide +kernel
theorem dX6_renew_26 : decode cX6_renew 26 = .ok (.aload_n 0, 1) := by decide +kernel
theorem dX6_renew_27 : decode cX6_renew 27 = .ok (.aload_n 1, 1) := by decide +kernel
theorem dX6_renew_28 : decode cX6_renew 28 = .ok (.iload_n 2, 1) := by decide +kernel
theorem dX6_renew_29 : decode cX6_renew 29 = .ok (.invokevirtual 51, 3) := by decide +kernel
theorem dX6_renew_32 : decode cX6_renew 32 = .ok (.iinc 2 1, 3) := by decide +kernel
theorem dX6_renew_35 : decode cX6_renew 35 = .ok (.goto (-17), 3) := by decide +kernel
theorem dX6_renew_38 : decode cX6_renew 38 = .ok (.aload_n 0, 1) := by decide +kernel
theorem dX6_renew_39 : decode cX6_renew 39 = .ok (.getfield 24, 3) := by decide +kernel
theorem dX6_renew_42 : decode cX6_renew 42 = .ok (.invokevirtual 55, 3) := by decide +kernel
theorem dX6_renew_45 : decode cX6_renew 45 = .ok (.iconst 0, 1) := by decide +kernel
theorem dX6_renew_46 : decode cX6_renew 46 = .ok (.istore_n 2, 1) := by decide +kernel
theorem dX6_renew_47 : decode cX6_renew 47 = .ok (.iload_n 2, 1) := by decide +kernel
theorem dX6_renew_48 : decode cX6_renew 48 = .ok (.aload_n 1, 1) := by decide +kernel
theorem dX6_renew_49 : decode cX6_renew 49 = .ok (.getfield 48, 3) := by decide +kernel
theorem dX6_renew_52 : decode cX6_renew 52 = .ok (.if_icmp .ge 15, 3) := by decide +kernel
theorem dX6_renew_55 : decode cX6_renew 55 = .ok (.aload_n 0, 1) := by decide +kernel
theorem dX6_renew_56 : decode cX6_renew 56 = .ok (.aload_n 1, 1) := by decide +kernel
theorem dX6_renew_57 : decode cX6_renew 57 = .ok (.iload_n 2, 1) := by decide +kernel
theorem dX6_renew_58 : decode cX6_renew 58 = .ok (.invokevirtual 58, 3) := by decide +kernel
theorem dX6_renew_61 : decode cX6_renew 61 = .ok (.iinc 2 1, 3) := by decide +kernel
theorem dX6_renew_64 : decode cX6_renew 64 = .ok (.goto (-17), 3) := by decide +kernel
theorem dX6_renew_67 : decode cX6_renew 67 = .ok (.aload_n 0, 1) := by decide +kernel
theorem dX6_renew_68 : decode cX6_renew 68 = .ok (.getfield 24, 3) := by decide +kernel
theorem dX6_renew_71 : decode cX6_renew 71 = .ok (.aload_n 1, 1) := by decide +kernel
theorem dX6_renew_72 : decode cX6_renew 72 = .ok (.getfield 35, 3) := by decide +kernel
theorem dX6_renew_75 : decode cX6_renew 75 = .ok (.invokevirtual 61, 3) := by decide +kernel
theorem dX6_renew_78 : decode cX6_renew 78 = .ok (.iconst 0, 1) := by decide +kernel
theorem dX6_renew_79 : decode cX6_renew 79 = .ok (.istore_n 2, 1) := by decide +kernel
theorem dX6_renew_80 : decode cX6_renew 80 = .ok (.iload_n 2, 1) := by decide +kernel
theorem dX6_renew_81 : decode cX6_renew 81 = .ok (.aload_n 1, 1) := by decide +kernel
theorem dX6_renew_82 : decode cX6_renew 82 = .ok (.getfield 48, 3) := by decide +kernel
theorem dX6_renew_85 : decode cX6_renew 85 = .ok (.if_icmp .ge 15, 3) := by decide +kernel
theorem dX6_renew_88 : decode cX6_renew 88 = .ok (.aload_n 0, 1) := by decide +kernel
theorem dX6_renew_89 : decode cX6_renew 89 = .ok (.aload_n 1, 1) := by decide +kernel
theorem dX6_renew_90 : decode cX6_renew 90 = .ok (.iload_n 2, 1) := by decide +kernel
theorem dX6_renew_91 : decode cX6_renew 91 = .ok (.invokevirtual 64, 3) := by decide +kernel
theorem dX6_renew_94 : decode cX6_renew 94 = .ok (.iinc 2 1, 3) := by decide +kernel
theorem dX6_renew_97 : decode cX6_renew 97 = .ok (.goto (-17), 3) := by decide +kernel
theorem dX6_renew_100 : decode cX6_renew 100 = .ok (.return_, 1) := by decide +kernel
set_option maxRecDepth 20000 in
theorem ggX6_oldSound_X8_nodesAt : GoodIn wsX6_oldSound wsX8_nodesAt := goodIn_r _ [5] (by decide +kernel) (by decide +kernel)
set_option maxRecDepth 20000 in
theorem gX6_oldSound_X8_nodesAt_n67 : GoodIn wsX6_oldSound (wsX8_nodesAt) := ggX6_oldSound_X8_nodesAt
set_option maxRecDepth 20000 in
theorem ggX6_oldSound_X8_nodesOf : GoodIn wsX6_oldSound wsX8_nodesOf := goodIn_r _ [7] (by decide +kernel) (by decide +kernel)
set_option maxRecDepth 20000 in
theorem gX6_oldSound_X8_nodesOf_n71 : GoodIn wsX6_oldSound (wsX8_nodesOf) := ggX6_oldSound_X8_nodesOf
theorem dX6_oldSound_0 : decode cX6_oldSound 0 = .ok (.aload_n 0, 1) := by decide +kernel
theorem dX6_oldSound_1 : decode cX6_oldSound 1 = .ok (.getfield 9, 3) := by decide +kernel
theorem dX6_oldSound_4 : decode cX6_oldSound 4 = .ok (.iload_n 2, 1) := by decide +kernel
theorem dX6_oldSound_5 : decode cX6_oldSound 5 = .ok (.iload_n 3, 1) := by decide +kernel
theorem dX6_oldSound_6 : decode cX6_oldSound 6 = .ok (.invokestatic 67, 3) := by decide +kernel
theorem dX6_oldSound_9 : decode cX6_oldSound 9 = .ok (.aload_n 1, 1) := by decide +kernel
theorem dX6_oldSound_10 : decode cX6_oldSound 10 = .ok (.getfield 35, 3) := by decide +kernel
theorem dX6_oldSound_13 : decode cX6_oldSound 13 = .ok (.invokestatic 71, 3) := by decide +kernel
theorem dX6_oldSound_16 : decode cX6_oldSound 16 = .ok (.iadd, 1) := by decide +kernel
theorem dX6_oldSound_17 : decode cX6_oldSound 17 = .ok (.iconst 1, 1) := by decide +kernel
theorem dX6_oldSound_18 : decode cX6_oldSound 18 = .ok (.isub, 1) := by decide +kernel
theorem dX6_oldSound_19 : decode cX6_oldSound 19 = .ok (.iaload, 1) := by decide +kernel
theorem dX6_oldSound_20 : decode cX6_oldSound 20 = .ok (.ireturn, 1) := by decide +kernel
theorem dX6_strangeInSet_0 : decode cX6_strangeInSet 0 = .ok (.iconst 0, 1) := by decide +kernel
theorem dX6_strangeInSet_1 : decode cX6_strangeInSet 1 = .ok (.istore_n 2, 1) := by decide +kernel
theorem dX6_strangeInSet_2 : decode cX6_strangeInSet 2 = .ok (.iconst 0, 1) := by decide +kernel
theorem dX6_strangeInSet_3 : decode cX6_strangeInSet 3 = .ok (.istore_n 3, 1) := by decide +kernel
theorem dX6_strangeInSet_4 : decode cX6_strangeInSet 4 = .ok (.iload_n 3, 1) := by decide +kernel
theorem dX6_strangeInSet_5 : decode cX6_strangeInSet 5 = .ok (.iconst 4, 1) := by decide +kernel
theorem dX6_strangeInSet_6 : decode cX6_strangeInSet 6 = .ok (.if_icmp .ge 22, 3) := by decide +kernel
theorem dX6_strangeInSet_9 : decode cX6_strangeInSet 9 = .ok (.iload_n 2, 1) := by decide +kernel
theorem dX6_strangeInSet_10 : decode cX6_strangeInSet 10 = .ok (.aload_n 0, 1) := by decide +kernel
theorem dX6_strangeInSet_11 : decode cX6_strangeInSet 11 = .ok (.getfield 18, 3) := by decide +kernel
theorem dX6_strangeInSet_14 : decode cX6_strangeInSet 14 = .ok (.iload_n 1, 1) := by decide +kernel
theorem dX6_strangeInSet_15 : decode cX6_strangeInSet 15 = .ok (.iconst 4, 1) := by decide +kernel
theorem dX6_strangeInSet_16 : decode cX6_strangeInSet 16 = .ok (.imul, 1) := by decide +kernel
theorem dX6_strangeInSet_17 : decode cX6_strangeInSet 17 = .ok (.iload_n 3, 1) := by decide +kernel
theorem dX6_strangeInSet_18 : decode cX6_strangeInSet 18 = .ok (.iadd, 1) := by decide +kernel
theorem dX6_strangeInSet_19 : decode cX6_strangeInSet 19 = .ok (.iaload, 1) := by decide +kernel
theorem dX6_strangeInSet_20 : decode cX6_strangeInSet 20 = .ok (.iadd, 1) := by decide +kernel
theorem dX6_strangeInSet_21 : decode cX6_strangeInSet 21 = .ok (.istore_n 2, 1) := by decide +kernel
theorem dX6_strangeInSet_22 : decode cX6_strangeInSet 22 = .ok (.iinc 3 1, 3) := by decide +kernel
theorem dX6_strangeInSet_25 : decode cX6_strangeInSet 25 = .ok (.goto (-21), 3) := by decide +kernel
theorem dX6_strangeInSet_28 : decode cX6_strangeInSet 28 = .ok (.iload_n 2, 1) := by decide +kernel
theorem dX6_strangeInSet_29 : decode cX6_strangeInSet 29 = .ok (.ireturn, 1) := by decide +kernel
theorem dX6_borrowedTongues_0 : decode cX6_borrowedTongues 0 = .ok (.iconst 0, 1) := by decide +kernel
theorem dX6_borrowedTongues_1 : decode cX6_borrowedTongues 1 = .ok (.istore_n 3, 1) := by decide +kernel
theorem dX6_borrowedTongues_2 : decode cX6_borrowedTongues 2 = .ok (.iconst 0, 1) := by decide +kernel
theorem dX6_borrowedTongues_3 : decode cX6_borrowedTongues 3 = .ok (.istore 4, 2) := by decide +kernel
theorem dX6_borrowedTongues_5 : decode cX6_borrowedTongues 5 = .ok (.iload 4, 2) := by decide +kernel
theorem dX6_borrowedTongues_7 : decode cX6_borrowedTongues 7 = .ok (.aload_n 1, 1) := by decide +kernel
theorem dX6_borrowedTongues_8 : decode cX6_borrowedTongues 8 = .ok (.getfield 35, 3) := by decide +kernel
theorem dX6_borrowedTongues_11 : decode cX6_borrowedTongues 11 = .ok (.if_icmp .ge 46, 3) := by decide +kernel
theorem dX6_borrowedTongues_14 : decode cX6_borrowedTongues 14 = .ok (.aload_n 0, 1) := by decide +kernel
theorem dX6_borrowedTongues_15 : decode cX6_borrowedTongues 15 = .ok (.getfield 18, 3) := by decide +kernel
theorem dX6_borrowedTongues_18 : decode cX6_borrowedTongues 18 = .ok (.iload_n 2, 1) := by decide +kernel
theorem dX6_borrowedTongues_19 : decode cX6_borrowedTongues 19 = .ok (.iconst 4, 1) := by decide +kernel
theorem dX6_borrowedTongues_20 : decode cX6_borrowedTongues 20 = .ok (.imul, 1) := by decide +kernel
theorem dX6_borrowedTongues_21 : decode cX6_borrowedTongues 21 = .ok (.iload 4, 2) := by decide +kernel
theorem dX6_borrowedTongues_23 : decode cX6_borrowedTongues 23 = .ok (.iadd, 1) := by decide +kernel
theorem dX6_borrowedTongues_24 : decode cX6_borrowedTongues 24 = .ok (.iaload, 1) := by decide +kernel
theorem dX6_borrowedTongues_25 : decode cX6_borrowedTongues 25 = .ok (.istore 5, 2) := by decide +kernel
theorem dX6_borrowedTongues_27 : decode cX6_borrowedTongues 27 = .ok (.iload 5, 2) := by decide +kernel
theorem dX6_borrowedTongues_29 : decode cX6_borrowedTongues 29 = .ok (.iconst 2, 1) := by decide +kernel
theorem dX6_borrowedTongues_30 : decode cX6_borrowedTongues 30 = .ok (.if_icmp .ge 14, 3) := by decide +kernel
theorem dX6_borrowedTongues_33 : decode cX6_borrowedTongues 33 = .ok (.iload 5, 2) := by decide +kernel
theorem dX6_borrowedTongues_35 : decode cX6_borrowedTongues 35 = .ok (.aload_n 1, 1) := by decide +kernel
theorem dX6_borrowedTongues_36 : decode cX6_borrowedTongues 36 = .ok (.getfield 75, 3) := by decide +kernel
theorem dX6_borrowedTongues_39 : decode cX6_borrowedTongues 39 = .ok (.iload_n 2, 1) := by decide +kernel
theorem dX6_borrowedTongues_40 : decode cX6_borrowedTongues 40 = .ok (.iaload, 1) := by decide +kernel
theorem dX6_borrowedTongues_41 : decode cX6_borrowedTongues 41 = .ok (.if_icmp .ne 10, 3) := by decide +kernel
theorem dX6_borrowedTongues_44 : decode cX6_borrowedTongues 44 = .ok (.iload_n 3, 1) := by decide +kernel
theorem dX6_borrowedTongues_45 : decode cX6_borrowedTongues 45 = .ok (.iconst 1, 1) := by decide +kernel
theorem dX6_borrowedTongues_46 : decode cX6_borrowedTongues 46 = .ok (.iload 4, 2) := by decide +kernel
theorem dX6_borrowedTongues_48 : decode cX6_borrowedTongues 48 = .ok (.ishl, 1) := by decide +kernel
theorem dX6_borrowedTongues_49 : decode cX6_borrowedTongues 49 = .ok (.ior, 1) := by decide +kernel
theorem dX6_borrowedTongues_50 : decode cX6_borrowedTongues 50 = .ok (.istore_n 3, 1) := by decide +kernel
theorem dX6_borrowedTongues_51 : decode cX6_borrowedTongues 51 = .ok (.iinc 4 1, 3) := by decide +kernel
theorem dX6_borrowedTongues_54 : decode cX6_borrowedTongues 54 = .ok (.goto (-49), 3) := by decide +kernel
theorem dX6_borrowedTongues_57 : decode cX6_borrowedTongues 57 = .ok (.iload_n 3, 1) := by decide +kernel
theorem dX6_borrowedTongues_58 : decode cX6_borrowedTongues 58 = .ok (.ireturn, 1) := by decide +kernel
set_option maxRecDepth 20000 in
theorem ggX6_borrowedWords_X6_borrowedTongues : GoodIn wsX6_borrowedWords wsX6_borrowedTongues := goodIn_r _ [6, 7, 8, 9, 17, 18, 19, 20, 21, 22, 23, 24, 25, 26, 27] (by decide +kernel) (by decide +kernel)
set_option maxRecDepth 20000 in
theorem gX6_borrowedWords_X6_borrowedTongues : GoodIn wsX6_borrowedWords (wsV RX6 78 RX6 yX6_borrowedTongues wsX6_borrowedTongues) := goodIn_app (goodIn_of _ (by decide +kernel)) ggX6_borrowedWords_X6_borrowedTongues
set_option maxRecDepth 20000 in
theorem ggX6_borrowedWords_J6_bitCount_0f7a4 : GoodIn wsX6_borrowedWords wsJ6_bitCount_0f7a4 := goodIn_r _ [13, 14, 15, 16] (by decide +kernel) (by decide +kernel)
set_option maxRecDepth 20000 in
theorem gX6_borrowedWords_J6_bitCount_0f7a4 : GoodIn wsX6_borrowedWords (va_wsS RX6 82 yJ6_bitCount_0f7a4 wsJ6_bitCount_0f7a4) := goodIn_app (goodIn_of _ (by decide +kernel)) ggX6_borrowedWords_J6_bitCount_0f7a4
theorem dX6_borrowedWords_0 : decode cX6_borrowedWords 0 = .ok (.iconst 0, 1) := by decide +kernel
theorem dX6_borrowedWords_1 : decode cX6_borrowedWords 1 = .ok (.istore_n 2, 1) := by decide +kernel
theorem dX6_borrowedWords_2 : decode cX6_borrowedWords 2 = .ok (.iconst 0, 1) := by decide +kernel
theorem dX6_borrowedWords_3 : decode cX6_borrowedWords 3 = .ok (.istore_n 3, 1) := by decide +kernel
theorem dX6_borrowedWords_4 : decode cX6_borrowedWords 4 = .ok (.iload_n 3, 1) := by decide +kernel
theorem dX6_borrowedWords_5 : decode cX6_borrowedWords 5 = .ok (.aload_n 1, 1) := by decide +kernel
theorem dX6_borrowedWords_6 : decode cX6_borrowedWords 6 = .ok (.getfield 48, 3) := by decide +kernel
theorem dX6_borrowedWords_9 : decode cX6_borrowedWords 9 = .ok (.if_icmp .ge 21, 3) := by decide +kernel
theorem dX6_borrowedWords_12 : decode cX6_borrowedWords 12 = .ok (.iload_n 2, 1) := by decide +kernel
theorem dX6_borrowedWords_13 : decode cX6_borrowedWords 13 = .ok (.aload_n 0, 1) := by decide +kernel
theorem dX6_borrowedWords_14 : decode cX6_borrowedWords 14 = .ok (.aload_n 1, 1) := by decide +kernel
theorem dX6_borrowedWords_15 : decode cX6_borrowedWords 15 = .ok (.iload_n 3, 1) := by decide +kernel
theorem dX6_borrowedWords_16 : decode cX6_borrowedWords 16 = .ok (.invokevirtual 78, 3) := by decide +kernel
theorem dX6_borrowedWords_19 : decode cX6_borrowedWords 19 = .ok (.invokestatic 82, 3) := by decide +kernel
theorem dX6_borrowedWords_22 : decode cX6_borrowedWords 22 = .ok (.iadd, 1) := by decide +kernel
theorem dX6_borrowedWords_23 : decode cX6_borrowedWords 23 = .ok (.istore_n 2, 1) := by decide +kernel
theorem dX6_borrowedWords_24 : decode cX6_borrowedWords 24 = .ok (.iinc 3 1, 3) := by decide +kernel
theorem dX6_borrowedWords_27 : decode cX6_borrowedWords 27 = .ok (.goto (-23), 3) := by decide +kernel
theorem dX6_borrowedWords_30 : decode cX6_borrowedWords 30 = .ok (.iload_n 2, 1) := by decide +kernel
theorem dX6_borrowedWords_31 : decode cX6_borrowedWords 31 = .ok (.ireturn, 1) := by decide +kernel
set_option maxRecDepth 20000 in
theorem ggX6_rebuild_X8_wordAt : GoodIn wsX6_rebuild wsX8_wordAt := goodIn_r _ [16] (by decide +kernel) (by decide +kernel)
set_option maxRecDepth 20000 in
theorem gX6_rebuild_X8_wordAt_n97 : GoodIn wsX6_rebuild (wsX8_wordAt) := ggX6_rebuild_X8_wordAt
set_option maxRecDepth 20000 in
theorem ggX6_rebuild_X7_climb : GoodIn wsX6_rebuild wsX7_climb := goodIn_r _ [21, 22, 23, 24, 25, 15, 26, 27, 28, 29, 20, 30, 31, 32, 33, 34, 63, 64, 65] (by decide +kernel) (by decide +kernel)
set_option maxRecDepth 20000 in
theorem gX6_rebuild_X7_climb : GoodIn wsX6_rebuild (wsV RX6 100 RX7 yX7_climb wsX7_climb) := goodIn_app (goodIn_of _ (by decide +kernel)) ggX6_rebuild_X7_climb
set_option maxRecDepth 20000 in
theorem ggX6_rebuild_X7_descend : GoodIn wsX6_rebuild wsX7_descend := goodIn_r _ [38, 22, 24, 39, 40, 41, 20, 42, 25, 15, 26, 27, 28, 29, 30, 43, 44, 45, 46, 23, 47, 48, 49, 63, 64, 65] (by decide +kernel) (by decide +kernel)
set_option maxRecDepth 20000 in
theorem gX6_rebuild_X7_descend : GoodIn wsX6_rebuild (wsV RX6 104 RX7 yX7_descend wsX7_descend) := goodIn_app (goodIn_of _ (by decide +kernel)) ggX6_rebuild_X7_descend
set_option maxRecDepth 20000 in
theorem ggX6_rebuild_X8_nodesAt : GoodIn wsX6_rebuild wsX8_nodesAt := goodIn_r _ [51] (by decide +kernel) (by decide +kernel)
set_option maxRecDepth 20000 in
theorem gX6_rebuild_X8_nodesAt_n67 : GoodIn wsX6_rebuild (wsX8_nodesAt) := ggX6_rebuild_X8_nodesAt
theorem dX6_rebuild_0 : decode cX6_rebuild 0 = .ok (.aload_n 0, 1) := by decide +kernel
theorem dX6_rebuild_1 : decode cX6_rebuild 1 = .ok (.getfield 15, 3) := by decide +kernel
theorem dX6_rebuild_4 : decode cX6_rebuild 4 = .ok (.iload_n 2, 1) := by decide +kernel
theorem dX6_rebuild_5 : decode cX6_rebuild 5 = .ok (.iconst (-1), 1) := by decide +kernel
theorem dX6_rebuild_6 : decode cX6_rebuild 6 = .ok (.iastore, 1) := by decide +kernel
theorem dX6_rebuild_7 : decode cX6_rebuild 7 = .ok (.getstatic 87, 3) := by decide +kernel
theorem dX6_rebuild_10 : decode cX6_rebuild 10 = .ok (.aload_n 1, 1) := by decide +kernel
theorem dX6_rebuild_11 : decode cX6_rebuild 11 = .ok (.getfield 90, 3) := by decide +kernel
theorem dX6_rebuild_14 : decode cX6_rebuild 14 = .ok (.iload_n 2, 1) := by decide +kernel
theorem dX6_rebuild_15 : decode cX6_rebuild 15 = .ok (.iaload, 1) := by decide +kernel
theorem dX6_rebuild_16 : decode cX6_rebuild 16 = .ok (.iaload, 1) := by decide +kernel
theorem dX6_rebuild_17 : decode cX6_rebuild 17 = .ok (.ifCond .ne 4, 3) := by decide +kernel
theorem dX6_rebuild_20 : decode cX6_rebuild 20 = .ok (.return_, 1) := by decide +kernel
theorem dX6_rebuild_21 : decode cX6_rebuild 21 = .ok (.iconst 0, 1) := by decide +kernel
theorem dX6_rebuild_22 : decode cX6_rebuild 22 = .ok (.istore_n 3, 1) := by decide +kernel
theorem dX6_rebuild_23 : decode cX6_rebuild 23 = .ok (.iconst 0, 1) := by decide +kernel
theorem dX6_rebuild_24 : decode cX6_rebuild 24 = .ok (.istore 4, 2) := by decide +kernel
theorem dX6_rebuild_26 : decode cX6_rebuild 26 = .ok (.iload 4, 2) := by decide +kernel
theorem dX6_rebuild_28 : decode cX6_rebuild 28 = .ok (.aload_n 1, 1) := by decide +kernel
theorem dX6_rebuild_29 : decode cX6_rebuild 29 = .ok (.getfield 75, 3) := by decide +kernel
theorem dX6_rebuild_32 : decode cX6_rebuild 32 = .ok (.iload_n 2, 1) := by decide +kernel
theorem dX6_rebuild_33 : decode cX6_rebuild 33 = .ok (.iaload, 1) := by decide +kernel
theorem dX6_rebuild_34 : decode cX6_rebuild 34 = .ok (.if_icmp .ge 91, 3) := by decide +kernel
theorem dX6_rebuild_37 : decode cX6_rebuild 37 = .ok (.iconst 0, 1) := by decide +kernel
theorem dX6_rebuild_38 : decode cX6_rebuild 38 = .ok (.istore 5, 2) := by decide +kernel
theorem dX6_rebuild_40 : decode cX6_rebuild 40 = .ok (.iload 5, 2) := by decide +kernel
theorem dX6_rebuild_42 : decode cX6_rebuild 42 = .ok (.aload_n 1, 1) := by decide +kernel
theorem dX6_rebuild_43 : decode cX6_rebuild 43 = .ok (.getfield 35, 3) := by decide +kernel
theorem dX6_rebuild_46 : decode cX6_rebuild 46 = .ok (.if_icmp .ge 33, 3) := by decide +kernel
theorem dX6_rebuild_49 : decode cX6_rebuild 49 = .ok (.aload_n 0, 1) := by decide +kernel
theorem dX6_rebuild_50 : decode cX6_rebuild 50 = .ok (.getfield 31, 3) := by decide +kernel
theorem dX6_rebuild_53 : decode cX6_rebuild 53 = .ok (.getfield 93, 3) := by decide +kernel
theorem dX6_rebuild_56 : decode cX6_rebuild 56 = .ok (.iload 5, 2) := by decide +kernel
theorem dX6_rebuild_58 : decode cX6_rebuild 58 = .ok (.aload_n 1, 1) := by decide +kernel
theorem dX6_rebuild_59 : decode cX6_rebuild 59 = .ok (.getfield 94, 3) := by decide +kernel
theorem dX6_rebuild_62 : decode cX6_rebuild 62 = .ok (.iload_n 2, 1) := by decide +kernel
theorem dX6_rebuild_63 : decode cX6_rebuild 63 = .ok (.iload 5, 2) := by decide +kernel
theorem dX6_rebuild_65 : decode cX6_rebuild 65 = .ok (.invokestatic 97, 3) := by decide +kernel
theorem dX6_rebuild_68 : decode cX6_rebuild 68 = .ok (.iload 4, 2) := by decide +kernel
theorem dX6_rebuild_70 : decode cX6_rebuild 70 = .ok (.iadd, 1) := by decide +kernel
theorem dX6_rebuild_71 : decode cX6_rebuild 71 = .ok (.iaload, 1) := by decide +kernel
theorem dX6_rebuild_72 : decode cX6_rebuild 72 = .ok (.iastore, 1) := by decide +kernel
theorem dX6_rebuild_73 : decode cX6_rebuild 73 = .ok (.iinc 5 1, 3) := by decide +kernel
theorem dX6_rebuild_76 : decode cX6_rebuild 76 = .ok (.goto (-36), 3) := by decide +kernel
theorem dX6_rebuild_79 : decode cX6_rebuild 79 = .ok (.iload_n 3, 1) := by decide +kernel
theorem dX6_rebuild_80 : decode cX6_rebuild 80 = .ok (.aload_n 0, 1) := by decide +kernel
theorem dX6_rebuild_81 : decode cX6_rebuild 81 = .ok (.getfield 31, 3) := by decide +kernel
theorem dX6_rebuild_84 : decode cX6_rebuild 84 = .ok (.invokevirtual 100, 3) := by decide +kernel
theorem dX6_rebuild_87 : decode cX6_rebuild 87 = .ok (.iadd, 1) := by decide +kernel
theorem dX6_rebuild_88 : decode cX6_rebuild 88 = .ok (.istore_n 3, 1) := by decide +kernel
theorem dX6_rebuild_89 : decode cX6_rebuild 89 = .ok (.aload_n 0, 1) := by decide +kernel
theorem dX6_rebuild_90 : decode cX6_rebuild 90 = .ok (.getfield 31, 3) := by decide +kernel
theorem dX6_rebuild_93 : decode cX6_rebuild 93 = .ok (.invokevirtual 104, 3) := by decide +kernel
theorem dX6_rebuild_96 : decode cX6_rebuild 96 = .ok (.aload_n 0, 1) := by decide +kernel
theorem dX6_rebuild_97 : decode cX6_rebuild 97 = .ok (.getfield 31, 3) := by decide +kernel
theorem dX6_rebuild_100 : decode cX6_rebuild 100 = .ok (.getfield 93, 3) := by decide +kernel
theorem dX6_rebuild_103 : decode cX6_rebuild 103 = .ok (.iconst 0, 1) := by decide +kernel
theorem dX6_rebuild_104 : decode cX6_rebuild 104 = .ok (.aload_n 0, 1) := by decide +kernel
theorem dX6_rebuild_105 : decode cX6_rebuild 105 = .ok (.getfield 9, 3) := by decide +kernel
theorem dX6_rebuild_108 : decode cX6_rebuild 108 = .ok (.iload_n 2, 1) := by decide +kernel
theorem dX6_rebuild_109 : decode cX6_rebuild 109 = .ok (.iload 4, 2) := by decide +kernel
theorem dX6_rebuild_111 : decode cX6_rebuild 111 = .ok (.invokestatic 67, 3) := by decide +kernel
theorem dX6_rebuild_114 : decode cX6_rebuild 114 = .ok (.bipush 7, 2) := by decide +kernel
theorem dX6_rebuild_116 : decode cX6_rebuild 116 = .ok (.invokestatic 107, 3) := by decide +kernel
theorem dX6_rebuild_119 : decode cX6_rebuild 119 = .ok (.iinc 4 1, 3) := by decide +kernel
theorem dX6_rebuild_122 : decode cX6_rebuild 122 = .ok (.goto (-96), 3) := by decide +kernel
theorem dX6_rebuild_125 : decode cX6_rebuild 125 = .ok (.aload_n 0, 1) := by decide +kernel
theorem dX6_rebuild_126 : decode cX6_rebuild 126 = .ok (.getfield 15, 3) := by decide +kernel
theorem dX6_rebuild_129 : decode cX6_rebuild 129 = .ok (.iload_n 2, 1) := by decide +kernel
theorem dX6_rebuild_130 : decode cX6_rebuild 130 = .ok (.iload_n 3, 1) := by decide +kernel
theorem dX6_rebuild_131 : decode cX6_rebuild 131 = .ok (.iastore, 1) := by decide +kernel
theorem dX6_rebuild_132 : decode cX6_rebuild 132 = .ok (.aload_n 0, 1) := by decide +kernel
theorem dX6_rebuild_133 : decode cX6_rebuild 133 = .ok (.dup, 1) := by decide +kernel
theorem dX6_rebuild_134 : decode cX6_rebuild 134 = .ok (.getfield 45, 3) := by decide +kernel
theorem dX6_rebuild_137 : decode cX6_rebuild 137 = .ok (.iload_n 3, 1) := by decide +kernel
theorem dX6_rebuild_138 : decode cX6_rebuild 138 = .ok (.iadd, 1) := by decide +kernel
theorem dX6_rebuild_139 : decode cX6_rebuild 139 = .ok (.putfield 45, 3) := by decide +kernel
theorem dX6_rebuild_142 : decode cX6_rebuild 142 = .ok (.return_, 1) := by decide +kernel
set_option maxRecDepth 20000 in
theorem ggX6_weigh_X6_oldSound : GoodIn wsX6_weigh wsX6_oldSound := goodIn_r _ [10, 11, 3, 12, 13, 14, 15, 16, 34, 35, 36, 37, 38, 39, 29, 30, 31, 32, 33] (by decide +kernel) (by decide +kernel)
set_option maxRecDepth 20000 in
theorem gX6_weigh_X6_oldSound : GoodIn wsX6_weigh (wsV RX6 116 RX6 yX6_oldSound wsX6_oldSound) := goodIn_app (goodIn_of _ (by decide +kernel)) ggX6_weigh_X6_oldSound
set_option maxRecDepth 20000 in
theorem ggX6_weigh_X8_wordAt : GoodIn wsX6_weigh wsX8_wordAt := goodIn_r _ [18] (by decide +kernel) (by decide +kernel)
set_option maxRecDepth 20000 in
theorem gX6_weigh_X8_wordAt_n97 : GoodIn wsX6_weigh (wsX8_wordAt) := ggX6_weigh_X8_wordAt
set_option maxRecDepth 20000 in
theorem ggX6_weigh_X8_aheadAt : GoodIn wsX6_weigh wsX8_aheadAt := goodIn_r _ [20] (by decide +kernel) (by decide +kernel)
set_option maxRecDepth 20000 in
theorem gX6_weigh_X8_aheadAt_n120 : GoodIn wsX6_weigh (wsX8_aheadAt) := ggX6_weigh_X8_aheadAt
set_option maxRecDepth 20000 in
theorem ggX6_weigh_X8_lawAt : GoodIn wsX6_weigh wsX8_lawAt := goodIn_r _ [22] (by decide +kernel) (by decide +kernel)
set_option maxRecDepth 20000 in
theorem gX6_weigh_X8_lawAt_n123 : GoodIn wsX6_weigh (wsX8_lawAt) := ggX6_weigh_X8_lawAt
set_option maxRecDepth 20000 in
theorem ggX6_weigh_X2_weigh : GoodIn wsX6_weigh wsX2_weigh := goodIn_r _ [27, 28, 40, 41, 42, 43, 44, 45] (by decide +kernel) (by decide +kernel)
set_option maxRecDepth 20000 in
theorem gX6_weigh_X2_weigh : GoodIn wsX6_weigh (wsV RX6 127 RX2 yX2_weigh wsX2_weigh) := goodIn_app (goodIn_of _ (by decide +kernel)) ggX6_weigh_X2_weigh
theorem dX6_weigh_0 : decode cX6_weigh 0 = .ok (.getstatic 113, 3) := by decide +kernel
theorem dX6_weigh_3 : decode cX6_weigh 3 = .ok (.aload_n 1, 1) := by decide +kernel
theorem dX6_weigh_4 : decode cX6_weigh 4 = .ok (.getfield 90, 3) := by decide +kernel
theorem dX6_weigh_7 : decode cX6_weigh 7 = .ok (.iload_n 2, 1) := by decide +kernel
theorem dX6_weigh_8 : decode cX6_weigh 8 = .ok (.iaload, 1) := by decide +kernel
theorem dX6_weigh_9 : decode cX6_weigh 9 = .ok (.iaload, 1) := by decide +kernel
theorem dX6_weigh_10 : decode cX6_weigh 10 = .ok (.istore_n 3, 1) := by decide +kernel
theorem dX6_weigh_11 : decode cX6_weigh 11 = .ok (.iload_n 3, 1) := by decide +kernel
theorem dX6_weigh_12 : decode cX6_weigh 12 = .ok (.ifCond .ne 4, 3) := by decide +kernel
theorem dX6_weigh_15 : decode cX6_weigh 15 = .ok (.return_, 1) := by decide +kernel
theorem dX6_weigh_16 : decode cX6_weigh 16 = .ok (.iconst 0, 1) := by decide +kernel
theorem dX6_weigh_17 : decode cX6_weigh 17 = .ok (.istore 4, 2) := by decide +kernel
theorem dX6_weigh_19 : decode cX6_weigh 19 = .ok (.iload 4, 2) := by decide +kernel
theorem dX6_weigh_21 : decode cX6_weigh 21 = .ok (.aload_n 1, 1) := by decide +kernel
theorem dX6_weigh_22 : decode cX6_weigh 22 = .ok (.getfield 75, 3) := by decide +kernel
theorem dX6_weigh_25 : decode cX6_weigh 25 = .ok (.iload_n 2, 1) := by decide +kernel
theorem dX6_weigh_26 : decode cX6_weigh 26 = .ok (.iaload, 1) := by decide +kernel
theorem dX6_weigh_27 : decode cX6_weigh 27 = .ok (.if_icmp .ge 75, 3) := by decide +kernel
theorem dX6_weigh_30 : decode cX6_weigh 30 = .ok (.aload_n 0, 1) := by decide +kernel
theorem dX6_weigh_31 : decode cX6_weigh 31 = .ok (.aload_n 1, 1) := by decide +kernel
theorem dX6_weigh_32 : decode cX6_weigh 32 = .ok (.iload_n 2, 1) := by decide +kernel
theorem dX6_weigh_33 : decode cX6_weigh 33 = .ok (.iload 4, 2) := by decide +kernel
theorem dX6_weigh_35 : decode cX6_weigh 35 = .ok (.invokevirtual 116, 3) := by decide +kernel
theorem dX6_weigh_38 : decode cX6_weigh 38 = .ok (.istore 5, 2) := by decide +kernel
theorem dX6_weigh_40 : decode cX6_weigh 40 = .ok (.iconst 0, 1) := by decide +kernel
theorem dX6_weigh_41 : decode cX6_weigh 41 = .ok (.istore 6, 2) := by decide +kernel
theorem dX6_weigh_43 : decode cX6_weigh 43 = .ok (.iload 6, 2) := by decide +kernel
theorem dX6_weigh_45 : decode cX6_weigh 45 = .ok (.aload_n 1, 1) := by decide +kernel
theorem dX6_weigh_46 : decode cX6_weigh 46 = .ok (.getfield 35, 3) := by decide +kernel
theorem dX6_weigh_49 : decode cX6_weigh 49 = .ok (.if_icmp .ge 47, 3) := by decide +kernel
theorem dX6_weigh_52 : decode cX6_weigh 52 = .ok (.aload_n 1, 1) := by decide +kernel
theorem dX6_weigh_53 : decode cX6_weigh 53 = .ok (.getfield 94, 3) := by decide +kernel
theorem dX6_weigh_56 : decode cX6_weigh 56 = .ok (.iload_n 2, 1) := by decide +kernel
theorem dX6_weigh_57 : decode cX6_weigh 57 = .ok (.iload 6, 2) := by decide +kernel
theorem dX6_weigh_59 : decode cX6_weigh 59 = .ok (.invokestatic 97, 3) := by decide +kernel
theorem dX6_weigh_62 : decode cX6_weigh 62 = .ok (.iload 4, 2) := by decide +kernel
theorem dX6_weigh_64 : decode cX6_weigh 64 = .ok (.iadd, 1) := by decide +kernel
theorem dX6_weigh_65 : decode cX6_weigh 65 = .ok (.iaload, 1) := by decide +kernel
theorem dX6_weigh_66 : decode cX6_weigh 66 = .ok (.istore 7, 2) := by decide +kernel
theorem dX6_weigh_68 : decode cX6_weigh 68 = .ok (.aload_n 0, 1) := by decide +kernel
theorem dX6_weigh_69 : decode cX6_weigh 69 = .ok (.getfield 24, 3) := by decide +kernel
theorem dX6_weigh_72 : decode cX6_weigh 72 = .ok (.iload 6, 2) := by decide +kernel
theorem dX6_weigh_74 : decode cX6_weigh 74 = .ok (.iload 5, 2) := by decide +kernel
theorem dX6_weigh_76 : decode cX6_weigh 76 = .ok (.iload 4, 2) := by decide +kernel
theorem dX6_weigh_78 : decode cX6_weigh 78 = .ok (.invokestatic 120, 3) := by decide +kernel
theorem dX6_weigh_81 : decode cX6_weigh 81 = .ok (.invokestatic 123, 3) := by decide +kernel
theorem dX6_weigh_84 : decode cX6_weigh 84 = .ok (.iload 7, 2) := by decide +kernel
theorem dX6_weigh_86 : decode cX6_weigh 86 = .ok (.iload_n 3, 1) := by decide +kernel
theorem dX6_weigh_87 : decode cX6_weigh 87 = .ok (.invokevirtual 127, 3) := by decide +kernel
theorem dX6_weigh_90 : decode cX6_weigh 90 = .ok (.iinc 6 1, 3) := by decide +kernel
theorem dX6_weigh_93 : decode cX6_weigh 93 = .ok (.goto (-50), 3) := by decide +kernel
theorem dX6_weigh_96 : decode cX6_weigh 96 = .ok (.iinc 4 1, 3) := by decide +kernel
theorem dX6_weigh_99 : decode cX6_weigh 99 = .ok (.goto (-80), 3) := by decide +kernel
theorem dX6_weigh_102 : decode cX6_weigh 102 = .ok (.return_, 1) := by decide +kernel
set_option maxRecDepth 20000 in
theorem ggX6_findStrange_X6_oldSound : GoodIn wsX6_findStrange wsX6_oldSound := goodIn_r _ [12, 13, 4, 14, 15, 16, 17, 18, 25, 26, 27, 28, 29, 30, 31, 32, 33, 34, 35] (by decide +kernel) (by decide +kernel)
set_option maxRecDepth 20000 in
theorem gX6_findStrange_X6_oldSound : GoodIn wsX6_findStrange (wsV RX6 116 RX6 yX6_oldSound wsX6_oldSound) := goodIn_app (goodIn_of _ (by decide +kernel)) ggX6_findStrange_X6_oldSound
set_option maxRecDepth 20000 in
theorem ggX6_findStrange_X8_aheadAt : GoodIn wsX6_findStrange wsX8_aheadAt := goodIn_r _ [20] (by decide +kernel) (by decide +kernel)
set_option maxRecDepth 20000 in
theorem gX6_findStrange_X8_aheadAt_n120 : GoodIn wsX6_findStrange (wsX8_aheadAt) := ggX6_findStrange_X8_aheadAt
set_option maxRecDepth 20000 in
theorem ggX6_findStrange_X8_lawAt : GoodIn wsX6_findStrange wsX8_lawAt := goodIn_r _ [22] (by decide +kernel) (by decide +kernel)
set_option maxRecDepth 20000 in
theorem gX6_findStrange_X8_lawAt_n123 : GoodIn wsX6_findStrange (wsX8_lawAt) := ggX6_findStrange_X8_lawAt
set_option maxRecDepth 20000 in
theorem ggX6_findStrange_X8_wordAt : GoodIn wsX6_findStrange wsX8_wordAt := goodIn_r _ [24] (by decide +kernel) (by decide +kernel)
set_option maxRecDepth 20000 in
theorem gX6_findStrange_X8_wordAt_n97 : GoodIn wsX6_findStrange (wsX8_wordAt) := ggX6_findStrange_X8_wordAt
theorem dX6_findStrange_0 : decode cX6_findStrange 0 = .ok (.iconst 0, 1) := by decide +kernel
theorem dX6_findStrange_1 : decode cX6_findStrange 1 = .ok (.istore_n 3, 1) := by decide +kernel
theorem dX6_findStrange_2 : decode cX6_findStrange 2 = .ok (.iload_n 3, 1) := by decide +kernel
theorem dX6_findStrange_3 : decode cX6_findStrange 3 = .ok (.iconst 4, 1) := by decide +kernel
theorem dX6_findStrange_4 : decode cX6_findStrange 4 = .ok (.if_icmp .ge 20, 3) := by decide +kernel
theorem dX6_findStrange_7 : decode cX6_findStrange 7 = .ok (.aload_n 0, 1) := by decide +kernel
theorem dX6_findStrange_8 : decode cX6_findStrange 8 = .ok (.getfield 18, 3) := by decide +kernel
theorem dX6_findStrange_11 : decode cX6_findStrange 11 = .ok (.iload_n 2, 1) := by decide +kernel
theorem dX6_findStrange_12 : decode cX6_findStrange 12 = .ok (.iconst 4, 1) := by decide +kernel
theorem dX6_findStrange_13 : decode cX6_findStrange 13 = .ok (.imul, 1) := by decide +kernel
theorem dX6_findStrange_14 : decode cX6_findStrange 14 = .ok (.iload_n 3, 1) := by decide +kernel
theorem dX6_findStrange_15 : decode cX6_findStrange 15 = .ok (.iadd, 1) := by decide +kernel
theorem dX6_findStrange_16 : decode cX6_findStrange 16 = .ok (.iconst 0, 1) := by decide +kernel
theorem dX6_findStrange_17 : decode cX6_findStrange 17 = .ok (.iastore, 1) := by decide +kernel
theorem dX6_findStrange_18 : decode cX6_findStrange 18 = .ok (.iinc 3 1, 3) := by decide +kernel
theorem dX6_findStrange_21 : decode cX6_findStrange 21 = .ok (.goto (-19), 3) := by decide +kernel
theorem dX6_findStrange_24 : decode cX6_findStrange 24 = .ok (.getstatic 87, 3) := by decide +kernel
theorem dX6_findStrange_27 : decode cX6_findStrange 27 = .ok (.aload_n 1, 1) := by decide +kernel
theorem dX6_findStrange_28 : decode cX6_findStrange 28 = .ok (.getfield 90, 3) := by decide +kernel
theorem dX6_findStrange_31 : decode cX6_findStrange 31 = .ok (.iload_n 2, 1) := by decide +kernel
theorem dX6_findStrange_32 : decode cX6_findStrange 32 = .ok (.iaload, 1) := by decide +kernel
theorem dX6_findStrange_33 : decode cX6_findStrange 33 = .ok (.iaload, 1) := by decide +kernel
theorem dX6_findStrange_34 : decode cX6_findStrange 34 = .ok (.ifCond .ne 4, 3) := by decide +kernel
theorem dX6_findStrange_37 : decode cX6_findStrange 37 = .ok (.return_, 1) := by decide +kernel
theorem dX6_findStrange_38 : decode cX6_findStrange 38 = .ok (.iconst 0, 1) := by decide +kernel
theorem dX6_findStrange_39 : decode cX6_findStrange 39 = .ok (.istore_n 3, 1) := by decide +kernel
theorem dX6_findStrange_40 : decode cX6_findStrange 40 = .ok (.iload_n 3, 1) := by decide +kernel
theorem dX6_findStrange_41 : decode cX6_findStrange 41 = .ok (.aload_n 1, 1) := by decide +kernel
theorem dX6_findStrange_42 : decode cX6_findStrange 42 = .ok (.getfield 75, 3) := by decide +kernel
theorem dX6_findStrange_45 : decode cX6_findStrange 45 = .ok (.iload_n 2, 1) := by decide +kernel
theorem dX6_findStrange_46 : decode cX6_findStrange 46 = .ok (.iaload, 1) := by decide +kernel
theorem dX6_findStrange_47 : decode cX6_findStrange 47 = .ok (.if_icmp .ge 100, 3) := by decide +kernel
theorem dX6_findStrange_50 : decode cX6_findStrange 50 = .ok (.aload_n 0, 1) := by decide +kernel
theorem dX6_findStrange_51 : decode cX6_findStrange 51 = .ok (.aload_n 1, 1) := by decide +kernel
theorem dX6_findStrange_52 : decode cX6_findStrange 52 = .ok (.iload_n 2, 1) := by decide +kernel
theorem dX6_findStrange_53 : decode cX6_findStrange 53 = .ok (.iload_n 3, 1) := by decide +kernel
theorem dX6_findStrange_54 : decode cX6_findStrange 54 = .ok (.invokevirtual 116, 3) := by decide +kernel
theorem dX6_findStrange_57 : decode cX6_findStrange 57 = .ok (.istore 4, 2) := by decide +kernel
theorem dX6_findStrange_59 : decode cX6_findStrange 59 = .ok (.iconst 0, 1) := by decide +kernel
theorem dX6_findStrange_60 : decode cX6_findStrange 60 = .ok (.istore 5, 2) := by decide +kernel
theorem dX6_findStrange_62 : decode cX6_findStrange 62 = .ok (.iload 5, 2) := by decide +kernel
theorem dX6_findStrange_64 : decode cX6_findStrange 64 = .ok (.aload_n 1, 1) := by decide +kernel
theorem dX6_findStrange_65 : decode cX6_findStrange 65 = .ok (.getfield 35, 3) := by decide +kernel
theorem dX6_findStrange_68 : decode cX6_findStrange 68 = .ok (.if_icmp .ge 73, 3) := by decide +kernel
theorem dX6_findStrange_71 : decode cX6_findStrange 71 = .ok (.aload_n 0, 1) := by decide +kernel
theorem dX6_findStrange_72 : decode cX6_findStrange 72 = .ok (.getfield 24, 3) := by decide +kernel
theorem dX6_findStrange_75 : decode cX6_findStrange 75 = .ok (.getfield 130, 3) := by decide +kernel
theorem dX6_findStrange_78 : decode cX6_findStrange 78 = .ok (.iload 5, 2) := by decide +kernel
theorem dX6_findStrange_80 : decode cX6_findStrange 80 = .ok (.iload 4, 2) := by decide +kernel
theorem dX6_findStrange_82 : decode cX6_findStrange 82 = .ok (.iload_n 3, 1) := by decide +kernel
theorem dX6_findStrange_83 : decode cX6_findStrange 83 = .ok (.invokestatic 120, 3) := by decide +kernel
theorem dX6_findStrange_86 : decode cX6_findStrange 86 = .ok (.invokestatic 123, 3) := by decide +kernel
theorem dX6_findStrange_89 : decode cX6_findStrange 89 = .ok (.iaload, 1) := by decide +kernel
theorem dX6_findStrange_90 : decode cX6_findStrange 90 = .ok (.istore 6, 2) := by decide +kernel
theorem dX6_findStrange_92 : decode cX6_findStrange 92 = .ok (.aload_n 1, 1) := by decide +kernel
theorem dX6_findStrange_93 : decode cX6_findStrange 93 = .ok (.getfield 94, 3) := by decide +kernel
theorem dX6_findStrange_96 : decode cX6_findStrange 96 = .ok (.iload_n 2, 1) := by decide +kernel
theorem dX6_findStrange_97 : decode cX6_findStrange 97 = .ok (.iload 5, 2) := by decide +kernel
theorem dX6_findStrange_99 : decode cX6_findStrange 99 = .ok (.invokestatic 97, 3) := by decide +kernel
theorem dX6_findStrange_102 : decode cX6_findStrange 102 = .ok (.iload_n 3, 1) := by decide +kernel
theorem dX6_findStrange_103 : decode cX6_findStrange 103 = .ok (.iadd, 1) := by decide +kernel
theorem dX6_findStrange_104 : decode cX6_findStrange 104 = .ok (.iaload, 1) := by decide +kernel
theorem dX6_findStrange_105 : decode cX6_findStrange 105 = .ok (.istore 7, 2) := by decide +kernel
theorem dX6_findStrange_107 : decode cX6_findStrange 107 = .ok (.iload 6, 2) := by decide +kernel
theorem dX6_findStrange_109 : decode cX6_findStrange 109 = .ok (.iconst (-1), 1) := by decide +kernel
theorem dX6_findStrange_110 : decode cX6_findStrange 110 = .ok (.if_icmp .eq 25, 3) := by decide +kernel
theorem dX6_findStrange_113 : decode cX6_findStrange 113 = .ok (.iload 6, 2) := by decide +kernel
theorem dX6_findStrange_115 : decode cX6_findStrange 115 = .ok (.iload 7, 2) := by decide +kernel
theorem dX6_findStrange_117 : decode cX6_findStrange 117 = .ok (.if_icmp .eq 18, 3) := by decide +kernel
theorem dX6_findStrange_120 : decode cX6_findStrange 120 = .ok (.aload_n 0, 1) := by decide +kernel
theorem dX6_findStrange_121 : decode cX6_findStrange 121 = .ok (.getfield 18, 3) := by decide +kernel
theorem dX6_findStrange_124 : decode cX6_findStrange 124 = .ok (.iload_n 2, 1) := by decide +kernel
theorem dX6_findStrange_125 : decode cX6_findStrange 125 = .ok (.iconst 4, 1) := by decide +kernel
theorem dX6_findStrange_126 : decode cX6_findStrange 126 = .ok (.imul, 1) := by decide +kernel
theorem dX6_findStrange_127 : decode cX6_findStrange 127 = .ok (.iload 5, 2) := by decide +kernel
theorem dX6_findStrange_129 : decode cX6_findStrange 129 = .ok (.iadd, 1) := by decide +kernel
theorem dX6_findStrange_130 : decode cX6_findStrange 130 = .ok (.dup2, 1) := by decide +kernel
theorem dX6_findStrange_131 : decode cX6_findStrange 131 = .ok (.iaload, 1) := by decide +kernel
theorem dX6_findStrange_132 : decode cX6_findStrange 132 = .ok (.iconst 1, 1) := by decide +kernel
theorem dX6_findStrange_133 : decode cX6_findStrange 133 = .ok (.iadd, 1) := by decide +kernel
theorem dX6_findStrange_134 : decode cX6_findStrange 134 = .ok (.iastore, 1) := by decide +kernel
theorem dX6_findStrange_135 : decode cX6_findStrange 135 = .ok (.iinc 5 1, 3) := by decide +kernel
theorem dX6_findStrange_138 : decode cX6_findStrange 138 = .ok (.goto (-76), 3) := by decide +kernel
theorem dX6_findStrange_141 : decode cX6_findStrange 141 = .ok (.iinc 3 1, 3) := by decide +kernel
theorem dX6_findStrange_144 : decode cX6_findStrange 144 = .ok (.goto (-104), 3) := by decide +kernel
theorem dX6_findStrange_147 : decode cX6_findStrange 147 = .ok (.return_, 1) := by decide +kernel
theorem dX7_init_0 : decode cX7_init 0 = .ok (.aload_n 0, 1) := by decide +kernel
theorem dX7_init_1 : decode cX7_init 1 = .ok (.invokespecial 3, 3) := by decide +kernel
theorem dX7_init_4 : decode cX7_init 4 = .ok (.aload_n 0, 1) := by decide +kernel
theorem dX7_init_5 : decode cX7_init 5 = .ok (.bipush 7, 2) := by decide +kernel
theorem dX7_init_7 : decode cX7_init 7 = .ok (.newarray .int, 2) := by decide +kernel
theorem dX7_init_9 : decode cX7_init 9 = .ok (.putfield 9, 3) := by decide +kernel
theorem dX7_init_12 : decode cX7_init 12 = .ok (.aload_n 0, 1) := by decide +kernel
theorem dX7_init_13 : decode cX7_init 13 = .ok (.bipush 63, 2) := by decide +kernel
theorem dX7_init_15 : decode cX7_init 15 = .ok (.newarray .int, 2) := by decide +kernel
theorem dX7_init_17 : decode cX7_init 17 = .ok (.putfield 15, 3) := by decide +kernel
theorem dX7_init_20 : decode cX7_init 20 = .ok (.return_, 1) := by decide +kernel
theorem dX7_plant_0 : decode cX7_plant 0 = .ok (.aload_n 0, 1) := by decide +kernel
theorem dX7_plant_1 : decode cX7_plant 1 = .ok (.iload_n 1, 1) := by decide +kernel
theorem dX7_plant_2 : decode cX7_plant 2 = .ok (.putfield 18, 3) := by decide +kernel
theorem dX7_plant_5 : decode cX7_plant 5 = .ok (.return_, 1) := by decide +kernel
set_option maxRecDepth 20000 in
theorem ggX7_root_X8_nodesOf : GoodIn wsX7_root wsX8_nodesOf := goodIn_r _ [4] (by decide +kernel) (by decide +kernel)
set_option maxRecDepth 20000 in
theorem gX7_root_X8_nodesOf_n22 : GoodIn wsX7_root (wsX8_nodesOf) := ggX7_root_X8_nodesOf
theorem dX7_root_0 : decode cX7_root 0 = .ok (.aload_n 0, 1) := by decide +kernel
theorem dX7_root_1 : decode cX7_root 1 = .ok (.getfield 18, 3) := by decide +kernel
theorem dX7_root_4 : decode cX7_root 4 = .ok (.invokestatic 22, 3) := by decide +kernel
theorem dX7_root_7 : decode cX7_root 7 = .ok (.iconst 1, 1) := by decide +kernel
theorem dX7_root_8 : decode cX7_root 8 = .ok (.isub, 1) := by decide +kernel
theorem dX7_root_9 : decode cX7_root 9 = .ok (.ireturn, 1) := by decide +kernel
set_option maxRecDepth 20000 in
theorem ggX7_climb_X8_nodesOf : GoodIn wsX7_climb wsX8_nodesOf := goodIn_r _ [6] (by decide +kernel) (by decide +kernel)
set_option maxRecDepth 20000 in
theorem gX7_climb_X8_nodesOf_n22 : GoodIn wsX7_climb (wsX8_nodesOf) := ggX7_climb_X8_nodesOf
set_option maxRecDepth 20000 in
theorem ggX7_climb_X7_pairOf : GoodIn wsX7_climb wsX7_pairOf := goodIn_r _ [11, 1, 16, 17, 18] (by decide +kernel) (by decide +kernel)
set_option maxRecDepth 20000 in
theorem gX7_climb_X7_pairOf : GoodIn wsX7_climb (wsV RX7 26 RX7 yX7_pairOf wsX7_pairOf) := goodIn_app (goodIn_of _ (by decide +kernel)) ggX7_climb_X7_pairOf
set_option maxRecDepth 20000 in
theorem ggX7_climb_X7_leastBelow : GoodIn wsX7_climb wsX7_leastBelow := goodIn_r _ [15, 1, 3, 2, 16, 17, 18] (by decide +kernel) (by decide +kernel)
set_option maxRecDepth 20000 in
theorem gX7_climb_X7_leastBelow : GoodIn wsX7_climb (wsV RX7 32 RX7 yX7_leastBelow wsX7_leastBelow) := goodIn_app (goodIn_of _ (by decide +kernel)) ggX7_climb_X7_leastBelow
theorem dX7_climb_0 : decode cX7_climb 0 = .ok (.aload_n 0, 1) := by decide +kernel
theorem dX7_climb_1 : decode cX7_climb 1 = .ok (.getfield 18, 3) := by decide +kernel
theorem dX7_climb_4 : decode cX7_climb 4 = .ok (.invokestatic 22, 3) := by decide +kernel
theorem dX7_climb_7 : decode cX7_climb 7 = .ok (.istore_n 1, 1) := by decide +kernel
theorem dX7_climb_8 : decode cX7_climb 8 = .ok (.aload_n 0, 1) := by decide +kernel
theorem dX7_climb_9 : decode cX7_climb 9 = .ok (.getfield 18, 3) := by decide +kernel
theorem dX7_climb_12 : decode cX7_climb 12 = .ok (.istore_n 2, 1) := by decide +kernel
theorem dX7_climb_13 : decode cX7_climb 13 = .ok (.iload_n 2, 1) := by decide +kernel
theorem dX7_climb_14 : decode cX7_climb 14 = .ok (.iload_n 1, 1) := by decide +kernel
theorem dX7_climb_15 : decode cX7_climb 15 = .ok (.if_icmp .ge 68, 3) := by decide +kernel
theorem dX7_climb_18 : decode cX7_climb 18 = .ok (.aload_n 0, 1) := by decide +kernel
theorem dX7_climb_19 : decode cX7_climb 19 = .ok (.iload_n 2, 1) := by decide +kernel
theorem dX7_climb_20 : decode cX7_climb 20 = .ok (.invokevirtual 26, 3) := by decide +kernel
theorem dX7_climb_23 : decode cX7_climb 23 = .ok (.istore_n 3, 1) := by decide +kernel
theorem dX7_climb_24 : decode cX7_climb 24 = .ok (.iconst 0, 1) := by decide +kernel
theorem dX7_climb_25 : decode cX7_climb 25 = .ok (.istore 4, 2) := by decide +kernel
theorem dX7_climb_27 : decode cX7_climb 27 = .ok (.iload 4, 2) := by decide +kernel
theorem dX7_climb_29 : decode cX7_climb 29 = .ok (.bipush 9, 2) := by decide +kernel
theorem dX7_climb_31 : decode cX7_climb 31 = .ok (.if_icmp .ge 46, 3) := by decide +kernel
theorem dX7_climb_34 : decode cX7_climb 34 = .ok (.aload_n 0, 1) := by decide +kernel
theorem dX7_climb_35 : decode cX7_climb 35 = .ok (.getfield 15, 3) := by decide +kernel
theorem dX7_climb_38 : decode cX7_climb 38 = .ok (.iload_n 2, 1) := by decide +kernel
theorem dX7_climb_39 : decode cX7_climb 39 = .ok (.bipush 9, 2) := by decide +kernel
theorem dX7_climb_41 : decode cX7_climb 41 = .ok (.imul, 1) := by decide +kernel
theorem dX7_climb_42 : decode cX7_climb 42 = .ok (.iload 4, 2) := by decide +kernel
theorem dX7_climb_44 : decode cX7_climb 44 = .ok (.iadd, 1) := by decide +kernel
theorem dX7_climb_45 : decode cX7_climb 45 = .ok (.aload_n 0, 1) := by decide +kernel
theorem dX7_climb_46 : decode cX7_climb 46 = .ok (.getstatic 29, 3) := by decide +kernel
theorem dX7_climb_49 : decode cX7_climb 49 = .ok (.iload_n 3, 1) := by decide +kernel
theorem dX7_climb_50 : decode cX7_climb 50 = .ok (.iaload, 1) := by decide +kernel
theorem dX7_climb_51 : decode cX7_climb 51 = .ok (.iload 4, 2) := by decide +kernel
theorem dX7_climb_53 : decode cX7_climb 53 = .ok (.invokevirtual 32, 3) := by decide +kernel
theorem dX7_climb_56 : decode cX7_climb 56 = .ok (.aload_n 0, 1) := by decide +kernel
theorem dX7_climb_57 : decode cX7_climb 57 = .ok (.getstatic 29, 3) := by decide +kernel
theorem dX7_climb_60 : decode cX7_climb 60 = .ok (.iload_n 3, 1) := by decide +kernel
theorem dX7_climb_61 : decode cX7_climb 61 = .ok (.iconst 1, 1) := by decide +kernel
theorem dX7_climb_62 : decode cX7_climb 62 = .ok (.iadd, 1) := by decide +kernel
theorem dX7_climb_63 : decode cX7_climb 63 = .ok (.iaload, 1) := by decide +kernel
theorem dX7_climb_64 : decode cX7_climb 64 = .ok (.iload 4, 2) := by decide +kernel
theorem dX7_climb_66 : decode cX7_climb 66 = .ok (.invokevirtual 32, 3) := by decide +kernel
theorem dX7_climb_69 : decode cX7_climb 69 = .ok (.iadd, 1) := by decide +kernel
theorem dX7_climb_70 : decode cX7_climb 70 = .ok (.iastore, 1) := by decide +kernel
theorem dX7_climb_71 : decode cX7_climb 71 = .ok (.iinc 4 1, 3) := by decide +kernel
theorem dX7_climb_74 : decode cX7_climb 74 = .ok (.goto (-47), 3) := by decide +kernel
theorem dX7_climb_77 : decode cX7_climb 77 = .ok (.iinc 2 1, 3) := by decide +kernel
theorem dX7_climb_80 : decode cX7_climb 80 = .ok (.goto (-67), 3) := by decide +kernel
theorem dX7_climb_83 : decode cX7_climb 83 = .ok (.iload_n 1, 1) := by decide +kernel
theorem dX7_climb_84 : decode cX7_climb 84 = .ok (.iconst 1, 1) := by decide +kernel
theorem dX7_climb_85 : decode cX7_climb 85 = .ok (.isub, 1) := by decide +kernel
theorem dX7_climb_86 : decode cX7_climb 86 = .ok (.istore_n 2, 1) := by decide +kernel
theorem dX7_climb_87 : decode cX7_climb 87 = .ok (.iconst 0, 1) := by decide +kernel
theorem dX7_climb_88 : decode cX7_climb 88 = .ok (.istore_n 3, 1) := by decide +kernel
theorem dX7_climb_89 : decode cX7_climb 89 = .ok (.iconst 1, 1) := by decide +kernel
theorem dX7_climb_90 : decode cX7_climb 90 = .ok (.istore 4, 2) := by decide +kernel
theorem dX7_climb_92 : decode cX7_climb 92 = .ok (.iload 4, 2) := by decide +kernel
theorem dX7_climb_94 : decode cX7_climb 94 = .ok (.bipush 9, 2) := by decide +kernel
theorem dX7_climb_96 : decode cX7_climb 96 = .ok (.if_icmp .ge 38, 3) := by decide +kernel
theorem dX7_climb_99 : decode cX7_climb 99 = .ok (.aload_n 0, 1) := by decide +kernel
theorem dX7_climb_100 : decode cX7_climb 100 = .ok (.getfield 15, 3) := by decide +kernel
theorem dX7_climb_103 : decode cX7_climb 103 = .ok (.iload_n 2, 1) := by decide +kernel
theorem dX7_climb_104 : decode cX7_climb 104 = .ok (.bipush 9, 2) := by decide +kernel
theorem dX7_climb_106 : decode cX7_climb 106 = .ok (.imul, 1) := by decide +kernel
theorem dX7_climb_107 : decode cX7_climb 107 = .ok (.iload 4, 2) := by decide +kernel
theorem dX7_climb_109 : decode cX7_climb 109 = .ok (.iadd, 1) := by decide +kernel
theorem dX7_climb_110 : decode cX7_climb 110 = .ok (.iaload, 1) := by decide +kernel
theorem dX7_climb_111 : decode cX7_climb 111 = .ok (.aload_n 0, 1) := by decide +kernel
theorem dX7_climb_112 : decode cX7_climb 112 = .ok (.getfield 15, 3) := by decide +kernel
theorem dX7_climb_115 : decode cX7_climb 115 = .ok (.iload_n 2, 1) := by decide +kernel
theorem dX7_climb_116 : decode cX7_climb 116 = .ok (.bipush 9, 2) := by decide +kernel
theorem dX7_climb_118 : decode cX7_climb 118 = .ok (.imul, 1) := by decide +kernel
theorem dX7_climb_119 : decode cX7_climb 119 = .ok (.iload_n 3, 1) := by decide +kernel
theorem dX7_climb_120 : decode cX7_climb 120 = .ok (.iadd, 1) := by decide +kernel
theorem dX7_climb_121 : decode cX7_climb 121 = .ok (.iaload, 1) := by decide +kernel
theorem dX7_climb_122 : decode cX7_climb 122 = .ok (.if_icmp .ge 6, 3) := by decide +kernel
theorem dX7_climb_125 : decode cX7_climb 125 = .ok (.iload 4, 2) := by decide +kernel
theorem dX7_climb_127 : decode cX7_climb 127 = .ok (.istore_n 3, 1) := by decide +kernel
theorem dX7_climb_128 : decode cX7_climb 128 = .ok (.iinc 4 1, 3) := by decide +kernel
theorem dX7_climb_131 : decode cX7_climb 131 = .ok (.goto (-39), 3) := by decide +kernel
theorem dX7_climb_134 : decode cX7_climb 134 = .ok (.aload_n 0, 1) := by decide +kernel
theorem dX7_climb_135 : decode cX7_climb 135 = .ok (.getfield 9, 3) := by decide +kernel
theorem dX7_climb_138 : decode cX7_climb 138 = .ok (.iload_n 2, 1) := by decide +kernel
theorem dX7_climb_139 : decode cX7_climb 139 = .ok (.iload_n 3, 1) := by decide +kernel
theorem dX7_climb_140 : decode cX7_climb 140 = .ok (.iastore, 1) := by decide +kernel
theorem dX7_climb_141 : decode cX7_climb 141 = .ok (.aload_n 0, 1) := by decide +kernel
theorem dX7_climb_142 : decode cX7_climb 142 = .ok (.getfield 15, 3) := by decide +kernel
theorem dX7_climb_145 : decode cX7_climb 145 = .ok (.iload_n 2, 1) := by decide +kernel
theorem dX7_climb_146 : decode cX7_climb 146 = .ok (.bipush 9, 2) := by decide +kernel
theorem dX7_climb_148 : decode cX7_climb 148 = .ok (.imul, 1) := by decide +kernel
theorem dX7_climb_149 : decode cX7_climb 149 = .ok (.iload_n 3, 1) := by decide +kernel
theorem dX7_climb_150 : decode cX7_climb 150 = .ok (.iadd, 1) := by decide +kernel
theorem dX7_climb_151 : decode cX7_climb 151 = .ok (.iaload, 1) := by decide +kernel
theorem dX7_climb_152 : decode cX7_climb 152 = .ok (.ireturn, 1) := by decide +kernel
set_option maxRecDepth 20000 in
theorem ggX7_descend_X7_root : GoodIn wsX7_descend wsX7_root := goodIn_r _ [7, 1, 8, 9, 10, 23, 24, 25] (by decide +kernel) (by decide +kernel)
set_option maxRecDepth 20000 in
theorem gX7_descend_X7_root : GoodIn wsX7_descend (wsV RX7 36 RX7 yX7_root wsX7_root) := goodIn_app (goodIn_of _ (by decide +kernel)) ggX7_descend_X7_root
set_option maxRecDepth 20000 in
theorem ggX7_descend_X7_pairOf : GoodIn wsX7_descend wsX7_pairOf := goodIn_r _ [14, 1, 23, 24, 25] (by decide +kernel) (by decide +kernel)
set_option maxRecDepth 20000 in
theorem gX7_descend_X7_pairOf : GoodIn wsX7_descend (wsV RX7 26 RX7 yX7_pairOf wsX7_pairOf) := goodIn_app (goodIn_of _ (by decide +kernel)) ggX7_descend_X7_pairOf
set_option maxRecDepth 20000 in
theorem ggX7_descend_X7_settle : GoodIn wsX7_descend wsX7_settle := goodIn_r _ [18, 1, 19, 2, 20, 9, 21, 22, 23, 24, 25] (by decide +kernel) (by decide +kernel)
set_option maxRecDepth 20000 in
theorem gX7_descend_X7_settle : GoodIn wsX7_descend (wsV RX7 40 RX7 yX7_settle wsX7_settle) := goodIn_app (goodIn_of _ (by decide +kernel)) ggX7_descend_X7_settle
theorem dX7_descend_0 : decode cX7_descend 0 = .ok (.aload_n 0, 1) := by decide +kernel
theorem dX7_descend_1 : decode cX7_descend 1 = .ok (.invokevirtual 36, 3) := by decide +kernel
theorem dX7_descend_4 : decode cX7_descend 4 = .ok (.istore_n 1, 1) := by decide +kernel
theorem dX7_descend_5 : decode cX7_descend 5 = .ok (.iload_n 1, 1) := by decide +kernel
theorem dX7_descend_6 : decode cX7_descend 6 = .ok (.aload_n 0, 1) := by decide +kernel
theorem dX7_descend_7 : decode cX7_descend 7 = .ok (.getfield 18, 3) := by decide +kernel
theorem dX7_descend_10 : decode cX7_descend 10 = .ok (.if_icmp .lt 47, 3) := by decide +kernel
theorem dX7_descend_13 : decode cX7_descend 13 = .ok (.aload_n 0, 1) := by decide +kernel
theorem dX7_descend_14 : decode cX7_descend 14 = .ok (.iload_n 1, 1) := by decide +kernel
theorem dX7_descend_15 : decode cX7_descend 15 = .ok (.invokevirtual 26, 3) := by decide +kernel
theorem dX7_descend_18 : decode cX7_descend 18 = .ok (.istore_n 2, 1) := by decide +kernel
theorem dX7_descend_19 : decode cX7_descend 19 = .ok (.aload_n 0, 1) := by decide +kernel
theorem dX7_descend_20 : decode cX7_descend 20 = .ok (.getstatic 29, 3) := by decide +kernel
theorem dX7_descend_23 : decode cX7_descend 23 = .ok (.iload_n 2, 1) := by decide +kernel
theorem dX7_descend_24 : decode cX7_descend 24 = .ok (.iaload, 1) := by decide +kernel
theorem dX7_descend_25 : decode cX7_descend 25 = .ok (.aload_n 0, 1) := by decide +kernel
theorem dX7_descend_26 : decode cX7_descend 26 = .ok (.getfield 9, 3) := by decide +kernel
theorem dX7_descend_29 : decode cX7_descend 29 = .ok (.iload_n 1, 1) := by decide +kernel
theorem dX7_descend_30 : decode cX7_descend 30 = .ok (.iaload, 1) := by decide +kernel
theorem dX7_descend_31 : decode cX7_descend 31 = .ok (.invokevirtual 40, 3) := by decide +kernel
theorem dX7_descend_34 : decode cX7_descend 34 = .ok (.aload_n 0, 1) := by decide +kernel
theorem dX7_descend_35 : decode cX7_descend 35 = .ok (.getstatic 29, 3) := by decide +kernel
theorem dX7_descend_38 : decode cX7_descend 38 = .ok (.iload_n 2, 1) := by decide +kernel
theorem dX7_descend_39 : decode cX7_descend 39 = .ok (.iconst 1, 1) := by decide +kernel
theorem dX7_descend_40 : decode cX7_descend 40 = .ok (.iadd, 1) := by decide +kernel
theorem dX7_descend_41 : decode cX7_descend 41 = .ok (.iaload, 1) := by decide +kernel
theorem dX7_descend_42 : decode cX7_descend 42 = .ok (.aload_n 0, 1) := by decide +kernel
theorem dX7_descend_43 : decode cX7_descend 43 = .ok (.getfield 9, 3) := by decide +kernel
theorem dX7_descend_46 : decode cX7_descend 46 = .ok (.iload_n 1, 1) := by decide +kernel
theorem dX7_descend_47 : decode cX7_descend 47 = .ok (.iaload, 1) := by decide +kernel
theorem dX7_descend_48 : decode cX7_descend 48 = .ok (.invokevirtual 40, 3) := by decide +kernel
theorem dX7_descend_51 : decode cX7_descend 51 = .ok (.iinc 1 (-1), 3) := by decide +kernel
theorem dX7_descend_54 : decode cX7_descend 54 = .ok (.goto (-49), 3) := by decide +kernel
theorem dX7_descend_57 : decode cX7_descend 57 = .ok (.return_, 1) := by decide +kernel
theorem dX7_pairOf_0 : decode cX7_pairOf 0 = .ok (.getstatic 44, 3) := by decide +kernel
theorem dX7_pairOf_3 : decode cX7_pairOf 3 = .ok (.aload_n 0, 1) := by decide +kernel
theorem dX7_pairOf_4 : decode cX7_pairOf 4 = .ok (.getfield 18, 3) := by decide +kernel
theorem dX7_pairOf_7 : decode cX7_pairOf 7 = .ok (.iaload, 1) := by decide +kernel
theorem dX7_pairOf_8 : decode cX7_pairOf 8 = .ok (.iconst 2, 1) := by decide +kernel
theorem dX7_pairOf_9 : decode cX7_pairOf 9 = .ok (.iload_n 1, 1) := by decide +kernel
theorem dX7_pairOf_10 : decode cX7_pairOf 10 = .ok (.aload_n 0, 1) := by decide +kernel
theorem dX7_pairOf_11 : decode cX7_pairOf 11 = .ok (.getfield 18, 3) := by decide +kernel
theorem dX7_pairOf_14 : decode cX7_pairOf 14 = .ok (.isub, 1) := by decide +kernel
theorem dX7_pairOf_15 : decode cX7_pairOf 15 = .ok (.imul, 1) := by decide +kernel
theorem dX7_pairOf_16 : decode cX7_pairOf 16 = .ok (.iadd, 1) := by decide +kernel
theorem dX7_pairOf_17 : decode cX7_pairOf 17 = .ok (.ireturn, 1) := by decide +kernel
theorem dX7_leastBelow_0 : decode cX7_leastBelow 0 = .ok (.iload_n 2, 1) := by decide +kernel
theorem dX7_leastBelow_1 : decode cX7_leastBelow 1 = .ok (.bipush 9, 2) := by decide +kernel
theorem dX7_leastBelow_3 : decode cX7_leastBelow 3 = .ok (.imul, 1) := by decide +kernel
theorem dX7_leastBelow_4 : decode cX7_leastBelow 4 = .ok (.istore_n 3, 1) := by decide +kernel
theorem dX7_leastBelow_5 : decode cX7_leastBelow 5 = .ok (.iload_n 1, 1) := by decide +kernel
theorem dX7_leastBelow_6 : decode cX7_leastBelow 6 = .ok (.aload_n 0, 1) := by decide +kernel
theorem dX7_leastBelow_7 : decode cX7_leastBelow 7 = .ok (.getfield 18, 3) := by decide +kernel
theorem dX7_leastBelow_10 : decode cX7_leastBelow 10 = .ok (.if_icmp .ge 16, 3) := by decide +kernel
theorem dX7_leastBelow_13 : decode cX7_leastBelow 13 = .ok (.getstatic 47, 3) := by decide +kernel
theorem dX7_leastBelow_16 : decode cX7_leastBelow 16 = .ok (.iload_n 3, 1) := by decide +kernel
theorem dX7_leastBelow_17 : decode cX7_leastBelow 17 = .ok (.aload_n 0, 1) := by decide +kernel
theorem dX7_leastBelow_18 : decode cX7_leastBelow 18 = .ok (.getfield 9, 3) := by decide +kernel
theorem dX7_leastBelow_21 : decode cX7_leastBelow 21 = .ok (.iload_n 1, 1) := by decide +kernel
theorem dX7_leastBelow_22 : decode cX7_leastBelow 22 = .ok (.iaload, 1) := by decide +kernel
theorem dX7_leastBelow_23 : decode cX7_leastBelow 23 = .ok (.iadd, 1) := by decide +kernel
theorem dX7_leastBelow_24 : decode cX7_leastBelow 24 = .ok (.iaload, 1) := by decide +kernel
theorem dX7_leastBelow_25 : decode cX7_leastBelow 25 = .ok (.ireturn, 1) := by decide +kernel
theorem dX7_leastBelow_26 : decode cX7_leastBelow 26 = .ok (.iload_n 1, 1) := by decide +kernel
theorem dX7_leastBelow_27 : decode cX7_leastBelow 27 = .ok (.bipush 9, 2) := by decide +kernel
theorem dX7_leastBelow_29 : decode cX7_leastBelow 29 = .ok (.imul, 1) := by decide +kernel
theorem dX7_leastBelow_30 : decode cX7_leastBelow 30 = .ok (.istore 4, 2) := by decide +kernel
theorem dX7_leastBelow_32 : decode cX7_leastBelow 32 = .ok (.getstatic 47, 3) := by decide +kernel
theorem dX7_leastBelow_35 : decode cX7_leastBelow 35 = .ok (.iload_n 3, 1) := by decide +kernel
theorem dX7_leastBelow_36 : decode cX7_leastBelow 36 = .ok (.iaload, 1) := by decide +kernel
theorem dX7_leastBelow_37 : decode cX7_leastBelow 37 = .ok (.aload_n 0, 1) := by decide +kernel
theorem dX7_leastBelow_38 : decode cX7_leastBelow 38 = .ok (.getfield 15, 3) := by decide +kernel
theorem dX7_leastBelow_41 : decode cX7_leastBelow 41 = .ok (.iload 4, 2) := by decide +kernel
theorem dX7_leastBelow_43 : decode cX7_leastBelow 43 = .ok (.iaload, 1) := by decide +kernel
theorem dX7_leastBelow_44 : decode cX7_leastBelow 44 = .ok (.iadd, 1) := by decide +kernel
theorem dX7_leastBelow_45 : decode cX7_leastBelow 45 = .ok (.istore 5, 2) := by decide +kernel
theorem dX7_leastBelow_47 : decode cX7_leastBelow 47 = .ok (.iconst 1, 1) := by decide +kernel
theorem dX7_leastBelow_48 : decode cX7_leastBelow 48 = .ok (.istore 6, 2) := by decide +kernel
theorem dX7_leastBelow_50 : decode cX7_leastBelow 50 = .ok (.iload 6, 2) := by decide +kernel
theorem dX7_leastBelow_52 : decode cX7_leastBelow 52 = .ok (.bipush 9, 2) := by decide +kernel
theorem dX7_leastBelow_54 : decode cX7_leastBelow 54 = .ok (.if_icmp .ge 41, 3) := by decide +kernel
theorem dX7_leastBelow_57 : decode cX7_leastBelow 57 = .ok (.getstatic 47, 3) := by decide +kernel
theorem dX7_leastBelow_60 : decode cX7_leastBelow 60 = .ok (.iload_n 3, 1) := by decide +kernel
theorem dX7_leastBelow_61 : decode cX7_leastBelow 61 = .ok (.iload 6, 2) := by decide +kernel
theorem dX7_leastBelow_63 : decode cX7_leastBelow 63 = .ok (.iadd, 1) := by decide +kernel
theorem dX7_leastBelow_64 : decode cX7_leastBelow 64 = .ok (.iaload, 1) := by decide +kernel
theorem dX7_leastBelow_65 : decode cX7_leastBelow 65 = .ok (.aload_n 0, 1) := by decide +kernel
theorem dX7_leastBelow_66 : decode cX7_leastBelow 66 = .ok (.getfield 15, 3) := by decide +kernel
theorem dX7_leastBelow_69 : decode cX7_leastBelow 69 = .ok (.iload 4, 2) := by decide +kernel
theorem dX7_leastBelow_71 : decode cX7_leastBelow 71 = .ok (.iload 6, 2) := by decide +kernel
theorem dX7_leastBelow_73 : decode cX7_leastBelow 73 = .ok (.iadd, 1) := by decide +kernel
theorem dX7_leastBelow_74 : decode cX7_leastBelow 74 = .ok (.iaload, 1) := by decide +kernel
theorem dX7_leastBelow_75 : decode cX7_leastBelow 75 = .ok (.iadd, 1) := by decide +kernel
theorem dX7_leastBelow_76 : decode cX7_leastBelow 76 = .ok (.istore 7, 2) := by decide +kernel
theorem dX7_leastBelow_78 : decode cX7_leastBelow 78 = .ok (.iload 7, 2) := by decide +kernel
theorem dX7_leastBelow_80 : decode cX7_leastBelow 80 = .ok (.iload 5, 2) := by decide +kernel
theorem dX7_leastBelow_82 : decode cX7_leastBelow 82 = .ok (.if_icmp .ge 7, 3) := by decide +kernel
theorem dX7_leastBelow_85 : decode cX7_leastBelow 85 = .ok (.iload 7, 2) := by decide +kernel
theorem dX7_leastBelow_87 : decode cX7_leastBelow 87 = .ok (.istore 5, 2) := by decide +kernel
theorem dX7_leastBelow_89 : decode cX7_leastBelow 89 = .ok (.iinc 6 1, 3) := by decide +kernel
theorem dX7_leastBelow_92 : decode cX7_leastBelow 92 = .ok (.goto (-42), 3) := by decide +kernel
theorem dX7_leastBelow_95 : decode cX7_leastBelow 95 = .ok (.iload 5, 2) := by decide +kernel
theorem dX7_leastBelow_97 : decode cX7_leastBelow 97 = .ok (.ireturn, 1) := by decide +kernel
set_option maxRecDepth 20000 in
theorem ggX7_settle_X8_costOf : GoodIn wsX7_settle wsX8_costOf := goodIn_r _ [6, 7] (by decide +kernel) (by decide +kernel)
set_option maxRecDepth 20000 in
theorem gX7_settle_X8_costOf_n50 : GoodIn wsX7_settle (wsX8_costOf) := ggX7_settle_X8_costOf
theorem dX7_settle_0 : decode cX7_settle 0 = .ok (.iload_n 1, 1) := by decide +kernel
theorem dX7_settle_1 : decode cX7_settle 1 = .ok (.aload_n 0, 1) := by decide +kernel
theorem dX7_settle_2 : decode cX7_settle 2 = .ok (.getfield 18, 3) := by decide +kernel
theorem dX7_settle_5 : decode cX7_settle 5 = .ok (.if_icmp .ge 4, 3) := by decide +kernel
theorem dX7_settle_8 : decode cX7_settle 8 = .ok (.return_, 1) := by decide +kernel
theorem dX7_settle_9 : decode cX7_settle 9 = .ok (.iconst 0, 1) := by decide +kernel
theorem dX7_settle_10 : decode cX7_settle 10 = .ok (.istore_n 3, 1) := by decide +kernel
theorem dX7_settle_11 : decode cX7_settle 11 = .ok (.iload_n 2, 1) := by decide +kernel
theorem dX7_settle_12 : decode cX7_settle 12 = .ok (.iconst 0, 1) := by decide +kernel
theorem dX7_settle_13 : decode cX7_settle 13 = .ok (.invokestatic 50, 3) := by decide +kernel
theorem dX7_settle_16 : decode cX7_settle 16 = .ok (.aload_n 0, 1) := by decide +kernel
theorem dX7_settle_17 : decode cX7_settle 17 = .ok (.getfield 15, 3) := by decide +kernel
theorem dX7_settle_20 : decode cX7_settle 20 = .ok (.iload_n 1, 1) := by decide +kernel
theorem dX7_settle_21 : decode cX7_settle 21 = .ok (.bipush 9, 2) := by decide +kernel
theorem dX7_settle_23 : decode cX7_settle 23 = .ok (.imul, 1) := by decide +kernel
theorem dX7_settle_24 : decode cX7_settle 24 = .ok (.iaload, 1) := by decide +kernel
theorem dX7_settle_25 : decode cX7_settle 25 = .ok (.iadd, 1) := by decide +kernel
theorem dX7_settle_26 : decode cX7_settle 26 = .ok (.istore 4, 2) := by decide +kernel
theorem dX7_settle_28 : decode cX7_settle 28 = .ok (.iconst 1, 1) := by decide +kernel
theorem dX7_settle_29 : decode cX7_settle 29 = .ok (.istore 5, 2) := by decide +kernel
theorem dX7_settle_31 : decode cX7_settle 31 = .ok (.iload 5, 2) := by decide +kernel
theorem dX7_settle_33 : decode cX7_settle 33 = .ok (.bipush 9, 2) := by decide +kernel
theorem dX7_settle_35 : decode cX7_settle 35 = .ok (.if_icmp .ge 44, 3) := by decide +kernel
theorem dX7_settle_38 : decode cX7_settle 38 = .ok (.iload_n 2, 1) := by decide +kernel
theorem dX7_settle_39 : decode cX7_settle 39 = .ok (.iload 5, 2) := by decide +kernel
theorem dX7_settle_41 : decode cX7_settle 41 = .ok (.invokestatic 50, 3) := by decide +kernel
theorem dX7_settle_44 : decode cX7_settle 44 = .ok (.aload_n 0, 1) := by decide +kernel
theorem dX7_settle_45 : decode cX7_settle 45 = .ok (.getfield 15, 3) := by decide +kernel
theorem dX7_settle_48 : decode cX7_settle 48 = .ok (.iload_n 1, 1) := by decide +kernel
theorem dX7_settle_49 : decode cX7_settle 49 = .ok (.bipush 9, 2) := by decide +kernel
theorem dX7_settle_51 : decode cX7_settle 51 = .ok (.imul, 1) := by decide +kernel
theorem dX7_settle_52 : decode cX7_settle 52 = .ok (.iload 5, 2) := by decide +kernel
theorem dX7_settle_54 : decode cX7_settle 54 = .ok (.iadd, 1) := by decide +kernel
theorem dX7_settle_55 : decode cX7_settle 55 = .ok (.iaload, 1) := by decide +kernel
theorem dX7_settle_56 : decode cX7_settle 56 = .ok (.iadd, 1) := by decide +kernel
theorem dX7_settle_57 : decode cX7_settle 57 = .ok (.istore 6, 2) := by decide +kernel
theorem dX7_settle_59 : decode cX7_settle 59 = .ok (.iload 6, 2) := by decide +kernel
theorem dX7_settle_61 : decode cX7_settle 61 = .ok (.iload 4, 2) := by decide +kernel
theorem dX7_settle_63 : decode cX7_settle 63 = .ok (.if_icmp .ge 10, 3) := by decide +kernel
theorem dX7_settle_66 : decode cX7_settle 66 = .ok (.iload 6, 2) := by decide +kernel
theorem dX7_settle_68 : decode cX7_settle 68 = .ok (.istore 4, 2) := by decide +kernel
theorem dX7_settle_70 : decode cX7_settle 70 = .ok (.iload 5, 2) := by decide +kernel
theorem dX7_settle_72 : decode cX7_settle 72 = .ok (.istore_n 3, 1) := by decide +kernel
theorem dX7_settle_73 : decode cX7_settle 73 = .ok (.iinc 5 1, 3) := by decide +kernel
theorem dX7_settle_76 : decode cX7_settle 76 = .ok (.goto (-45), 3) := by decide +kernel
theorem dX7_settle_79 : decode cX7_settle 79 = .ok (.aload_n 0, 1) := by decide +kernel
theorem dX7_settle_80 : decode cX7_settle 80 = .ok (.getfield 9, 3) := by decide +kernel
theorem dX7_settle_83 : decode cX7_settle 83 = .ok (.iload_n 1, 1) := by decide +kernel
theorem dX7_settle_84 : decode cX7_settle 84 = .ok (.iload_n 3, 1) := by decide +kernel
theorem dX7_settle_85 : decode cX7_settle 85 = .ok (.iastore, 1) := by decide +kernel
theorem dX7_settle_86 : decode cX7_settle 86 = .ok (.return_, 1) := by decide +kernel
set_option maxRecDepth 20000 in
theorem ggX8_init_X3_init : GoodIn wsX8_init wsX3_init := goodIn_r _ [33, 34, 2, 3, 35, 11, 12, 36, 37, 38, 39, 4, 40, 41, 42, 107, 108, 109, 110, 111, 100, 101, 102, 103, 104, 105, 106] (by decide +kernel) (by decide +kernel)
set_option maxRecDepth 20000 in
theorem gX8_init_X3_init_n15 : GoodIn wsX8_init (wsX3_init) := ggX8_init_X3_init
set_option maxRecDepth 20000 in
theorem ggX8_init_X5_init : GoodIn wsX8_init wsX5_init := goodIn_r _ [38, 39, 2, 3, 4, 40, 41, 42, 107, 108, 109, 110, 111] (by decide +kernel) (by decide +kernel)
set_option maxRecDepth 20000 in
theorem gX8_init_X5_init_n22 : GoodIn wsX8_init (wsX5_init) := ggX8_init_X5_init
set_option maxRecDepth 20000 in
theorem ggX8_init_X4_init : GoodIn wsX8_init wsX4_init := goodIn_r _ [44, 45, 2, 3, 4, 46, 47, 48, 49, 112, 113, 114, 115] (by decide +kernel) (by decide +kernel)
set_option maxRecDepth 20000 in
theorem gX8_init_X4_init_n29 : GoodIn wsX8_init (wsX4_init) := ggX8_init_X4_init
set_option maxRecDepth 20000 in
theorem ggX8_init_X6_init : GoodIn wsX8_init wsX6_init := goodIn_r _ [51, 52, 2, 3, 4, 53, 54, 55, 56, 57, 58, 59, 60, 61, 62, 63, 64, 65, 66, 67, 68, 69, 70, 71, 72, 73, 74, 75, 116, 117, 118, 119, 120, 121, 131, 132, 133, 134, 135, 136, 137, 138, 139] (by decide +kernel) (by decide +kernel)
set_option maxRecDepth 20000 in
theorem gX8_init_X6_init_n36 : GoodIn wsX8_init (wsX6_init) := ggX8_init_X6_init
set_option maxRecDepth 20000 in
theorem ggX8_init_X0_init : GoodIn wsX8_init wsX0_init := goodIn_r _ [77, 78, 2, 3, 4, 79, 80, 81, 122, 123, 124, 125, 126] (by decide +kernel) (by decide +kernel)
set_option maxRecDepth 20000 in
theorem gX8_init_X0_init_n49 : GoodIn wsX8_init (wsX0_init) := ggX8_init_X0_init
set_option maxRecDepth 20000 in
theorem ggX8_init_X1_init : GoodIn wsX8_init wsX1_init := goodIn_r _ [83, 84, 2, 3, 85, 61, 62, 86, 71, 72, 73, 4, 74, 75, 137, 138, 139, 127, 128, 129, 130] (by decide +kernel) (by decide +kernel)
set_option maxRecDepth 20000 in
theorem gX8_init_X1_init_n56 : GoodIn wsX8_init (wsX1_init) := ggX8_init_X1_init
theorem dX8_init_0 : decode cX8_init 0 = .ok (.aload_n 0, 1) := by decide +kernel
theorem dX8_init_1 : decode cX8_init 1 = .ok (.invokespecial 1, 3) := by decide +kernel
theorem dX8_init_4 : decode cX8_init 4 = .ok (.aload_n 0, 1) := by decide +kernel
theorem dX8_init_5 : decode cX8_init 5 = .ok (.bipush 110, 2) := by decide +kernel
theorem dX8_init_7 : decode cX8_init 7 = .ok (.newarray .int, 2) := by decide +kernel
theorem dX8_init_9 : decode cX8_init 9 = .ok (.putfield 9, 3) := by decide +kernel
theorem dX8_init_12 : decode cX8_init 12 = .ok (.aload_n 0, 1) := by decide +kernel
theorem dX8_init_13 : decode cX8_init 13 = .ok (.new 13, 3) := by decide +kernel
theorem dX8_init_16 : decode cX8_init 16 = .ok (.dup, 1) := by decide +kernel
theorem dX8_init_17 : decode cX8_init 17 = .ok (.invokespecial 15, 3) := by decide +kernel
theorem dX8_init_20 : decode cX8_init 20 = .ok (.putfield 16, 3) := by decide +kernel
theorem dX8_init_23 : decode cX8_init 23 = .ok (.aload_n 0, 1) := by decide +kernel
theorem dX8_init_24 : decode cX8_init 24 = .ok (.new 20, 3) := by decide +kernel
theorem dX8_init_27 : decode cX8_init 27 = .ok (.dup, 1) := by decide +kernel
theorem dX8_init_28 : decode cX8_init 28 = .ok (.invokespecial 22, 3) := by decide +kernel
theorem dX8_init_31 : decode cX8_init 31 = .ok (.putfield 23, 3) := by decide +kernel
theorem dX8_init_34 : decode cX8_init 34 = .ok (.aload_n 0, 1) := by decide +kernel
theorem dX8_init_35 : decode cX8_init 35 = .ok (.new 27, 3) := by decide +kernel
theorem dX8_init_38 : decode cX8_init 38 = .ok (.dup, 1) := by decide +kernel
theorem dX8_init_39 : decode cX8_init 39 = .ok (.invokespecial 29, 3) := by decide +kernel
theorem dX8_init_42 : decode cX8_init 42 = .ok (.putfield 30, 3) := by decide +kernel
theorem dX8_init_45 : decode cX8_init 45 = .ok (.aload_n 0, 1) := by decide +kernel
theorem dX8_init_46 : decode cX8_init 46 = .ok (.new 34, 3) := by decide +kernel
theorem dX8_init_49 : decode cX8_init 49 = .ok (.dup, 1) := by decide +kernel
theorem dX8_init_50 : decode cX8_init 50 = .ok (.invokespecial 36, 3) := by decide +kernel
theorem dX8_init_53 : decode cX8_init 53 = .ok (.putfield 37, 3) := by decide +kernel
theorem dX8_init_56 : decode cX8_init 56 = .ok (.aload_n 0, 1) := by decide +kernel
theorem dX8_init_57 : decode cX8_init 57 = .ok (.new 20, 3) := by decide +kernel
theorem dX8_init_60 : decode cX8_init 60 = .ok (.dup, 1) := by decide +kernel
theorem dX8_init_61 : decode cX8_init 61 = .ok (.invokespecial 22, 3) := by decide +kernel
theorem dX8_init_64 : decode cX8_init 64 = .ok (.putfield 41, 3) := by decide +kernel
theorem dX8_init_67 : decode cX8_init 67 = .ok (.aload_n 0, 1) := by decide +kernel
theorem dX8_init_68 : decode cX8_init 68 = .ok (.new 27, 3) := by decide +kernel
theorem dX8_init_71 : decode cX8_init 71 = .ok (.dup, 1) := by decide +kernel
theorem dX8_init_72 : decode cX8_init 72 = .ok (.invokespecial 29, 3) := by decide +kernel
theorem dX8_init_75 : decode cX8_init 75 = .ok (.putfield 44, 3) := by decide +kernel
theorem dX8_init_78 : decode cX8_init 78 = .ok (.aload_n 0, 1) := by decide +kernel
theorem dX8_init_79 : decode cX8_init 79 = .ok (.new 47, 3) := by decide +kernel
theorem dX8_init_82 : decode cX8_init 82 = .ok (.dup, 1) := by decide +kernel
theorem dX8_init_83 : decode cX8_init 83 = .ok (.invokespecial 49, 3) := by decide +kernel
theorem dX8_init_86 : decode cX8_init 86 = .ok (.putfield 50, 3) := by decide +kernel
theorem dX8_init_89 : decode cX8_init 89 = .ok (.aload_n 0, 1) := by decide +kernel
theorem dX8_init_90 : decode cX8_init 90 = .ok (.new 54, 3) := by decide +kernel
theorem dX8_init_93 : decode cX8_init 93 = .ok (.dup, 1) := by decide +kernel
theorem dX8_init_94 : decode cX8_init 94 = .ok (.invokespecial 56, 3) := by decide +kernel
theorem dX8_init_97 : decode cX8_init 97 = .ok (.putfield 57, 3) := by decide +kernel
theorem dX8_init_100 : decode cX8_init 100 = .ok (.return_, 1) := by decide +kernel
theorem dX8_letter_0 : decode cX8_letter 0 = .ok (.iload_n 1, 1) := by decide +kernel
theorem dX8_letter_1 : decode cX8_letter 1 = .ok (.iconst 1, 1) := by decide +kernel
theorem dX8_letter_2 : decode cX8_letter 2 = .ok (.if_icmp .lt 9, 3) := by decide +kernel
theorem dX8_letter_5 : decode cX8_letter 5 = .ok (.iload_n 1, 1) := by decide +kernel
theorem dX8_letter_6 : decode cX8_letter 6 = .ok (.bipush 126, 2) := by decide +kernel
theorem dX8_letter_8 : decode cX8_letter 8 = .ok (.if_icmp .le 6, 3) := by decide +kernel
theorem dX8_letter_11 : decode cX8_letter 11 = .ok (.bipush (-102), 2) := by decide +kernel
theorem dX8_letter_13 : decode cX8_letter 13 = .ok (.ireturn, 1) := by decide +kernel
theorem dX8_letter_14 : decode cX8_letter 14 = .ok (.aload_n 0, 1) := by decide +kernel
theorem dX8_letter_15 : decode cX8_letter 15 = .ok (.getfield 61, 3) := by decide +kernel
theorem dX8_letter_18 : decode cX8_letter 18 = .ok (.bipush 110, 2) := by decide +kernel
theorem dX8_letter_20 : decode cX8_letter 20 = .ok (.if_icmp .lt 6, 3) := by decide +kernel
theorem dX8_letter_23 : decode cX8_letter 23 = .ok (.bipush (-104), 2) := by decide +kernel
theorem dX8_letter_25 : decode cX8_letter 25 = .ok (.ireturn, 1) := by decide +kernel
theorem dX8_letter_26 : decode cX8_letter 26 = .ok (.aload_n 0, 1) := by decide +kernel
theorem dX8_letter_27 : decode cX8_letter 27 = .ok (.getfield 9, 3) := by decide +kernel
theorem dX8_letter_30 : decode cX8_letter 30 = .ok (.aload_n 0, 1) := by decide +kernel
theorem dX8_letter_31 : decode cX8_letter 31 = .ok (.getfield 61, 3) := by decide +kernel
theorem dX8_letter_34 : decode cX8_letter 34 = .ok (.iload_n 1, 1) := by decide +kernel
theorem dX8_letter_35 : decode cX8_letter 35 = .ok (.iastore, 1) := by decide +kernel
theorem dX8_letter_36 : decode cX8_letter 36 = .ok (.aload_n 0, 1) := by decide +kernel
theorem dX8_letter_37 : decode cX8_letter 37 = .ok (.dup, 1) := by decide +kernel
theorem dX8_letter_38 : decode cX8_letter 38 = .ok (.getfield 61, 3) := by decide +kernel
theorem dX8_letter_41 : decode cX8_letter 41 = .ok (.iconst 1, 1) := by decide +kernel
theorem dX8_letter_42 : decode cX8_letter 42 = .ok (.iadd, 1) := by decide +kernel
theorem dX8_letter_43 : decode cX8_letter 43 = .ok (.putfield 61, 3) := by decide +kernel
theorem dX8_letter_46 : decode cX8_letter 46 = .ok (.aload_n 0, 1) := by decide +kernel
theorem dX8_letter_47 : decode cX8_letter 47 = .ok (.getfield 61, 3) := by decide +kernel
theorem dX8_letter_50 : decode cX8_letter 50 = .ok (.ireturn, 1) := by decide +kernel
theorem dX8_blank_0 : decode cX8_blank 0 = .ok (.aload_n 0, 1) := by decide +kernel
theorem dX8_blank_1 : decode cX8_blank 1 = .ok (.getfield 61, 3) := by decide +kernel
theorem dX8_blank_4 : decode cX8_blank 4 = .ok (.istore_n 1, 1) := by decide +kernel
theorem dX8_blank_5 : decode cX8_blank 5 = .ok (.aload_n 0, 1) := by decide +kernel
theorem dX8_blank_6 : decode cX8_blank 6 = .ok (.iconst 0, 1) := by decide +kernel
theorem dX8_blank_7 : decode cX8_blank 7 = .ok (.putfield 61, 3) := by decide +kernel
theorem dX8_blank_10 : decode cX8_blank 10 = .ok (.iload_n 1, 1) := by decide +kernel
theorem dX8_blank_11 : decode cX8_blank 11 = .ok (.ireturn, 1) := by decide +kernel
set_option maxRecDepth 20000 in
theorem ggX8_fault_X8_readPage : GoodIn wsX8_fault wsX8_readPage := goodIn_r _ [5, 6, 7, 8, 9, 10, 11, 12, 13, 14, 15, 16, 17, 18, 19, 20, 21, 22, 23, 24, 25, 26, 27, 28, 29, 30, 31, 32, 33, 34, 35, 36, 37, 38, 39, 40, 41, 42, 43, 44, 45, 46, 47, 48, 49, 50, 51, 52, 53, 54, 55, 56, 57, 58, 59, 60, 61, 62, 63, 64, 65, 66, 67, 68, 69, 70, 71, 72, 73, 74, 75, 76, 77, 78, 79, 80, 81, 82, 83, 84, 85, 86, 87, 88, 89, 90, 91, 92, 93, 94, 95, 96, 97, 98, 99, 100, 101, 102, 103, 104, 105, 106, 107, 108, 109, 110, 111, 112, 113, 114, 115, 116, 117, 118, 119, 120, 121, 122, 123, 124, 125, 126, 127, 128, 129, 130, 131, 132, 133, 134, 135, 136, 137, 138, 139, 140, 141, 142, 143, 144, 145, 146, 147, 148, 149, 150, 151, 4, 152, 153, 154, 155, 156, 157, 158, 159, 160, 161, 162, 163, 164, 165, 166, 167, 168, 169, 170, 171, 172, 173, 174, 175, 176, 177] (by decide +kernel) (by decide +kernel)
set_option maxRecDepth 20000 in
theorem gX8_fault_X8_readPage : GoodIn wsX8_fault (wsV RX8 65 RX8 yX8_readPage wsX8_readPage) := goodIn_app (goodIn_of _ (by decide +kernel)) ggX8_fault_X8_readPage
theorem dX8_fault_0 : decode cX8_fault 0 = .ok (.aload_n 0, 1) := by decide +kernel
theorem dX8_fault_1 : decode cX8_fault 1 = .ok (.invokevirtual 65, 3) := by decide +kernel
theorem dX8_fault_4 : decode cX8_fault 4 = .ok (.ireturn, 1) := by decide +kernel
set_option maxRecDepth 20000 in
theorem ggX8_sets_X8_readPage : GoodIn wsX8_sets wsX8_readPage := goodIn_r _ [14, 2, 1, 15, 16, 17, 18, 19, 20, 21, 22, 23, 24, 25, 26, 27, 28, 29, 30, 31, 32, 33, 34, 35, 36, 37, 38, 39, 40, 41, 42, 43, 44, 45, 46, 47, 48, 49, 50, 51, 52, 53, 54, 55, 56, 57, 58, 59, 60, 61, 62, 63, 64, 65, 66, 67, 68, 69, 70, 71, 72, 73, 74, 75, 76, 77, 78, 79, 80, 81, 82, 83, 84, 85, 86, 87, 88, 89, 90, 91, 92, 93, 94, 95, 96, 97, 98, 99, 100, 101, 102, 103, 104, 105, 106, 107, 108, 109, 110, 111, 112, 113, 114, 115, 116, 117, 118, 119, 120, 121, 122, 123, 124, 125, 126, 127, 128, 129, 130, 131, 132, 133, 134, 135, 136, 137, 138, 139, 140, 141, 142, 143, 144, 145, 146, 147, 148, 149, 150, 151, 152, 153, 154, 155, 156, 157, 158, 13, 159, 184, 185, 186, 187, 188, 189, 190, 191, 192, 193, 194, 195, 196, 197, 198, 199, 200, 201, 202, 203, 204, 205, 206, 207, 208] (by decide +kernel) (by decide +kernel)
set_option maxRecDepth 20000 in
theorem gX8_sets_X8_readPage : GoodIn wsX8_sets (wsV RX8 65 RX8 yX8_readPage wsX8_readPage) := goodIn_app (goodIn_of _ (by decide +kernel)) ggX8_sets_X8_readPage
set_option maxRecDepth 20000 in
theorem ggX8_sets_X3_finish : GoodIn wsX8_sets wsX3_finish := goodIn_r _ [163, 24, 21, 125, 23, 25, 149, 150, 151, 19, 152, 136, 137, 138, 139, 130, 140, 123, 141, 142, 143, 144, 131, 197, 198, 199, 200, 201, 202, 203, 204, 205, 206, 207, 208] (by decide +kernel) (by decide +kernel)
set_option maxRecDepth 20000 in
theorem gX8_sets_X3_finish : GoodIn wsX8_sets (wsV RX8 69 RX3 yX3_finish wsX3_finish) := goodIn_app (goodIn_of _ (by decide +kernel)) ggX8_sets_X3_finish
set_option maxRecDepth 20000 in
theorem ggX8_sets_X5_become : GoodIn wsX8_sets wsX5_become := goodIn_r _ [168, 169, 170, 171, 172, 173, 174, 175, 176, 177, 204, 205, 206, 207, 208] (by decide +kernel) (by decide +kernel)
set_option maxRecDepth 20000 in
theorem gX8_sets_X5_become : GoodIn wsX8_sets (wsV RX8 76 RX5 yX5_become wsX5_become) := goodIn_app (goodIn_of _ (by decide +kernel)) ggX8_sets_X5_become
set_option maxRecDepth 20000 in
theorem ggX8_sets_X4_clear : GoodIn wsX8_sets wsX4_clear := goodIn_r _ [182, 183, 209, 210, 211, 212] (by decide +kernel) (by decide +kernel)
set_option maxRecDepth 20000 in
theorem gX8_sets_X4_clear : GoodIn wsX8_sets (wsV RX8 80 RX4 yX4_clear wsX4_clear) := goodIn_app (goodIn_of _ (by decide +kernel)) ggX8_sets_X4_clear
theorem dX8_sets_0 : decode cX8_sets 0 = .ok (.aload_n 0, 1) := by decide +kernel
theorem dX8_sets_1 : decode cX8_sets 1 = .ok (.invokevirtual 65, 3) := by decide +kernel
theorem dX8_sets_4 : decode cX8_sets 4 = .ok (.aload_n 0, 1) := by decide +kernel
theorem dX8_sets_5 : decode cX8_sets 5 = .ok (.getfield 61, 3) := by decide +kernel
theorem dX8_sets_8 : decode cX8_sets 8 = .ok (.if_icmp .lt 13, 3) := by decide +kernel
theorem dX8_sets_11 : decode cX8_sets 11 = .ok (.aload_n 0, 1) := by decide +kernel
theorem dX8_sets_12 : decode cX8_sets 12 = .ok (.getfield 16, 3) := by decide +kernel
theorem dX8_sets_15 : decode cX8_sets 15 = .ok (.invokevirtual 69, 3) := by decide +kernel
theorem dX8_sets_18 : decode cX8_sets 18 = .ok (.ifCond .ne 6, 3) := by decide +kernel
theorem dX8_sets_21 : decode cX8_sets 21 = .ok (.bipush (-103), 2) := by decide +kernel
theorem dX8_sets_23 : decode cX8_sets 23 = .ok (.ireturn, 1) := by decide +kernel
theorem dX8_sets_24 : decode cX8_sets 24 = .ok (.aload_n 0, 1) := by decide +kernel
theorem dX8_sets_25 : decode cX8_sets 25 = .ok (.getfield 23, 3) := by decide +kernel
theorem dX8_sets_28 : decode cX8_sets 28 = .ok (.aload_n 0, 1) := by decide +kernel
theorem dX8_sets_29 : decode cX8_sets 29 = .ok (.getfield 16, 3) := by decide +kernel
theorem dX8_sets_32 : decode cX8_sets 32 = .ok (.getfield 73, 3) := by decide +kernel
theorem dX8_sets_35 : decode cX8_sets 35 = .ok (.invokevirtual 76, 3) := by decide +kernel
theorem dX8_sets_38 : decode cX8_sets 38 = .ok (.aload_n 0, 1) := by decide +kernel
theorem dX8_sets_39 : decode cX8_sets 39 = .ok (.getfield 30, 3) := by decide +kernel
theorem dX8_sets_42 : decode cX8_sets 42 = .ok (.invokevirtual 80, 3) := by decide +kernel
theorem dX8_sets_45 : decode cX8_sets 45 = .ok (.aload_n 0, 1) := by decide +kernel
theorem dX8_sets_46 : decode cX8_sets 46 = .ok (.iconst 0, 1) := by decide +kernel
theorem dX8_sets_47 : decode cX8_sets 47 = .ok (.putfield 83, 3) := by decide +kernel
theorem dX8_sets_50 : decode cX8_sets 50 = .ok (.aload_n 0, 1) := by decide +kernel
theorem dX8_sets_51 : decode cX8_sets 51 = .ok (.iconst 0, 1) := by decide +kernel
theorem dX8_sets_52 : decode cX8_sets 52 = .ok (.putfield 87, 3) := by decide +kernel
theorem dX8_sets_55 : decode cX8_sets 55 = .ok (.aload_n 0, 1) := by decide +kernel
theorem dX8_sets_56 : decode cX8_sets 56 = .ok (.iconst 0, 1) := by decide +kernel
theorem dX8_sets_57 : decode cX8_sets 57 = .ok (.putfield 61, 3) := by decide +kernel
theorem dX8_sets_60 : decode cX8_sets 60 = .ok (.aload_n 0, 1) := by decide +kernel
theorem dX8_sets_61 : decode cX8_sets 61 = .ok (.dup, 1) := by decide +kernel
theorem dX8_sets_62 : decode cX8_sets 62 = .ok (.getfield 90, 3) := by decide +kernel
theorem dX8_sets_65 : decode cX8_sets 65 = .ok (.iconst 1, 1) := by decide +kernel
theorem dX8_sets_66 : decode cX8_sets 66 = .ok (.iadd, 1) := by decide +kernel
theorem dX8_sets_67 : decode cX8_sets 67 = .ok (.putfield 90, 3) := by decide +kernel
theorem dX8_sets_70 : decode cX8_sets 70 = .ok (.aload_n 0, 1) := by decide +kernel
theorem dX8_sets_71 : decode cX8_sets 71 = .ok (.getfield 23, 3) := by decide +kernel
theorem dX8_sets_74 : decode cX8_sets 74 = .ok (.getfield 93, 3) := by decide +kernel
theorem dX8_sets_77 : decode cX8_sets 77 = .ok (.ireturn, 1) := by decide +kernel
set_option maxRecDepth 20000 in
theorem ggX8_set_X8_isSet : GoodIn wsX8_set wsX8_isSet := goodIn_r _ [5, 6, 7, 171, 172, 173, 174, 175, 176, 177, 178, 179, 180, 181, 182, 183, 184, 185, 186, 187, 188] (by decide +kernel) (by decide +kernel)
set_option maxRecDepth 20000 in
theorem gX8_set_X8_isSet : GoodIn wsX8_set (wsV RX8 96 RX8 yX8_isSet wsX8_isSet) := goodIn_app (goodIn_of _ (by decide +kernel)) ggX8_set_X8_isSet
set_option maxRecDepth 20000 in
theorem ggX8_set_X8_freshenStudy : GoodIn wsX8_set wsX8_freshenStudy := goodIn_r _ [11, 12, 13, 6, 14, 15, 16, 17, 18, 19, 20, 21, 22, 23, 24, 25, 26, 27, 28, 29, 30, 31, 32, 33, 34, 35, 36, 37, 38, 39, 40, 41, 42, 43, 44, 4, 45, 46, 47, 48, 49, 50, 51, 52, 53, 54, 55, 56, 57, 58, 59, 60, 61, 62, 63, 64, 65, 66, 67, 68, 69, 70, 71, 72, 73, 74, 75, 76, 77, 78, 79, 80, 81, 82, 83, 84, 85, 86, 87, 88, 89, 90, 91, 92, 93, 94, 95, 96, 97, 98, 99, 100, 101, 102, 103, 104, 105, 106, 107, 108, 109, 110, 111, 112, 113, 114, 115, 116, 117, 118, 119, 120, 121, 122, 123, 171, 172, 173, 174, 175, 176, 177, 178, 179, 180, 181, 182, 183, 189, 190, 191, 192, 193, 194, 184, 185, 186, 187, 188, 195, 196, 197, 198, 199, 200, 201, 202, 203] (by decide +kernel) (by decide +kernel)
set_option maxRecDepth 20000 in
theorem gX8_set_X8_freshenStudy : GoodIn wsX8_set (wsV RX8 100 RX8 yX8_freshenStudy wsX8_freshenStudy) := goodIn_app (goodIn_of _ (by decide +kernel)) ggX8_set_X8_freshenStudy
set_option maxRecDepth 20000 in
theorem ggX8_set_X8_tellOfSet : GoodIn wsX8_set wsX8_tellOfSet := goodIn_r _ [127, 6, 128, 129, 13, 130, 131, 132, 133, 134, 17, 135, 122, 136, 137, 138, 139, 20, 36, 140, 141, 142, 143, 144, 145, 146, 147, 148, 149, 150, 151, 152, 153, 154, 155, 156, 157, 158, 159, 160, 161, 162, 163, 164, 165, 166, 167, 168, 169, 170, 171, 172, 173, 174, 175, 176, 177, 178, 179, 180, 181, 182, 183, 184, 185, 186, 187, 188, 189, 190, 191, 192, 193, 194, 204, 205, 206, 207] (by decide +kernel) (by decide +kernel)
set_option maxRecDepth 20000 in
theorem gX8_set_X8_tellOfSet : GoodIn wsX8_set (wsV RX8 103 RX8 yX8_tellOfSet wsX8_tellOfSet) := goodIn_app (goodIn_of _ (by decide +kernel)) ggX8_set_X8_tellOfSet
theorem dX8_set_0 : decode cX8_set 0 = .ok (.aload_n 0, 1) := by decide +kernel
theorem dX8_set_1 : decode cX8_set 1 = .ok (.iload_n 1, 1) := by decide +kernel
theorem dX8_set_2 : decode cX8_set 2 = .ok (.invokevirtual 96, 3) := by decide +kernel
theorem dX8_set_5 : decode cX8_set 5 = .ok (.ifCond .ne 6, 3) := by decide +kernel
theorem dX8_set_8 : decode cX8_set 8 = .ok (.bipush (-101), 2) := by decide +kernel
theorem dX8_set_10 : decode cX8_set 10 = .ok (.ireturn, 1) := by decide +kernel
theorem dX8_set_11 : decode cX8_set 11 = .ok (.iload_n 2, 1) := by decide +kernel
theorem dX8_set_12 : decode cX8_set 12 = .ok (.ifCond .lt 9, 3) := by decide +kernel
theorem dX8_set_15 : decode cX8_set 15 = .ok (.iload_n 2, 1) := by decide +kernel
theorem dX8_set_16 : decode cX8_set 16 = .ok (.bipush 7, 2) := by decide +kernel
theorem dX8_set_18 : decode cX8_set 18 = .ok (.if_icmp .lt 6, 3) := by decide +kernel
theorem dX8_set_21 : decode cX8_set 21 = .ok (.bipush (-102), 2) := by decide +kernel
theorem dX8_set_23 : decode cX8_set 23 = .ok (.ireturn, 1) := by decide +kernel
theorem dX8_set_24 : decode cX8_set 24 = .ok (.aload_n 0, 1) := by decide +kernel
theorem dX8_set_25 : decode cX8_set 25 = .ok (.invokevirtual 100, 3) := by decide +kernel
theorem dX8_set_28 : decode cX8_set 28 = .ok (.aload_n 0, 1) := by decide +kernel
theorem dX8_set_29 : decode cX8_set 29 = .ok (.iload_n 1, 1) := by decide +kernel
theorem dX8_set_30 : decode cX8_set 30 = .ok (.iload_n 2, 1) := by decide +kernel
theorem dX8_set_31 : decode cX8_set 31 = .ok (.invokevirtual 103, 3) := by decide +kernel
theorem dX8_set_34 : decode cX8_set 34 = .ok (.ireturn, 1) := by decide +kernel
set_option maxRecDepth 20000 in
theorem ggX8_as_X8_isSet : GoodIn wsX8_as wsX8_isSet := goodIn_r _ [7, 1, 8, 15, 16, 17, 18, 19, 20, 21, 22, 23, 24, 25, 26, 27, 28, 29, 30, 31, 32] (by decide +kernel) (by decide +kernel)
set_option maxRecDepth 20000 in
theorem gX8_as_X8_isSet : GoodIn wsX8_as (wsV RX8 96 RX8 yX8_isSet wsX8_isSet) := goodIn_app (goodIn_of _ (by decide +kernel)) ggX8_as_X8_isSet
set_option maxRecDepth 20000 in
theorem ggX8_as_X8_isKind : GoodIn wsX8_as wsX8_isKind := goodIn_r _ [11] (by decide +kernel) (by decide +kernel)
set_option maxRecDepth 20000 in
theorem gX8_as_X8_isKind : GoodIn wsX8_as (va_wsS RX8 107 yX8_isKind wsX8_isKind) := goodIn_app (goodIn_of _ (by decide +kernel)) ggX8_as_X8_isKind
set_option maxRecDepth 20000 in
theorem ggX8_as_X8_isOfKind : GoodIn wsX8_as wsX8_isOfKind := goodIn_r _ [14] (by decide +kernel) (by decide +kernel)
set_option maxRecDepth 20000 in
theorem gX8_as_X8_isOfKind : GoodIn wsX8_as (va_wsS RX8 113 yX8_isOfKind wsX8_isOfKind) := goodIn_app (goodIn_of _ (by decide +kernel)) ggX8_as_X8_isOfKind
theorem dX8_as_0 : decode cX8_as 0 = .ok (.aload_n 0, 1) := by decide +kernel
theorem dX8_as_1 : decode cX8_as 1 = .ok (.iload_n 1, 1) := by decide +kernel
theorem dX8_as_2 : decode cX8_as 2 = .ok (.invokevirtual 96, 3) := by decide +kernel
theorem dX8_as_5 : decode cX8_as 5 = .ok (.ifCond .ne 6, 3) := by decide +kernel
theorem dX8_as_8 : decode cX8_as 8 = .ok (.bipush (-101), 2) := by decide +kernel
theorem dX8_as_10 : decode cX8_as 10 = .ok (.ireturn, 1) := by decide +kernel
theorem dX8_as_11 : decode cX8_as 11 = .ok (.iload_n 2, 1) := by decide +kernel
theorem dX8_as_12 : decode cX8_as 12 = .ok (.invokestatic 107, 3) := by decide +kernel
theorem dX8_as_15 : decode cX8_as 15 = .ok (.ifCond .ne 6, 3) := by decide +kernel
theorem dX8_as_18 : decode cX8_as 18 = .ok (.bipush (-102), 2) := by decide +kernel
theorem dX8_as_20 : decode cX8_as 20 = .ok (.ireturn, 1) := by decide +kernel
theorem dX8_as_21 : decode cX8_as 21 = .ok (.aload_n 0, 1) := by decide +kernel
theorem dX8_as_22 : decode cX8_as 22 = .ok (.getfield 23, 3) := by decide +kernel
theorem dX8_as_25 : decode cX8_as 25 = .ok (.getfield 110, 3) := by decide +kernel
theorem dX8_as_28 : decode cX8_as 28 = .ok (.iload_n 1, 1) := by decide +kernel
theorem dX8_as_29 : decode cX8_as 29 = .ok (.iaload, 1) := by decide +kernel
theorem dX8_as_30 : decode cX8_as 30 = .ok (.iload_n 2, 1) := by decide +kernel
theorem dX8_as_31 : decode cX8_as 31 = .ok (.invokestatic 113, 3) := by decide +kernel
theorem dX8_as_34 : decode cX8_as 34 = .ok (.ifCond .eq 7, 3) := by decide +kernel
theorem dX8_as_37 : decode cX8_as 37 = .ok (.iload_n 1, 1) := by decide +kernel
theorem dX8_as_38 : decode cX8_as 38 = .ok (.goto 4, 3) := by decide +kernel
theorem dX8_as_41 : decode cX8_as 41 = .ok (.iconst (-1), 1) := by decide +kernel
theorem dX8_as_42 : decode cX8_as 42 = .ok (.ireturn, 1) := by decide +kernel
set_option maxRecDepth 20000 in
theorem ggX8_sound_X8_isSet : GoodIn wsX8_sound wsX8_isSet := goodIn_r _ [5, 6, 7, 145, 146, 147, 148, 149, 150, 151, 152, 153, 154, 155, 156, 157, 158, 159, 160, 161, 162] (by decide +kernel) (by decide +kernel)
end
section
abbrev vwCl : List vw_C := [(RX0, TX0, 5), (RX1, TX1, 4), (RX2, TX2, 6), (RX3, TX3, 7), (RX4, TX4, 4), (RX5, TX5, 5), (RX6, TX6, 6), (RX7, TX7, 3), (RX8, TX8, 13), (RX9, TX9, 41)]
/-! my own words: one picture of the tables for all contracts -/
abbrev GG : Type := va_G × ClassId × ClassId × (Nat → Nat)
abbrev tyl (g : GG) : List (ClassId × FieldType) := [(g.2.1, .int), (g.2.2.1, .boolean)]
abbrev ai (g : GG) (n : Nat) (f : Nat → Int32) : va_E := .inl (g.2.1, n, .inl f)
abbrev az (g : GG) (n : Nat) (f : Nat → Int32) : va_E := .inl (g.2.2.1, n, .inl f)
def nw_list : List Cond := [.methodLinkNest RX8 15 yX3_init RX8, .methodLinkNest RX3 11 yX5_init RX8, .methodLinkNest RX8 22 yX5_init RX8, .methodLinkNest RX8 29 yX4_init RX8, .methodLinkNest RX8 36 yX6_init RX8, .methodLinkNest RX6 23 yX2_init RX8, .methodLinkNest RX6 30 yX7_init RX8, .methodLinkNest RX8 49 yX0_init RX8, .methodLinkNest RX8 56 yX1_init RX8, .methodLinkNest RX1 11 yX7_init RX8, .methodLinkNest RX3 84 yX8_wordAt RX8, .fieldLinkNest RX6 87 "SoundLaws" "REBUILDS" "[I" RX8, .methodLinkNest RX6 97 yX8_wordAt RX8, .methodLinkNest RX7 22 yX8_nodesOf RX8, .fieldLinkNest RX7 44 "SoundLaws" "FIRST_PAIR" "[I" RX8, .fieldLinkNest RX7 29 "SoundLaws" "PAIRS" "[I" RX8, .fieldLinkNest RX7 47 "SoundLaws" "COSTS" "[I" RX8, .methodLinkNest RX7 50 yX8_costOf RX8, .methodLinkNest RX6 67 yX8_nodesAt RX8, .fieldLinkNest RX6 113 "SoundLaws" "WEIGHTS" "[I" RX8, .methodLinkNest RX6 71 yX8_nodesOf RX8, .methodLinkNest RX6 120 yX8_aheadAt RX8, .methodLinkNest RX6 123 yX8_lawAt RX8, .fieldLinkNest RX4 52 "SoundLaws" "WEIGHTS" "[I" RX8, .fieldLinkNest RX4 55 "SoundLaws" "REBUILDS" "[I" RX8, .methodLinkNest RX0 32 yX8_costOf RX8, .methodLinkNest RX5 34 yX8_wordAt RX8]
theorem nw_warm {s U : State} (hW : s.WarmedH U.vm) : ∀ w ∈ nw_list, va_Nw w s → va_Nw w U := List.forall_mem_cons.mpr ⟨va_Nw.warmM hW, List.forall_mem_cons.mpr ⟨va_Nw.warmM hW, List.forall_mem_cons.mpr ⟨va_Nw.warmM hW, List.forall_mem_cons.mpr ⟨va_Nw.warmM hW, List.forall_mem_cons.mpr ⟨va_Nw.warmM hW, List.forall_mem_cons.mpr ⟨va_Nw.warmM hW, List.forall_mem_cons.mpr ⟨va_Nw.warmM hW, List.forall_mem_cons.mpr ⟨va_Nw.warmM hW, List.forall_mem_cons.mpr ⟨va_Nw.warmM hW, List.forall_mem_cons.mpr ⟨va_Nw.warmM hW, List.forall_mem_cons.mpr ⟨va_Nw.warmM hW, List.forall_mem_cons.mpr ⟨va_Nw.warmF hW, List.forall_mem_cons.mpr ⟨va_Nw.warmM hW, List.forall_mem_cons.mpr ⟨va_Nw.warmM hW, List.forall_mem_cons.mpr ⟨va_Nw.warmF hW, List.forall_mem_cons.mpr ⟨va_Nw.warmF hW, List.forall_mem_cons.mpr ⟨va_Nw.warmF hW, List.forall_mem_cons.mpr ⟨va_Nw.warmM hW, List.forall_mem_cons.mpr ⟨va_Nw.warmM hW, List.forall_mem_cons.mpr ⟨va_Nw.warmF hW, List.forall_mem_cons.mpr ⟨va_Nw.warmM hW, List.forall_mem_cons.mpr ⟨va_Nw.warmM hW, List.forall_mem_cons.mpr ⟨va_Nw.warmM hW, List.forall_mem_cons.mpr ⟨va_Nw.warmF hW, List.forall_mem_cons.mpr ⟨va_Nw.warmF hW, List.forall_mem_cons.mpr ⟨va_Nw.warmM hW, List.forall_mem_cons.mpr ⟨va_Nw.warmM hW, fun _ h => absurd h List.not_mem_nil⟩⟩⟩⟩⟩⟩⟩⟩⟩⟩⟩⟩⟩⟩⟩⟩⟩⟩⟩⟩⟩⟩⟩⟩⟩⟩⟩
theorem nw_tabs : ∀ w ∈ nw_list, w.onTables = true := List.forall_mem_cons.mpr ⟨rfl, List.forall_mem_cons.mpr ⟨rfl, List.forall_mem_cons.mpr ⟨rfl, List.forall_mem_cons.mpr ⟨rfl, List.forall_mem_cons.mpr ⟨rfl, List.forall_mem_cons.mpr ⟨rfl, List.forall_mem_cons.mpr ⟨rfl, List.forall_mem_cons.mpr ⟨rfl, List.forall_mem_cons.mpr ⟨rfl, List.forall_mem_cons.mpr ⟨rfl, List.forall_mem_cons.mpr ⟨rfl, List.forall_mem_cons.mpr ⟨rfl, List.forall_mem_cons.mpr ⟨rfl, List.forall_mem_cons.mpr ⟨rfl, List.forall_mem_cons.mpr ⟨rfl, List.forall_mem_cons.mpr ⟨rfl, List.forall_mem_cons.mpr ⟨rfl, List.forall_mem_cons.mpr ⟨rfl, List.forall_mem_cons.mpr ⟨rfl, List.forall_mem_cons.mpr ⟨rfl, List.forall_mem_cons.mpr ⟨rfl, List.forall_mem_cons.mpr ⟨rfl, List.forall_mem_cons.mpr ⟨rfl, List.forall_mem_cons.mpr ⟨rfl, List.forall_mem_cons.mpr ⟨rfl, List.forall_mem_cons.mpr ⟨rfl, List.forall_mem_cons.mpr ⟨rfl, fun _ h => absurd h List.not_mem_nil⟩⟩⟩⟩⟩⟩⟩⟩⟩⟩⟩⟩⟩⟩⟩⟩⟩⟩⟩⟩⟩⟩⟩⟩⟩⟩⟩
def ek (g : GG) (U : State) : Prop := va_K g.1 vwCl (tyl g) U ∧ ∀ w ∈ nw_list, va_Nw w U
theorem ek.warm {g : GG} {s U : State} (hW : s.WarmedH U.vm) (h : ek g s) : ek g U := ⟨va_K.moved hW.alike h.1, fun w hw => nw_warm hW w hw (h.2 w hw)⟩
theorem ek.same {g : GG} {u U : State} (hv : u.vm = U.vm) (h : ek g u) : ek g U := ⟨va_K.moved (by rw [hv]; exact Vm.Alike.refl _) h.1, fun w hw => va_Nw.same (nw_tabs w hw) hv (h.2 w hw)⟩
theorem ek.nw {g : GG} {s : State} (h : ek g s) {w : Cond} (i : Nat) (hi : nw_list[i]? = some w) : va_Nw w s := h.2 w (List.mem_of_getElem? hi)
def tb_COSTS : List Int32 := [0, 3, 3, 3, 3, 3, 3, 3, 3, 3, 0, 1, 1, 2, 2, 2, 2, 2, 3, 1, 0, 1, 2, 2, 2, 2, 2, 3, 1, 1, 0, 2, 2, 2, 2, 2, 3, 2, 2, 2, 0, 1, 1, 1, 1, 3, 2, 2, 2, 1, 0, 1, 1, 1, 3, 2, 2, 2, 1, 1, 0, 1, 1, 3, 2, 2, 2, 1, 1, 1, 0, 1, 3, 2, 2, 2, 1, 1, 1, 1, 0]
def tf_COSTS (k : Nat) : Value := .int (tb_COSTS.getD k 0)
def tb_PAIRS : List Int32 := [0, 1, 0, 1, 3, 2, 0, 1, 2, 3, 4, 5]
def tf_PAIRS (k : Nat) : Value := .int (tb_PAIRS.getD k 0)
def tb_FIRST_PAIR : List Int32 := [0, 0, 0, 2, 6]
def tf_FIRST_PAIR (k : Nat) : Value := .int (tb_FIRST_PAIR.getD k 0)
def tb_WEIGHTS : List Int32 := [1, 0, 0, 0, 2]
def tf_WEIGHTS (k : Nat) : Value := .int (tb_WEIGHTS.getD k 0)
def tb_REBUILDS : List Int32 := [1, 1, 0, 0, 1]
def tf_REBUILDS (k : Nat) : Value := .int (tb_REBUILDS.getD k 0)
def es (g : GG) (A : Nat → Prop) (U : State) (H : Heap) : Prop := va_Z "SoundLaws" "COSTS" "[I" (.ref (g.2.2.2 0)) A U H ∧ va_T .int (g.2.2.2 0) 81 tf_COSTS A U H ∧ va_Z "SoundLaws" "PAIRS" "[I" (.ref (g.2.2.2 1)) A U H ∧ va_T .int (g.2.2.2 1) 12 tf_PAIRS A U H ∧ va_Z "SoundLaws" "FIRST_PAIR" "[I" (.ref (g.2.2.2 2)) A U H ∧ va_T .int (g.2.2.2 2) 5 tf_FIRST_PAIR A U H ∧ va_Z "SoundLaws" "WEIGHTS" "[I" (.ref (g.2.2.2 3)) A U H ∧ va_T .int (g.2.2.2 3) 5 tf_WEIGHTS A U H ∧ va_Z "SoundLaws" "REBUILDS" "[I" (.ref (g.2.2.2 4)) A U H ∧ va_T .int (g.2.2.2 4) 5 tf_REBUILDS A U H
theorem es.moved {g : GG} {A : Nat → Prop} {u U : State} {H : Heap} (hv : u.vm.Alike U.vm) (h : es g A u H) : es g A U H := ⟨va_Z.moved hv h.1, va_T.moved hv h.2.1, va_Z.moved hv h.2.2.1, va_T.moved hv h.2.2.2.1, va_Z.moved hv h.2.2.2.2.1, va_T.moved hv h.2.2.2.2.2.1, va_Z.moved hv h.2.2.2.2.2.2.1, va_T.moved hv h.2.2.2.2.2.2.2.1, va_Z.moved hv h.2.2.2.2.2.2.2.2.1, va_T.moved hv h.2.2.2.2.2.2.2.2.2⟩
theorem es.kept {g : GG} {A : Nat → Prop} {U : State} {H H1 : Heap} (h : es g A U H) (hq : ∀ a : Nat, a < H.size → ¬ A a → H1[a]? = H[a]?) : es g A U H1 := ⟨h.1.kept hq, h.2.1.kept hq, h.2.2.1.kept hq, h.2.2.2.1.kept hq, h.2.2.2.2.1.kept hq, h.2.2.2.2.2.1.kept hq, h.2.2.2.2.2.2.1.kept hq, h.2.2.2.2.2.2.2.1.kept hq, h.2.2.2.2.2.2.2.2.1.kept hq, h.2.2.2.2.2.2.2.2.2.kept hq⟩
theorem es.narrow {g : GG} {A B : Nat → Prop} {U : State} {H : Heap} (h : es g A U H) (hAB : ∀ q, B q → A q) : es g B U H := ⟨h.1.narrow hAB, h.2.1.narrow hAB, h.2.2.1.narrow hAB, h.2.2.2.1.narrow hAB, h.2.2.2.2.1.narrow hAB, h.2.2.2.2.2.1.narrow hAB, h.2.2.2.2.2.2.1.narrow hAB, h.2.2.2.2.2.2.2.1.narrow hAB, h.2.2.2.2.2.2.2.2.1.narrow hAB, h.2.2.2.2.2.2.2.2.2.narrow hAB⟩
theorem es.zCOSTS {g : GG} {A : Nat → Prop} {U : State} {H : Heap} (h : es g A U H) : va_Z "SoundLaws" "COSTS" "[I" (.ref (g.2.2.2 0)) A U H := h.1
theorem es.tCOSTS {g : GG} {A : Nat → Prop} {U : State} {H : Heap} (h : es g A U H) : va_T .int (g.2.2.2 0) 81 tf_COSTS A U H := h.2.1
theorem es.zPAIRS {g : GG} {A : Nat → Prop} {U : State} {H : Heap} (h : es g A U H) : va_Z "SoundLaws" "PAIRS" "[I" (.ref (g.2.2.2 1)) A U H := h.2.2.1
theorem es.tPAIRS {g : GG} {A : Nat → Prop} {U : State} {H : Heap} (h : es g A U H) : va_T .int (g.2.2.2 1) 12 tf_PAIRS A U H := h.2.2.2.1
theorem es.zFIRST_PAIR {g : GG} {A : Nat → Prop} {U : State} {H : Heap} (h : es g A U H) : va_Z "SoundLaws" "FIRST_PAIR" "[I" (.ref (g.2.2.2 2)) A U H := h.2.2.2.2.1
theorem es.tFIRST_PAIR {g : GG} {A : Nat → Prop} {U : State} {H : Heap} (h : es g A U H) : va_T .int (g.2.2.2 2) 5 tf_FIRST_PAIR A U H := h.2.2.2.2.2.1
theorem es.zWEIGHTS {g : GG} {A : Nat → Prop} {U : State} {H : Heap} (h : es g A U H) : va_Z "SoundLaws" "WEIGHTS" "[I" (.ref (g.2.2.2 3)) A U H := h.2.2.2.2.2.2.1
theorem es.tWEIGHTS {g : GG} {A : Nat → Prop} {U : State} {H : Heap} (h : es g A U H) : va_T .int (g.2.2.2 3) 5 tf_WEIGHTS A U H := h.2.2.2.2.2.2.2.1
theorem es.zREBUILDS {g : GG} {A : Nat → Prop} {U : State} {H : Heap} (h : es g A U H) : va_Z "SoundLaws" "REBUILDS" "[I" (.ref (g.2.2.2 4)) A U H := h.2.2.2.2.2.2.2.2.1
theorem es.tREBUILDS {g : GG} {A : Nat → Prop} {U : State} {H : Heap} (h : es g A U H) : va_T .int (g.2.2.2 4) 5 tf_REBUILDS A U H := h.2.2.2.2.2.2.2.2.2
def pcE (g : GG) (wc : va_W) (sz : Nat) (U : State) : Prop := U.heap.size = sz ∧ va_P g.1 vwCl wc U.heap ∧ ek g U ∧ va_D (fun _ => True) wc ∧ es g (va_A wc sz) U U.heap
abbrev bk (g : GG) (A : Nat → Prop) : va_W → State → Prop := fun w t => va_P g.1 vwCl w t.heap ∧ va_D A w
theorem pcE_blind (g : GG) (wc : va_W) (sz : Nat) (av : List Value) : FrameBlind (va_Pc av (pcE g wc sz)) := fun a U f mk q => ⟨q.1, q.2.1, q.2.2.1, ek.same (u := U) (U := U.calling f mk a) rfl q.2.2.2.1, q.2.2.2.2.1, es.moved (u := U) (U := U.calling f mk a) (Vm.Alike.refl U.vm) q.2.2.2.2.2⟩
abbrev MetI (l : Launch) (y : MethodName) (ws : List Cond) (rm : Room) (g : GG) (av : List Value) (wc : va_W) (sz : Nat) (post : Int32 → va_W → Prop) (mc ms : Nat) : Prop := Met l y ws rm (va_Pc av (pcE g wc sz)) (va_Qi post (bk g (va_A wc sz)) (va_A wc sz)) mc ms (va_A wc sz)
abbrev MetL (l : Launch) (y : MethodName) (ws : List Cond) (rm : Room) (g : GG) (av : List Value) (wc : va_W) (sz : Nat) (post : Int64 → va_W → Prop) (mc ms : Nat) : Prop := Met l y ws rm (va_Pc av (pcE g wc sz)) (va_Ql post (bk g (va_A wc sz)) (va_A wc sz)) mc ms (va_A wc sz)
abbrev MetV (l : Launch) (y : MethodName) (ws : List Cond) (rm : Room) (g : GG) (av : List Value) (wc : va_W) (sz : Nat) (post : va_W → Prop) (mc ms : Nat) : Prop := Met l y ws rm (va_Pc av (pcE g wc sz)) (va_Qv post (bk g (va_A wc sz)) (va_A wc sz)) mc ms (va_A wc sz)
theorem k_of {l : Launch} {y : MethodName} {ws ws' : List Cond} {rm : Room} {g : GG} {av : List Value} {wc : va_W} {Qc : (Nat → Prop) → Array Value → State → Outcome → State → Prop} {mc ms : Nat} {cc : ByteArray} {maxL : Nat} {ret : Option FieldType} (hy : plainName y.cls = true) (hw : ws = Cond.code y cc maxL ret :: ws') (hav : (lg_sl av).length ≤ maxL)
    (body : ∀ (p : Program) (e : Env) (s : State) (m : MethodId) (below : List Frame) (meth : Method) (c : Code), p.tables.exec = Jvm.exec → c.code = cc → meth.sig.returnType = ret → (∀ w ∈ ws, w.before av.toArray s = true) → s.vm.findClass y.cls = some m.cls → meth.locks = false → meth.name = y.name → c.maxLocals = maxL → ∀ A : Nat → Prop, (∀ q : Nat, s.heap.size ≤ q → A q) → ek g s → es g A s s.heap → va_P g.1 vwCl wc s.heap → va_D A wc → va_S A s.heap s.heap [] → ∀ ls : Array Slot, lv_has ls maxL (lv_args 0 av) →
      W p l e rm s m av.toArray below meth c s.heap [] 0 0 (MQ below (Qc A) av.toArray s mc ms A) (F0 m 0 ls [])) (sz : Nat) : Met l y ws rm (va_Pc av (pcE g wc sz)) (Qc (va_A wc sz)) mc ms (va_A wc sz) := by
  refine Met.ofW (cc := cc) (maxL := maxL) (ret := ret) hy hw ?_
  intro p e s m args below meth c s₁ B hml hv
  obtain ⟨rfl, hsz, hP, hE, hD0, hZ⟩ := hv
  subst hsz
  have hl := lv_entry av (n := maxL) hav
  rw [lg_entry_eq]
  exact body p e s m below meth c B.exec B.bytes B.returns (atoms_spec (ws := ws) B.pre) (findClass_of_methodNamed B.named) B.notSynchronized (name_of_methodNamed B.named B.method).1 hml _ (fun q h => Or.inr h) hE hZ hP hD0.self va_S.rf _ hl
section KB
variable {p : Program} {l : Launch} {e : Env} {R : Room} {s : State} {m : MethodId} {args : Array Value} {below : List Frame} {meth : Method} {c : Code} {H : Heap} {locs : List Loc} {cells slots : Nat} {Q : State → Prop} {cc : ByteArray} {pc : Nat} {ls : Array Slot} {rest : List Value} {g : GG} {A : Nat → Prop} {ws : va_W}
theorem va_sub_fm {ws wc : va_W} {is : List Nat} (h : is.map (fun i => ws[i]?) = wc.map some) : is.filterMap (fun i => ws[i]?) = wc := by
  have e : is.filterMap (fun i => ws[i]?) = (is.map (fun i => ws[i]?)).filterMap id := by rw [List.filterMap_map]; rfl
  rw [e, h, List.filterMap_map]
  simp
theorem pcE_call {wc : va_W} (hE : ek g s) (hZ : es g A s s.heap) (hP : va_P g.1 vwCl ws H) (hD : va_D A ws) (hS : va_S A s.heap H locs) (hA : ∀ q : Nat, s.heap.size ≤ q → A q) (isC : List Nat) (hC : isC.map (fun i => ws[i]?) = wc.map some) (hn : va_nd isC = true) (U : State) (hU : U.heap = H) (hW : s.WarmedH U.vm) : pcE g wc H.size U := by
  refine ⟨by rw [hU], by rw [hU]; exact hP.sub isC (va_sub_fm hC), hE.warm hW, (hD.sub isC hn hC).weaken (fun _ _ _ _ => trivial), ?_⟩
  rw [hU]
  exact ((hZ.kept hS.2.1).narrow (va_free hD hS hA isC hC)).moved hW.alike
theorem k_preS {wc : va_W} {av : List Value} (hE : ek g s) (hZ : es g A s s.heap) (hP : va_P g.1 vwCl ws H) (hD : va_D A ws) (hS : va_S A s.heap H locs) (hA : ∀ q : Nat, s.heap.size ≤ q → A q) (isC : List Nat) (hC : isC.map (fun i => ws[i]?) = wc.map some) (hn : va_nd isC = true) : PreS s H (va_Pc av (pcE g wc H.size)) av := ⟨pcE_blind g wc H.size av, fun U hU hW => ⟨rfl, pcE_call hE hZ hP hD hS hA isC hC hn U hU hW⟩⟩
theorem k_preV {wc : va_W} {b : Nat} {As : List Value} {C : String} (hE : ek g s) (hZ : es g A s s.heap) (hP : va_P g.1 vwCl ws H) (hD : va_D A ws) (hS : va_S A s.heap H locs) (hA : ∀ q : Nat, s.heap.size ≤ q → A q) (isC : List Nat) (hC : isC.map (fun i => ws[i]?) = wc.map some) (hn : va_nd isC = true) (hrec : ∃ cell : Cell, H[b]? = some cell ∧ cell.vm.isStatics = false ∧ s.vm.findClass C = some cell.cls) : PreV s H C b (va_Pc (.ref b :: As) (pcE g wc H.size)) As := ⟨pcE_blind g wc H.size _, hrec, fun U hU hW => ⟨rfl, pcE_call hE hZ hP hD hS hA isC hC hn U hU hW⟩⟩
variable {mc ms : Nat} {st0 : List Value} {a : Array Value} {wc wr : va_W}
theorem k_ci {post : Int32 → va_W → Prop} (hP : va_P g.1 vwCl ws H) (hD : va_D A ws) (hS : va_S A s.heap H locs) (hA : ∀ q : Nat, s.heap.size ≤ q → A q) (isC isR : List Nat) (hC : isC.map (fun i => ws[i]?) = wc.map some) (hR : isR.map (fun i => ws[i]?) = wr.map some) (hn : va_nd isR = true) (hdis : ∀ i ∈ isR, i ∉ isC) (hr : va_Run p l e R s m args below meth c H locs cells slots mc ms (F0 m pc ls st0) rest (va_Qi post (bk g (va_A wc H.size)) (va_A wc H.size) a) (va_A wc H.size))
    (kk : ∀ (r : Int32) (w1 : va_W) (H1 : Heap) (locs1 : List Loc), post r w1 → va_P g.1 vwCl (wr ++ w1) H1 → va_D A (wr ++ w1) → va_S A s.heap H1 locs1 → W p l e R s m args below meth c H1 locs1 (cells + mc) (slots + ms) Q (F0 m (pc + 3) ls (.int r :: rest))) : W p l e R s m args below meth c H locs cells slots Q (F0 m pc ls st0) := by
  have hF := va_free hD hS hA isC hC
  refine va_calli hr hS (fun q _ h => hF q h) hF (fun r u t H1 locs1 ht hvm hw hB hz1 hk1 hS1 => ?_)
  obtain ⟨hP1, hD1⟩ := hB
  rw [ht] at hP1
  obtain ⟨hP2, hD2⟩ := va_join hP hD isC isR hC hR hn hdis hk1 hF hP1 hD1
  exact kk r u H1 locs1 hw hP2 hD2 hS1
theorem k_cl {post : Int64 → va_W → Prop} (hP : va_P g.1 vwCl ws H) (hD : va_D A ws) (hS : va_S A s.heap H locs) (hA : ∀ q : Nat, s.heap.size ≤ q → A q) (isC isR : List Nat) (hC : isC.map (fun i => ws[i]?) = wc.map some) (hR : isR.map (fun i => ws[i]?) = wr.map some) (hn : va_nd isR = true) (hdis : ∀ i ∈ isR, i ∉ isC) (hr : va_Run p l e R s m args below meth c H locs cells slots mc ms (F0 m pc ls st0) rest (va_Ql post (bk g (va_A wc H.size)) (va_A wc H.size) a) (va_A wc H.size))
    (kk : ∀ (r : Int64) (w1 : va_W) (H1 : Heap) (locs1 : List Loc), post r w1 → va_P g.1 vwCl (wr ++ w1) H1 → va_D A (wr ++ w1) → va_S A s.heap H1 locs1 → W p l e R s m args below meth c H1 locs1 (cells + mc) (slots + ms) Q (F0 m (pc + 3) ls (.long r :: rest))) : W p l e R s m args below meth c H locs cells slots Q (F0 m pc ls st0) := by
  have hF := va_free hD hS hA isC hC
  refine va_calll hr hS (fun q _ h => hF q h) hF (fun r u t H1 locs1 ht hvm hw hB hz1 hk1 hS1 => ?_)
  obtain ⟨hP1, hD1⟩ := hB
  rw [ht] at hP1
  obtain ⟨hP2, hD2⟩ := va_join hP hD isC isR hC hR hn hdis hk1 hF hP1 hD1
  exact kk r u H1 locs1 hw hP2 hD2 hS1
theorem k_cv {post : va_W → Prop} (hP : va_P g.1 vwCl ws H) (hD : va_D A ws) (hS : va_S A s.heap H locs) (hA : ∀ q : Nat, s.heap.size ≤ q → A q) (isC isR : List Nat) (hC : isC.map (fun i => ws[i]?) = wc.map some) (hR : isR.map (fun i => ws[i]?) = wr.map some) (hn : va_nd isR = true) (hdis : ∀ i ∈ isR, i ∉ isC) (hr : va_Run p l e R s m args below meth c H locs cells slots mc ms (F0 m pc ls st0) rest (va_Qv post (bk g (va_A wc H.size)) (va_A wc H.size) a) (va_A wc H.size))
    (kk : ∀ (w1 : va_W) (H1 : Heap) (locs1 : List Loc), post w1 → va_P g.1 vwCl (wr ++ w1) H1 → va_D A (wr ++ w1) → va_S A s.heap H1 locs1 → W p l e R s m args below meth c H1 locs1 (cells + mc) (slots + ms) Q (F0 m (pc + 3) ls rest)) : W p l e R s m args below meth c H locs cells slots Q (F0 m pc ls st0) := by
  have hF := va_free hD hS hA isC hC
  refine va_callv hr hS (fun q _ h => hF q h) hF (fun u t H1 locs1 ht hvm hw hB hz1 hk1 hS1 => ?_)
  obtain ⟨hP1, hD1⟩ := hB
  rw [ht] at hP1
  obtain ⟨hP2, hD2⟩ := va_join hP hD isC isR hC hR hn hdis hk1 hF hP1 hD1
  exact kk u H1 locs1 hw hP2 hD2 hS1
theorem k_ri {post : Int32 → va_W → Prop} {v : Int32} {w1 : va_W} (hx : p.tables.exec = Jvm.exec) (hb : c.code = cc) (hr : meth.sig.returnType = some .int) (hlocks : meth.locks = false) (hS : va_S A s.heap H locs) (hP : va_P g.1 vwCl w1 H) (hD : va_D A w1) (hp : post v w1) (hdg : decode cc pc = .ok (.ireturn, 1)) : W p l e R s m args below meth c H locs cells slots (MQ below (va_Qi post (bk g A) A) args s cells slots A) (F0 m pc ls [.int v]) :=
  W.iret hx hb hr (fun t ht hW => ⟨⟨v, w1, rfl, hp, by rw [ht]; exact hP, hD⟩, hS.F ht⟩) hS.2.2 hdg hlocks
theorem k_rz {post : Int32 → va_W → Prop} {v : Int32} {w1 : va_W} (hx : p.tables.exec = Jvm.exec) (hb : c.code = cc) (hr : meth.sig.returnType = some .boolean) (hlocks : meth.locks = false) (hS : va_S A s.heap H locs) (hP : va_P g.1 vwCl w1 H) (hD : va_D A w1) (hn : narrow .boolean (.int v) = .int v) (hp : post v w1) (hdg : decode cc pc = .ok (.ireturn, 1)) : W p l e R s m args below meth c H locs cells slots (MQ below (va_Qi post (bk g A) A) args s cells slots A) (F0 m pc ls [.int v]) :=
  W.zret hx hb hr hn (fun t ht hW => ⟨⟨v, w1, rfl, hp, by rw [ht]; exact hP, hD⟩, hS.F ht⟩) hS.2.2 hdg hlocks
theorem k_rl {post : Int64 → va_W → Prop} {v : Int64} {w1 : va_W} (hx : p.tables.exec = Jvm.exec) (hb : c.code = cc) (hr : meth.sig.returnType = some .long) (hlocks : meth.locks = false) (hS : va_S A s.heap H locs) (hP : va_P g.1 vwCl w1 H) (hD : va_D A w1) (hp : post v w1) (hdg : decode cc pc = .ok (.lreturn, 1)) : W p l e R s m args below meth c H locs cells slots (MQ below (va_Ql post (bk g A) A) args s cells slots A) (F0 m pc ls [.long v]) :=
  W.lret hx hb hr (fun t ht hW => ⟨⟨v, w1, rfl, hp, by rw [ht]; exact hP, hD⟩, hS.F ht⟩) hS.2.2 hdg hlocks
theorem k_rv {post : va_W → Prop} {w1 : va_W} (hx : p.tables.exec = Jvm.exec) (hb : c.code = cc) (hr : meth.sig.returnType = none) (hlocks : meth.locks = false) (hS : va_S A s.heap H locs) (hP : va_P g.1 vwCl w1 H) (hD : va_D A w1) (hp : post w1) (hdg : decode cc pc = .ok (.return_, 1)) : W p l e R s m args below meth c H locs cells slots (MQ below (va_Qv post (bk g A) A) args s cells slots A) (F0 m pc ls []) :=
  W.vret hx hb hr (fun t ht hW => ⟨⟨w1, rfl, hp, by rw [ht]; exact hP, hD⟩, hS.F ht⟩) hS.2.2 hdg hlocks
theorem k_newi {n : Int32} (N' : Nat) (hx : p.tables.exec = Jvm.exec) (hb : c.code = cc) (harr : (Cond.arrayClass .int).before args s = true) (hE : ek g s) (hP : va_P g.1 vwCl ws H) (hD : va_D A ws) (hS : va_S A s.heap H locs) (hA : ∀ q : Nat, s.heap.size ≤ q → A q) (hn : ¬ n < 0) (hN : n.toNatClampNeg = N') (hbytes : N' * componentBytes .int ≤ 536870912) (hcells : cells + 1 ≤ R.cells) (hslots : slots + N' ≤ R.slots) (hdg : decode cc pc = .ok (.newarray .int, 2))
    (kk : ∀ (q : Nat) (H1 : Heap), va_P g.1 vwCl (ws ++ [(q, ai g N' (fun _ => 0))]) H1 → va_D A (ws ++ [(q, ai g N' (fun _ => 0))]) → va_S A s.heap H1 locs → W p l e R s m args below meth c H1 locs (cells + 1) (slots + N') Q (F0 m (pc + 2) ls (.ref q :: rest))) : W p l e R s m args below meth c H locs cells slots Q (F0 m pc ls (.int n :: rest)) := by
  refine va_newa (atype := .int) (ty := .int) (a0 := (N', .inl (fun _ => 0))) hx hb harr rfl hE.1 hP hD hS hA (fun _ => rfl) hn hN hbytes hcells hslots hdg (fun q cA H1 hK1 hP1 hD1 hS1 => ?_)
  have h1 : s.vm.findClass ("[" ++ FieldType.int.toString) = some cA := (hK1.2 2 (cA, .int) rfl).2
  have h2 : s.vm.findClass ("[" ++ FieldType.int.toString) = some g.2.1 := (hE.1.2 0 (g.2.1, .int) rfl).2
  have h3 : cA = g.2.1 := Option.some.inj (h1.symm.trans h2)
  subst h3
  exact kk q H1 hP1 hD1 hS1
theorem k_newz {n : Int32} (N' : Nat) (hx : p.tables.exec = Jvm.exec) (hb : c.code = cc) (harr : (Cond.arrayClass .boolean).before args s = true) (hE : ek g s) (hP : va_P g.1 vwCl ws H) (hD : va_D A ws) (hS : va_S A s.heap H locs) (hA : ∀ q : Nat, s.heap.size ≤ q → A q) (hn : ¬ n < 0) (hN : n.toNatClampNeg = N') (hbytes : N' * componentBytes .boolean ≤ 536870912) (hcells : cells + 1 ≤ R.cells) (hslots : slots + N' ≤ R.slots) (hdg : decode cc pc = .ok (.newarray .boolean, 2))
    (kk : ∀ (q : Nat) (H1 : Heap), va_P g.1 vwCl (ws ++ [(q, az g N' (fun _ => 0))]) H1 → va_D A (ws ++ [(q, az g N' (fun _ => 0))]) → va_S A s.heap H1 locs → W p l e R s m args below meth c H1 locs (cells + 1) (slots + N') Q (F0 m (pc + 2) ls (.ref q :: rest))) : W p l e R s m args below meth c H locs cells slots Q (F0 m pc ls (.int n :: rest)) := by
  refine va_newa (atype := .boolean) (ty := .boolean) (a0 := (N', .inl (fun _ => 0))) hx hb harr rfl hE.1 hP hD hS hA (fun _ => rfl) hn hN hbytes hcells hslots hdg (fun q cA H1 hK1 hP1 hD1 hS1 => ?_)
  have h1 : s.vm.findClass ("[" ++ FieldType.boolean.toString) = some cA := (hK1.2 2 (cA, .boolean) rfl).2
  have h2 : s.vm.findClass ("[" ++ FieldType.boolean.toString) = some g.2.2.1 := (hE.1.2 1 (g.2.2.1, .boolean) rfl).2
  have h3 : cA = g.2.2.1 := Option.some.inj (h1.symm.trans h2)
  subst h3
  exact kk q H1 hP1 hD1 hS1
theorem k_ald {a n : Nat} {f : Nat → Int32} {i : Int32} (k : Nat) (hi : i = nI k) (hk : k < n) (hx : p.tables.exec = Jvm.exec) (hb : c.code = cc) (hE : ek g s) (hP : va_P g.1 vwCl ws H) (q0 : Nat) (ha : ws[q0]? = some (a, ai g n f)) (hn : n < 2 ^ 31) (hdg : decode cc pc = .ok (.iaload, 1)) (kk : W p l e R s m args below meth c H locs cells slots Q (F0 m (pc + 1) ls (.int (f k) :: rest))) : W p l e R s m args below meth c H locs cells slots Q (F0 m pc ls (.int i :: .ref a :: rest)) := by
  subst hi
  refine va_iald hx hb hE.1 hP q0 0 ha rfl (vp_in_nI hk hn) hdg ?_
  rw [nI_clamp (Nat.lt_trans hk hn)]
  exact kk
theorem k_tld {t N : Nat} {f : Nat → Value} {i v : Int32} (k : Nat) (hi : i = nI k) (hk : k < N) (hx : p.tables.exec = Jvm.exec) (hb : c.code = cc) (hT : va_T .int t N f A s s.heap) (hS : va_S A s.heap H locs) (hn : N < 2 ^ 31) (hv : f k = .int v) (hdg : decode cc pc = .ok (.iaload, 1)) (kk : W p l e R s m args below meth c H locs cells slots Q (F0 m (pc + 1) ls (.int v :: rest))) : W p l e R s m args below meth c H locs cells slots Q (F0 m pc ls (.int i :: .ref t :: rest)) := by
  subst hi
  exact va_ti hx hb hT hS (vp_in_nI hk hn) (by rw [nI_clamp (Nat.lt_trans hk hn)]; exact hv) hdg kk
theorem k_ast {a n : Nat} {f : Nat → Int32} {i x : Int32} (k : Nat) (hi : i = nI k) (hk : k < n) (hx : p.tables.exec = Jvm.exec) (hb : c.code = cc) (hE : ek g s) (hP : va_P g.1 vwCl ws H) (hD : va_D A ws) (hS : va_S A s.heap H locs) (q0 : Nat) (ha : ws[q0]? = some (a, ai g n f)) (hn : n < 2 ^ 31) (hdg : decode cc pc = .ok (.iastore, 1)) (kk : ∀ (H1 : Heap) (locs1 : List Loc), va_P g.1 vwCl (ws.set q0 (a, ai g n (upd f k x))) H1 → va_D A (ws.set q0 (a, ai g n (upd f k x))) → va_S A s.heap H1 locs1 → W p l e R s m args below meth c H1 locs1 cells slots Q (F0 m (pc + 1) ls rest)) : W p l e R s m args below meth c H locs cells slots Q (F0 m pc ls (.int x :: .int i :: .ref a :: rest)) := by
  subst hi
  refine va_iast hx hb hE.1 hP hD hS q0 0 ha rfl (vp_in_nI hk hn) hdg (fun H1 locs1 h1 h2 h3 => ?_)
  rw [nI_clamp (Nat.lt_trans hk hn)] at h1 h2
  exact kk H1 locs1 h1 h2 h3
end KB
end
section
def po_X5_init (g : GG) (h0 : Nat) : va_W → Prop := fun w => ∃ (q1 : Nat) (q2 : Nat) (q3 : Nat), w = [(h0, .inr (5, [.int 0, .int 0, .ref q1, .ref q2, .ref q3])), (q1, ai g 6 (fun _ => 0)), (q2, ai g 6 (fun _ => 0)), (q3, ai g 96 (fun _ => 0))]
theorem q_X5_init_0 : (Cond.methodLink RX5 3 objectInit) ∈ wsX5_init := by decide +kernel
theorem q_X5_init_1 : (Cond.instanceMethod objectInit) ∈ wsX5_init := by decide +kernel
theorem q_X5_init_2 : (Cond.code objectInit ⟨#[0xb1]⟩ 1 none) ∈ wsX5_init := by decide +kernel
theorem q_X5_init_3 : (Cond.arrayClass .int) ∈ wsX5_init := by decide +kernel
theorem q_X5_init_f5 : ∀ w ∈ u_ws RX5 TX5 5, w ∈ wsX5_init := by decide +kernel
theorem q_X5_init_5 : (Cond.fieldLink RX5 9 "SoundLaws$Stock" "kinds" "[I") ∈ wsX5_init := by decide +kernel
theorem q_X5_init_6 : (Cond.fieldLink RX5 15 "SoundLaws$Stock" "lengths" "[I") ∈ wsX5_init := by decide +kernel
theorem q_X5_init_7 : (Cond.fieldLink RX5 18 "SoundLaws$Stock" "words" "[I") ∈ wsX5_init := by decide +kernel
set_option maxHeartbeats 4000000 in
set_option maxRecDepth 100000 in
theorem c_X5_init (l : Launch) (g : GG) (h0 : Nat)  (sz : Nat) : MetV l yX5_init wsX5_init ({ frames := 1, cells := 3, slots := 108, locals := 12 }) g [.ref h0] [(h0, .inr (5, [.int 0, .int 0, .null, .null, .null]))] sz (po_X5_init g h0) 3 108 := by
  refine k_of (g := g) (wc := [(h0, .inr (5, [.int 0, .int 0, .null, .null, .null]))]) (Qc := fun A => va_Qv (po_X5_init g h0) (bk g A) A) (cc := cX5_init) (maxL := 1) (ret := none) (by decide) rfl (Nat.le_of_ble_eq_true rfl) ?_ sz
  intro p e s m below meth c hx hb hr hts hown hlocks hnm hml A hA hE hZ hP hD hS ls hl
  have hown : s.vm.findClass RX5 = some m.cls := hown
  have hl : lv_has ls 1 [(0, .ref h0)] := hl
  refine lv_aload_n hx hb dX5_init_0 rfl (lv_at hl 0 rfl) ?_
  refine W.objInit hx hb hown (hts (.methodLink RX5 3 objectInit) q_X5_init_0) (hts (.instanceMethod objectInit) q_X5_init_1) (hts (.code objectInit ⟨#[0xb1]⟩ 1 none) q_X5_init_2) rfl (by rw [hml]; exact hl.1) rfl dX5_init_1 (Nat.le_of_ble_eq_true rfl) (Nat.le_of_ble_eq_true rfl) ?_
  refine W.eq (g2 := F0 m 4 ls []) rfl ?_
  refine lv_aload_n hx hb dX5_init_4 rfl (lv_at hl 0 rfl) ?_
  refine lv_bipush (v := 6) hx hb dX5_init_5 (by decide) ?_
  refine k_newi 6 hx hb (hts (.arrayClass .int) q_X5_init_3) hE hP hD hS hA (by decide) (by decide) (by decide) (Nat.le_of_ble_eq_true rfl) (Nat.le_of_ble_eq_true rfl) dX5_init_7 (fun q_1 H hP hD hS => ?_)
  have hP : va_P g.1 vwCl [(h0, .inr (5, [.int 0, .int 0, .null, .null, .null])), (q_1, ai g 6 (fun _ => 0))] H := hP
  have hD : va_D A [(h0, .inr (5, [.int 0, .int 0, .null, .null, .null])), (q_1, ai g 6 (fun _ => 0))] := hD
  refine W.widen (k := 1) (n := 6) (Nat.le_of_ble_eq_true rfl) (Nat.le_of_ble_eq_true rfl) ?_
  refine va_putF (D := g.1) (ci := 5) (v := .ref q_1) (ty := .array .int) (C := RX5) (T := TX5) (N := 5) hx hb hts q_X5_init_f5 tyX5 tyX5_ok nmX5 hown hE.1 hP hD hS 0 rfl rfl 2 (by decide) (hts (.fieldLink RX5 9 "SoundLaws$Stock" "kinds" "[I") q_X5_init_5) (fun _ h9 => h9) rfl hnm rfl (by decide +kernel) rfl rfl (Nat.le_of_ble_eq_true rfl) dX5_init_9 (fun H locs hP hD hS => ?_)
  have hP : va_P g.1 vwCl [(h0, .inr (5, [.int 0, .int 0, .ref q_1, .null, .null])), (q_1, ai g 6 (fun _ => 0))] H := hP
  have hD : va_D A [(h0, .inr (5, [.int 0, .int 0, .ref q_1, .null, .null])), (q_1, ai g 6 (fun _ => 0))] := hD
  refine lv_aload_n hx hb dX5_init_12 rfl (lv_at hl 0 rfl) ?_
  refine lv_bipush (v := 6) hx hb dX5_init_13 (by decide) ?_
  refine k_newi 6 hx hb (hts (.arrayClass .int) q_X5_init_3) hE hP hD hS hA (by decide) (by decide) (by decide) (Nat.le_of_ble_eq_true rfl) (Nat.le_of_ble_eq_true rfl) dX5_init_15 (fun q_2 H hP hD hS => ?_)
  have hP : va_P g.1 vwCl [(h0, .inr (5, [.int 0, .int 0, .ref q_1, .null, .null])), (q_1, ai g 6 (fun _ => 0)), (q_2, ai g 6 (fun _ => 0))] H := hP
  have hD : va_D A [(h0, .inr (5, [.int 0, .int 0, .ref q_1, .null, .null])), (q_1, ai g 6 (fun _ => 0)), (q_2, ai g 6 (fun _ => 0))] := hD
  refine W.widen (k := 2) (n := 12) (Nat.le_of_ble_eq_true rfl) (Nat.le_of_ble_eq_true rfl) ?_
  refine va_putF (D := g.1) (ci := 5) (v := .ref q_2) (ty := .array .int) (C := RX5) (T := TX5) (N := 5) hx hb hts q_X5_init_f5 tyX5 tyX5_ok nmX5 hown hE.1 hP hD hS 0 rfl rfl 3 (by decide) (hts (.fieldLink RX5 15 "SoundLaws$Stock" "lengths" "[I") q_X5_init_6) (fun _ h9 => h9) rfl hnm rfl (by decide +kernel) rfl rfl (Nat.le_of_ble_eq_true rfl) dX5_init_17 (fun H locs hP hD hS => ?_)
  have hP : va_P g.1 vwCl [(h0, .inr (5, [.int 0, .int 0, .ref q_1, .ref q_2, .null])), (q_1, ai g 6 (fun _ => 0)), (q_2, ai g 6 (fun _ => 0))] H := hP
  have hD : va_D A [(h0, .inr (5, [.int 0, .int 0, .ref q_1, .ref q_2, .null])), (q_1, ai g 6 (fun _ => 0)), (q_2, ai g 6 (fun _ => 0))] := hD
  refine lv_aload_n hx hb dX5_init_20 rfl (lv_at hl 0 rfl) ?_
  refine lv_bipush (v := 96) hx hb dX5_init_21 (by decide) ?_
  refine k_newi 96 hx hb (hts (.arrayClass .int) q_X5_init_3) hE hP hD hS hA (by decide) (by decide) (by decide) (Nat.le_of_ble_eq_true rfl) (Nat.le_of_ble_eq_true rfl) dX5_init_23 (fun q_3 H hP hD hS => ?_)
  have hP : va_P g.1 vwCl [(h0, .inr (5, [.int 0, .int 0, .ref q_1, .ref q_2, .null])), (q_1, ai g 6 (fun _ => 0)), (q_2, ai g 6 (fun _ => 0)), (q_3, ai g 96 (fun _ => 0))] H := hP
  have hD : va_D A [(h0, .inr (5, [.int 0, .int 0, .ref q_1, .ref q_2, .null])), (q_1, ai g 6 (fun _ => 0)), (q_2, ai g 6 (fun _ => 0)), (q_3, ai g 96 (fun _ => 0))] := hD
  refine W.widen (k := 3) (n := 108) (Nat.le_of_ble_eq_true rfl) (Nat.le_of_ble_eq_true rfl) ?_
  refine va_putF (D := g.1) (ci := 5) (v := .ref q_3) (ty := .array .int) (C := RX5) (T := TX5) (N := 5) hx hb hts q_X5_init_f5 tyX5 tyX5_ok nmX5 hown hE.1 hP hD hS 0 rfl rfl 4 (by decide) (hts (.fieldLink RX5 18 "SoundLaws$Stock" "words" "[I") q_X5_init_7) (fun _ h9 => h9) rfl hnm rfl (by decide +kernel) rfl rfl (Nat.le_of_ble_eq_true rfl) dX5_init_25 (fun H locs hP hD hS => ?_)
  have hP : va_P g.1 vwCl [(h0, .inr (5, [.int 0, .int 0, .ref q_1, .ref q_2, .ref q_3])), (q_1, ai g 6 (fun _ => 0)), (q_2, ai g 6 (fun _ => 0)), (q_3, ai g 96 (fun _ => 0))] H := hP
  have hD : va_D A [(h0, .inr (5, [.int 0, .int 0, .ref q_1, .ref q_2, .ref q_3])), (q_1, ai g 6 (fun _ => 0)), (q_2, ai g 6 (fun _ => 0)), (q_3, ai g 96 (fun _ => 0))] := hD
  refine W.widen (k := 3) (n := 108) (Nat.le_of_ble_eq_true rfl) (Nat.le_of_ble_eq_true rfl) ?_
  exact k_rv hx hb hr hlocks hS hP hD ⟨q_1, q_2, q_3, rfl⟩ dX5_init_28
def po_X4_init (g : GG) (h0 : Nat) : va_W → Prop := fun w => ∃ (q1 : Nat) (q2 : Nat) (q3 : Nat), w = [(h0, .inr (4, [.int 0, .ref q1, .ref q2, .ref q3])), (q1, ai g 6 (fun _ => 0)), (q2, ai g 6 (fun _ => 0)), (q3, az g 6 (fun _ => 0))]
theorem q_X4_init_0 : (Cond.methodLink RX4 3 objectInit) ∈ wsX4_init := by decide +kernel
theorem q_X4_init_1 : (Cond.instanceMethod objectInit) ∈ wsX4_init := by decide +kernel
theorem q_X4_init_2 : (Cond.code objectInit ⟨#[0xb1]⟩ 1 none) ∈ wsX4_init := by decide +kernel
theorem q_X4_init_3 : (Cond.arrayClass .int) ∈ wsX4_init := by decide +kernel
theorem q_X4_init_f4 : ∀ w ∈ u_ws RX4 TX4 4, w ∈ wsX4_init := by decide +kernel
theorem q_X4_init_5 : (Cond.fieldLink RX4 9 "SoundLaws$Sightings" "sets" "[I") ∈ wsX4_init := by decide +kernel
theorem q_X4_init_6 : (Cond.fieldLink RX4 15 "SoundLaws$Sightings" "questions" "[I") ∈ wsX4_init := by decide +kernel
theorem q_X4_init_7 : (Cond.arrayClass .boolean) ∈ wsX4_init := by decide +kernel
theorem q_X4_init_8 : (Cond.fieldLink RX4 18 "SoundLaws$Sightings" "answers" "[Z") ∈ wsX4_init := by decide +kernel
set_option maxHeartbeats 4000000 in
set_option maxRecDepth 100000 in
theorem c_X4_init (l : Launch) (g : GG) (h0 : Nat)  (sz : Nat) : MetV l yX4_init wsX4_init ({ frames := 1, cells := 3, slots := 18, locals := 12 }) g [.ref h0] [(h0, .inr (4, [.int 0, .null, .null, .null]))] sz (po_X4_init g h0) 3 18 := by
  refine k_of (g := g) (wc := [(h0, .inr (4, [.int 0, .null, .null, .null]))]) (Qc := fun A => va_Qv (po_X4_init g h0) (bk g A) A) (cc := cX4_init) (maxL := 1) (ret := none) (by decide) rfl (Nat.le_of_ble_eq_true rfl) ?_ sz
  intro p e s m below meth c hx hb hr hts hown hlocks hnm hml A hA hE hZ hP hD hS ls hl
  have hown : s.vm.findClass RX4 = some m.cls := hown
  have hl : lv_has ls 1 [(0, .ref h0)] := hl
  refine lv_aload_n hx hb dX4_init_0 rfl (lv_at hl 0 rfl) ?_
  refine W.objInit hx hb hown (hts (.methodLink RX4 3 objectInit) q_X4_init_0) (hts (.instanceMethod objectInit) q_X4_init_1) (hts (.code objectInit ⟨#[0xb1]⟩ 1 none) q_X4_init_2) rfl (by rw [hml]; exact hl.1) rfl dX4_init_1 (Nat.le_of_ble_eq_true rfl) (Nat.le_of_ble_eq_true rfl) ?_
  refine W.eq (g2 := F0 m 4 ls []) rfl ?_
  refine lv_aload_n hx hb dX4_init_4 rfl (lv_at hl 0 rfl) ?_
  refine lv_bipush (v := 6) hx hb dX4_init_5 (by decide) ?_
  refine k_newi 6 hx hb (hts (.arrayClass .int) q_X4_init_3) hE hP hD hS hA (by decide) (by decide) (by decide) (Nat.le_of_ble_eq_true rfl) (Nat.le_of_ble_eq_true rfl) dX4_init_7 (fun q_1 H hP hD hS => ?_)
  have hP : va_P g.1 vwCl [(h0, .inr (4, [.int 0, .null, .null, .null])), (q_1, ai g 6 (fun _ => 0))] H := hP
  have hD : va_D A [(h0, .inr (4, [.int 0, .null, .null, .null])), (q_1, ai g 6 (fun _ => 0))] := hD
  refine W.widen (k := 1) (n := 6) (Nat.le_of_ble_eq_true rfl) (Nat.le_of_ble_eq_true rfl) ?_
  refine va_putF (D := g.1) (ci := 4) (v := .ref q_1) (ty := .array .int) (C := RX4) (T := TX4) (N := 4) hx hb hts q_X4_init_f4 tyX4 tyX4_ok nmX4 hown hE.1 hP hD hS 0 rfl rfl 1 (by decide) (hts (.fieldLink RX4 9 "SoundLaws$Sightings" "sets" "[I") q_X4_init_5) (fun _ h9 => h9) rfl hnm rfl (by decide +kernel) rfl rfl (Nat.le_of_ble_eq_true rfl) dX4_init_9 (fun H locs hP hD hS => ?_)
  have hP : va_P g.1 vwCl [(h0, .inr (4, [.int 0, .ref q_1, .null, .null])), (q_1, ai g 6 (fun _ => 0))] H := hP
  have hD : va_D A [(h0, .inr (4, [.int 0, .ref q_1, .null, .null])), (q_1, ai g 6 (fun _ => 0))] := hD
  refine lv_aload_n hx hb dX4_init_12 rfl (lv_at hl 0 rfl) ?_
  refine lv_bipush (v := 6) hx hb dX4_init_13 (by decide) ?_
  refine k_newi 6 hx hb (hts (.arrayClass .int) q_X4_init_3) hE hP hD hS hA (by decide) (by decide) (by decide) (Nat.le_of_ble_eq_true rfl) (Nat.le_of_ble_eq_true rfl) dX4_init_15 (fun q_2 H hP hD hS => ?_)
  have hP : va_P g.1 vwCl [(h0, .inr (4, [.int 0, .ref q_1, .null, .null])), (q_1, ai g 6 (fun _ => 0)), (q_2, ai g 6 (fun _ => 0))] H := hP
  have hD : va_D A [(h0, .inr (4, [.int 0, .ref q_1, .null, .null])), (q_1, ai g 6 (fun _ => 0)), (q_2, ai g 6 (fun _ => 0))] := hD
  refine W.widen (k := 2) (n := 12) (Nat.le_of_ble_eq_true rfl) (Nat.le_of_ble_eq_true rfl) ?_
  refine va_putF (D := g.1) (ci := 4) (v := .ref q_2) (ty := .array .int) (C := RX4) (T := TX4) (N := 4) hx hb hts q_X4_init_f4 tyX4 tyX4_ok nmX4 hown hE.1 hP hD hS 0 rfl rfl 2 (by decide) (hts (.fieldLink RX4 15 "SoundLaws$Sightings" "questions" "[I") q_X4_init_6) (fun _ h9 => h9) rfl hnm rfl (by decide +kernel) rfl rfl (Nat.le_of_ble_eq_true rfl) dX4_init_17 (fun H locs hP hD hS => ?_)
  have hP : va_P g.1 vwCl [(h0, .inr (4, [.int 0, .ref q_1, .ref q_2, .null])), (q_1, ai g 6 (fun _ => 0)), (q_2, ai g 6 (fun _ => 0))] H := hP
  have hD : va_D A [(h0, .inr (4, [.int 0, .ref q_1, .ref q_2, .null])), (q_1, ai g 6 (fun _ => 0)), (q_2, ai g 6 (fun _ => 0))] := hD
  refine lv_aload_n hx hb dX4_init_20 rfl (lv_at hl 0 rfl) ?_
  refine lv_bipush (v := 6) hx hb dX4_init_21 (by decide) ?_
  refine k_newz 6 hx hb (hts (.arrayClass .boolean) q_X4_init_7) hE hP hD hS hA (by decide) (by decide) (by decide) (Nat.le_of_ble_eq_true rfl) (Nat.le_of_ble_eq_true rfl) dX4_init_23 (fun q_3 H hP hD hS => ?_)
  have hP : va_P g.1 vwCl [(h0, .inr (4, [.int 0, .ref q_1, .ref q_2, .null])), (q_1, ai g 6 (fun _ => 0)), (q_2, ai g 6 (fun _ => 0)), (q_3, az g 6 (fun _ => 0))] H := hP
  have hD : va_D A [(h0, .inr (4, [.int 0, .ref q_1, .ref q_2, .null])), (q_1, ai g 6 (fun _ => 0)), (q_2, ai g 6 (fun _ => 0)), (q_3, az g 6 (fun _ => 0))] := hD
  refine W.widen (k := 3) (n := 18) (Nat.le_of_ble_eq_true rfl) (Nat.le_of_ble_eq_true rfl) ?_
  refine va_putF (D := g.1) (ci := 4) (v := .ref q_3) (ty := .array .boolean) (C := RX4) (T := TX4) (N := 4) hx hb hts q_X4_init_f4 tyX4 tyX4_ok nmX4 hown hE.1 hP hD hS 0 rfl rfl 3 (by decide) (hts (.fieldLink RX4 18 "SoundLaws$Sightings" "answers" "[Z") q_X4_init_8) (fun _ h9 => h9) rfl hnm rfl (by decide +kernel) rfl rfl (Nat.le_of_ble_eq_true rfl) dX4_init_25 (fun H locs hP hD hS => ?_)
  have hP : va_P g.1 vwCl [(h0, .inr (4, [.int 0, .ref q_1, .ref q_2, .ref q_3])), (q_1, ai g 6 (fun _ => 0)), (q_2, ai g 6 (fun _ => 0)), (q_3, az g 6 (fun _ => 0))] H := hP
  have hD : va_D A [(h0, .inr (4, [.int 0, .ref q_1, .ref q_2, .ref q_3])), (q_1, ai g 6 (fun _ => 0)), (q_2, ai g 6 (fun _ => 0)), (q_3, az g 6 (fun _ => 0))] := hD
  refine W.widen (k := 3) (n := 18) (Nat.le_of_ble_eq_true rfl) (Nat.le_of_ble_eq_true rfl) ?_
  exact k_rv hx hb hr hlocks hS hP hD ⟨q_1, q_2, q_3, rfl⟩ dX4_init_28
def po_X7_init (g : GG) (h0 : Nat) : va_W → Prop := fun w => ∃ (q1 : Nat) (q2 : Nat), w = [(h0, .inr (7, [.int 0, .ref q1, .ref q2])), (q1, ai g 7 (fun _ => 0)), (q2, ai g 63 (fun _ => 0))]
theorem q_X7_init_0 : (Cond.methodLink RX7 3 objectInit) ∈ wsX7_init := by decide +kernel
theorem q_X7_init_1 : (Cond.instanceMethod objectInit) ∈ wsX7_init := by decide +kernel
theorem q_X7_init_2 : (Cond.code objectInit ⟨#[0xb1]⟩ 1 none) ∈ wsX7_init := by decide +kernel
theorem q_X7_init_3 : (Cond.arrayClass .int) ∈ wsX7_init := by decide +kernel
theorem q_X7_init_f7 : ∀ w ∈ u_ws RX7 TX7 3, w ∈ wsX7_init := by decide +kernel
theorem q_X7_init_5 : (Cond.fieldLink RX7 9 "SoundLaws$Tree" "sounds" "[I") ∈ wsX7_init := by decide +kernel
theorem q_X7_init_6 : (Cond.fieldLink RX7 15 "SoundLaws$Tree" "least" "[I") ∈ wsX7_init := by decide +kernel
set_option maxHeartbeats 4000000 in
set_option maxRecDepth 100000 in
theorem c_X7_init (l : Launch) (g : GG) (h0 : Nat)  (sz : Nat) : MetV l yX7_init wsX7_init ({ frames := 1, cells := 2, slots := 70, locals := 12 }) g [.ref h0] [(h0, .inr (7, [.int 0, .null, .null]))] sz (po_X7_init g h0) 2 70 := by
  refine k_of (g := g) (wc := [(h0, .inr (7, [.int 0, .null, .null]))]) (Qc := fun A => va_Qv (po_X7_init g h0) (bk g A) A) (cc := cX7_init) (maxL := 1) (ret := none) (by decide) rfl (Nat.le_of_ble_eq_true rfl) ?_ sz
  intro p e s m below meth c hx hb hr hts hown hlocks hnm hml A hA hE hZ hP hD hS ls hl
  have hown : s.vm.findClass RX7 = some m.cls := hown
  have hl : lv_has ls 1 [(0, .ref h0)] := hl
  refine lv_aload_n hx hb dX7_init_0 rfl (lv_at hl 0 rfl) ?_
  refine W.objInit hx hb hown (hts (.methodLink RX7 3 objectInit) q_X7_init_0) (hts (.instanceMethod objectInit) q_X7_init_1) (hts (.code objectInit ⟨#[0xb1]⟩ 1 none) q_X7_init_2) rfl (by rw [hml]; exact hl.1) rfl dX7_init_1 (Nat.le_of_ble_eq_true rfl) (Nat.le_of_ble_eq_true rfl) ?_
  refine W.eq (g2 := F0 m 4 ls []) rfl ?_
  refine lv_aload_n hx hb dX7_init_4 rfl (lv_at hl 0 rfl) ?_
  refine lv_bipush (v := 7) hx hb dX7_init_5 (by decide) ?_
  refine k_newi 7 hx hb (hts (.arrayClass .int) q_X7_init_3) hE hP hD hS hA (by decide) (by decide) (by decide) (Nat.le_of_ble_eq_true rfl) (Nat.le_of_ble_eq_true rfl) dX7_init_7 (fun q_1 H hP hD hS => ?_)
  have hP : va_P g.1 vwCl [(h0, .inr (7, [.int 0, .null, .null])), (q_1, ai g 7 (fun _ => 0))] H := hP
  have hD : va_D A [(h0, .inr (7, [.int 0, .null, .null])), (q_1, ai g 7 (fun _ => 0))] := hD
  refine W.widen (k := 1) (n := 7) (Nat.le_of_ble_eq_true rfl) (Nat.le_of_ble_eq_true rfl) ?_
  refine va_putF (D := g.1) (ci := 7) (v := .ref q_1) (ty := .array .int) (C := RX7) (T := TX7) (N := 3) hx hb hts q_X7_init_f7 tyX7 tyX7_ok nmX7 hown hE.1 hP hD hS 0 rfl rfl 1 (by decide) (hts (.fieldLink RX7 9 "SoundLaws$Tree" "sounds" "[I") q_X7_init_5) (fun _ h9 => h9) rfl hnm rfl (by decide +kernel) rfl rfl (Nat.le_of_ble_eq_true rfl) dX7_init_9 (fun H locs hP hD hS => ?_)
  have hP : va_P g.1 vwCl [(h0, .inr (7, [.int 0, .ref q_1, .null])), (q_1, ai g 7 (fun _ => 0))] H := hP
  have hD : va_D A [(h0, .inr (7, [.int 0, .ref q_1, .null])), (q_1, ai g 7 (fun _ => 0))] := hD
  refine lv_aload_n hx hb dX7_init_12 rfl (lv_at hl 0 rfl) ?_
  refine lv_bipush (v := 63) hx hb dX7_init_13 (by decide) ?_
  refine k_newi 63 hx hb (hts (.arrayClass .int) q_X7_init_3) hE hP hD hS hA (by decide) (by decide) (by decide) (Nat.le_of_ble_eq_true rfl) (Nat.le_of_ble_eq_true rfl) dX7_init_15 (fun q_2 H hP hD hS => ?_)
  have hP : va_P g.1 vwCl [(h0, .inr (7, [.int 0, .ref q_1, .null])), (q_1, ai g 7 (fun _ => 0)), (q_2, ai g 63 (fun _ => 0))] H := hP
  have hD : va_D A [(h0, .inr (7, [.int 0, .ref q_1, .null])), (q_1, ai g 7 (fun _ => 0)), (q_2, ai g 63 (fun _ => 0))] := hD
  refine W.widen (k := 2) (n := 70) (Nat.le_of_ble_eq_true rfl) (Nat.le_of_ble_eq_true rfl) ?_
  refine va_putF (D := g.1) (ci := 7) (v := .ref q_2) (ty := .array .int) (C := RX7) (T := TX7) (N := 3) hx hb hts q_X7_init_f7 tyX7 tyX7_ok nmX7 hown hE.1 hP hD hS 0 rfl rfl 2 (by decide) (hts (.fieldLink RX7 15 "SoundLaws$Tree" "least" "[I") q_X7_init_6) (fun _ h9 => h9) rfl hnm rfl (by decide +kernel) rfl rfl (Nat.le_of_ble_eq_true rfl) dX7_init_17 (fun H locs hP hD hS => ?_)
  have hP : va_P g.1 vwCl [(h0, .inr (7, [.int 0, .ref q_1, .ref q_2])), (q_1, ai g 7 (fun _ => 0)), (q_2, ai g 63 (fun _ => 0))] H := hP
  have hD : va_D A [(h0, .inr (7, [.int 0, .ref q_1, .ref q_2])), (q_1, ai g 7 (fun _ => 0)), (q_2, ai g 63 (fun _ => 0))] := hD
  refine W.widen (k := 2) (n := 70) (Nat.le_of_ble_eq_true rfl) (Nat.le_of_ble_eq_true rfl) ?_
  exact k_rv hx hb hr hlocks hS hP hD ⟨q_1, q_2, rfl⟩ dX7_init_20
def po_X0_init (g : GG) (h0 : Nat) : va_W → Prop := fun w => ∃ (q1 : Nat) (q2 : Nat) (q3 : Nat), w = [(h0, .inr (0, [.ref q1, .ref q2, .int 0, .int 0, .ref q3])), (q1, ai g 4 (fun _ => 0)), (q2, ai g 4 (fun _ => 0)), (q3, ai g 5 (fun _ => 0))]
theorem q_X0_init_0 : (Cond.methodLink RX0 3 objectInit) ∈ wsX0_init := by decide +kernel
theorem q_X0_init_1 : (Cond.instanceMethod objectInit) ∈ wsX0_init := by decide +kernel
theorem q_X0_init_2 : (Cond.code objectInit ⟨#[0xb1]⟩ 1 none) ∈ wsX0_init := by decide +kernel
theorem q_X0_init_3 : (Cond.arrayClass .int) ∈ wsX0_init := by decide +kernel
theorem q_X0_init_f0 : ∀ w ∈ u_ws RX0 TX0 5, w ∈ wsX0_init := by decide +kernel
theorem q_X0_init_5 : (Cond.fieldLink RX0 9 "SoundLaws$Aligner" "first" "[I") ∈ wsX0_init := by decide +kernel
theorem q_X0_init_6 : (Cond.fieldLink RX0 15 "SoundLaws$Aligner" "second" "[I") ∈ wsX0_init := by decide +kernel
theorem q_X0_init_7 : (Cond.fieldLink RX0 18 "SoundLaws$Aligner" "row" "[I") ∈ wsX0_init := by decide +kernel
set_option maxHeartbeats 4000000 in
set_option maxRecDepth 100000 in
theorem c_X0_init (l : Launch) (g : GG) (h0 : Nat)  (sz : Nat) : MetV l yX0_init wsX0_init ({ frames := 1, cells := 3, slots := 13, locals := 12 }) g [.ref h0] [(h0, .inr (0, [.null, .null, .int 0, .int 0, .null]))] sz (po_X0_init g h0) 3 13 := by
  refine k_of (g := g) (wc := [(h0, .inr (0, [.null, .null, .int 0, .int 0, .null]))]) (Qc := fun A => va_Qv (po_X0_init g h0) (bk g A) A) (cc := cX0_init) (maxL := 1) (ret := none) (by decide) rfl (Nat.le_of_ble_eq_true rfl) ?_ sz
  intro p e s m below meth c hx hb hr hts hown hlocks hnm hml A hA hE hZ hP hD hS ls hl
  have hown : s.vm.findClass RX0 = some m.cls := hown
  have hl : lv_has ls 1 [(0, .ref h0)] := hl
  refine lv_aload_n hx hb dX0_init_0 rfl (lv_at hl 0 rfl) ?_
  refine W.objInit hx hb hown (hts (.methodLink RX0 3 objectInit) q_X0_init_0) (hts (.instanceMethod objectInit) q_X0_init_1) (hts (.code objectInit ⟨#[0xb1]⟩ 1 none) q_X0_init_2) rfl (by rw [hml]; exact hl.1) rfl dX0_init_1 (Nat.le_of_ble_eq_true rfl) (Nat.le_of_ble_eq_true rfl) ?_
  refine W.eq (g2 := F0 m 4 ls []) rfl ?_
  refine lv_aload_n hx hb dX0_init_4 rfl (lv_at hl 0 rfl) ?_
  refine lv_iconst (v := 4) hx hb dX0_init_5 (by decide) ?_
  refine k_newi 4 hx hb (hts (.arrayClass .int) q_X0_init_3) hE hP hD hS hA (by decide) (by decide) (by decide) (Nat.le_of_ble_eq_true rfl) (Nat.le_of_ble_eq_true rfl) dX0_init_6 (fun q_1 H hP hD hS => ?_)
  have hP : va_P g.1 vwCl [(h0, .inr (0, [.null, .null, .int 0, .int 0, .null])), (q_1, ai g 4 (fun _ => 0))] H := hP
  have hD : va_D A [(h0, .inr (0, [.null, .null, .int 0, .int 0, .null])), (q_1, ai g 4 (fun _ => 0))] := hD
  refine W.widen (k := 1) (n := 4) (Nat.le_of_ble_eq_true rfl) (Nat.le_of_ble_eq_true rfl) ?_
  refine va_putF (D := g.1) (ci := 0) (v := .ref q_1) (ty := .array .int) (C := RX0) (T := TX0) (N := 5) hx hb hts q_X0_init_f0 tyX0 tyX0_ok nmX0 hown hE.1 hP hD hS 0 rfl rfl 0 (by decide) (hts (.fieldLink RX0 9 "SoundLaws$Aligner" "first" "[I") q_X0_init_5) (fun _ h9 => h9) rfl hnm rfl (by decide +kernel) rfl rfl (Nat.le_of_ble_eq_true rfl) dX0_init_8 (fun H locs hP hD hS => ?_)
  have hP : va_P g.1 vwCl [(h0, .inr (0, [.ref q_1, .null, .int 0, .int 0, .null])), (q_1, ai g 4 (fun _ => 0))] H := hP
  have hD : va_D A [(h0, .inr (0, [.ref q_1, .null, .int 0, .int 0, .null])), (q_1, ai g 4 (fun _ => 0))] := hD
  refine lv_aload_n hx hb dX0_init_11 rfl (lv_at hl 0 rfl) ?_
  refine lv_iconst (v := 4) hx hb dX0_init_12 (by decide) ?_
  refine k_newi 4 hx hb (hts (.arrayClass .int) q_X0_init_3) hE hP hD hS hA (by decide) (by decide) (by decide) (Nat.le_of_ble_eq_true rfl) (Nat.le_of_ble_eq_true rfl) dX0_init_13 (fun q_2 H hP hD hS => ?_)
  have hP : va_P g.1 vwCl [(h0, .inr (0, [.ref q_1, .null, .int 0, .int 0, .null])), (q_1, ai g 4 (fun _ => 0)), (q_2, ai g 4 (fun _ => 0))] H := hP
  have hD : va_D A [(h0, .inr (0, [.ref q_1, .null, .int 0, .int 0, .null])), (q_1, ai g 4 (fun _ => 0)), (q_2, ai g 4 (fun _ => 0))] := hD
  refine W.widen (k := 2) (n := 8) (Nat.le_of_ble_eq_true rfl) (Nat.le_of_ble_eq_true rfl) ?_
  refine va_putF (D := g.1) (ci := 0) (v := .ref q_2) (ty := .array .int) (C := RX0) (T := TX0) (N := 5) hx hb hts q_X0_init_f0 tyX0 tyX0_ok nmX0 hown hE.1 hP hD hS 0 rfl rfl 1 (by decide) (hts (.fieldLink RX0 15 "SoundLaws$Aligner" "second" "[I") q_X0_init_6) (fun _ h9 => h9) rfl hnm rfl (by decide +kernel) rfl rfl (Nat.le_of_ble_eq_true rfl) dX0_init_15 (fun H locs hP hD hS => ?_)
  have hP : va_P g.1 vwCl [(h0, .inr (0, [.ref q_1, .ref q_2, .int 0, .int 0, .null])), (q_1, ai g 4 (fun _ => 0)), (q_2, ai g 4 (fun _ => 0))] H := hP
  have hD : va_D A [(h0, .inr (0, [.ref q_1, .ref q_2, .int 0, .int 0, .null])), (q_1, ai g 4 (fun _ => 0)), (q_2, ai g 4 (fun _ => 0))] := hD
  refine lv_aload_n hx hb dX0_init_18 rfl (lv_at hl 0 rfl) ?_
  refine lv_iconst (v := 5) hx hb dX0_init_19 (by decide) ?_
  refine k_newi 5 hx hb (hts (.arrayClass .int) q_X0_init_3) hE hP hD hS hA (by decide) (by decide) (by decide) (Nat.le_of_ble_eq_true rfl) (Nat.le_of_ble_eq_true rfl) dX0_init_20 (fun q_3 H hP hD hS => ?_)
  have hP : va_P g.1 vwCl [(h0, .inr (0, [.ref q_1, .ref q_2, .int 0, .int 0, .null])), (q_1, ai g 4 (fun _ => 0)), (q_2, ai g 4 (fun _ => 0)), (q_3, ai g 5 (fun _ => 0))] H := hP
  have hD : va_D A [(h0, .inr (0, [.ref q_1, .ref q_2, .int 0, .int 0, .null])), (q_1, ai g 4 (fun _ => 0)), (q_2, ai g 4 (fun _ => 0)), (q_3, ai g 5 (fun _ => 0))] := hD
  refine W.widen (k := 3) (n := 13) (Nat.le_of_ble_eq_true rfl) (Nat.le_of_ble_eq_true rfl) ?_
  refine va_putF (D := g.1) (ci := 0) (v := .ref q_3) (ty := .array .int) (C := RX0) (T := TX0) (N := 5) hx hb hts q_X0_init_f0 tyX0 tyX0_ok nmX0 hown hE.1 hP hD hS 0 rfl rfl 4 (by decide) (hts (.fieldLink RX0 18 "SoundLaws$Aligner" "row" "[I") q_X0_init_7) (fun _ h9 => h9) rfl hnm rfl (by decide +kernel) rfl rfl (Nat.le_of_ble_eq_true rfl) dX0_init_22 (fun H locs hP hD hS => ?_)
  have hP : va_P g.1 vwCl [(h0, .inr (0, [.ref q_1, .ref q_2, .int 0, .int 0, .ref q_3])), (q_1, ai g 4 (fun _ => 0)), (q_2, ai g 4 (fun _ => 0)), (q_3, ai g 5 (fun _ => 0))] H := hP
  have hD : va_D A [(h0, .inr (0, [.ref q_1, .ref q_2, .int 0, .int 0, .ref q_3])), (q_1, ai g 4 (fun _ => 0)), (q_2, ai g 4 (fun _ => 0)), (q_3, ai g 5 (fun _ => 0))] := hD
  refine W.widen (k := 3) (n := 13) (Nat.le_of_ble_eq_true rfl) (Nat.le_of_ble_eq_true rfl) ?_
  exact k_rv hx hb hr hlocks hS hP hD ⟨q_1, q_2, q_3, rfl⟩ dX0_init_25
def po_X2_init (g : GG) (h0 : Nat) : va_W → Prop := fun w => ∃ (q1 : Nat) (q2 : Nat) (q3 : Nat) (q4 : Nat), w = [(h0, .inr (2, [.ref q1, .ref q2, .ref q3, .int 0, .int 0, .ref q4])), (q1, ai g 72 (fun _ => 0)), (q2, ai g 72 (fun _ => 0)), (q3, ai g 72 (fun _ => 0)), (q4, ai g 648 (fun _ => 0))]
theorem q_X2_init_0 : (Cond.methodLink RX2 3 objectInit) ∈ wsX2_init := by decide +kernel
theorem q_X2_init_1 : (Cond.instanceMethod objectInit) ∈ wsX2_init := by decide +kernel
theorem q_X2_init_2 : (Cond.code objectInit ⟨#[0xb1]⟩ 1 none) ∈ wsX2_init := by decide +kernel
theorem q_X2_init_3 : (Cond.arrayClass .int) ∈ wsX2_init := by decide +kernel
theorem q_X2_init_f2 : ∀ w ∈ u_ws RX2 TX2 6, w ∈ wsX2_init := by decide +kernel
theorem q_X2_init_5 : (Cond.fieldLink RX2 9 "SoundLaws$Laws" "becomes" "[I") ∈ wsX2_init := by decide +kernel
theorem q_X2_init_6 : (Cond.fieldLink RX2 15 "SoundLaws$Laws" "follows" "[I") ∈ wsX2_init := by decide +kernel
theorem q_X2_init_7 : (Cond.fieldLink RX2 18 "SoundLaws$Laws" "exceptions" "[I") ∈ wsX2_init := by decide +kernel
theorem q_X2_init_8 : (Cond.fieldLink RX2 21 "SoundLaws$Laws" "weights" "[I") ∈ wsX2_init := by decide +kernel
set_option maxHeartbeats 4000000 in
set_option maxRecDepth 100000 in
theorem c_X2_init (l : Launch) (g : GG) (h0 : Nat)  (sz : Nat) : MetV l yX2_init wsX2_init ({ frames := 1, cells := 4, slots := 864, locals := 12 }) g [.ref h0] [(h0, .inr (2, [.null, .null, .null, .int 0, .int 0, .null]))] sz (po_X2_init g h0) 4 864 := by
  refine k_of (g := g) (wc := [(h0, .inr (2, [.null, .null, .null, .int 0, .int 0, .null]))]) (Qc := fun A => va_Qv (po_X2_init g h0) (bk g A) A) (cc := cX2_init) (maxL := 1) (ret := none) (by decide) rfl (Nat.le_of_ble_eq_true rfl) ?_ sz
  intro p e s m below meth c hx hb hr hts hown hlocks hnm hml A hA hE hZ hP hD hS ls hl
  have hown : s.vm.findClass RX2 = some m.cls := hown
  have hl : lv_has ls 1 [(0, .ref h0)] := hl
  refine lv_aload_n hx hb dX2_init_0 rfl (lv_at hl 0 rfl) ?_
  refine W.objInit hx hb hown (hts (.methodLink RX2 3 objectInit) q_X2_init_0) (hts (.instanceMethod objectInit) q_X2_init_1) (hts (.code objectInit ⟨#[0xb1]⟩ 1 none) q_X2_init_2) rfl (by rw [hml]; exact hl.1) rfl dX2_init_1 (Nat.le_of_ble_eq_true rfl) (Nat.le_of_ble_eq_true rfl) ?_
  refine W.eq (g2 := F0 m 4 ls []) rfl ?_
  refine lv_aload_n hx hb dX2_init_4 rfl (lv_at hl 0 rfl) ?_
  refine lv_bipush (v := 72) hx hb dX2_init_5 (by decide) ?_
  refine k_newi 72 hx hb (hts (.arrayClass .int) q_X2_init_3) hE hP hD hS hA (by decide) (by decide) (by decide) (Nat.le_of_ble_eq_true rfl) (Nat.le_of_ble_eq_true rfl) dX2_init_7 (fun q_1 H hP hD hS => ?_)
  have hP : va_P g.1 vwCl [(h0, .inr (2, [.null, .null, .null, .int 0, .int 0, .null])), (q_1, ai g 72 (fun _ => 0))] H := hP
  have hD : va_D A [(h0, .inr (2, [.null, .null, .null, .int 0, .int 0, .null])), (q_1, ai g 72 (fun _ => 0))] := hD
  refine W.widen (k := 1) (n := 72) (Nat.le_of_ble_eq_true rfl) (Nat.le_of_ble_eq_true rfl) ?_
  refine va_putF (D := g.1) (ci := 2) (v := .ref q_1) (ty := .array .int) (C := RX2) (T := TX2) (N := 6) hx hb hts q_X2_init_f2 tyX2 tyX2_ok nmX2 hown hE.1 hP hD hS 0 rfl rfl 0 (by decide) (hts (.fieldLink RX2 9 "SoundLaws$Laws" "becomes" "[I") q_X2_init_5) (fun _ h9 => h9) rfl hnm rfl (by decide +kernel) rfl rfl (Nat.le_of_ble_eq_true rfl) dX2_init_9 (fun H locs hP hD hS => ?_)
  have hP : va_P g.1 vwCl [(h0, .inr (2, [.ref q_1, .null, .null, .int 0, .int 0, .null])), (q_1, ai g 72 (fun _ => 0))] H := hP
  have hD : va_D A [(h0, .inr (2, [.ref q_1, .null, .null, .int 0, .int 0, .null])), (q_1, ai g 72 (fun _ => 0))] := hD
  refine lv_aload_n hx hb dX2_init_12 rfl (lv_at hl 0 rfl) ?_
  refine lv_bipush (v := 72) hx hb dX2_init_13 (by decide) ?_
  refine k_newi 72 hx hb (hts (.arrayClass .int) q_X2_init_3) hE hP hD hS hA (by decide) (by decide) (by decide) (Nat.le_of_ble_eq_true rfl) (Nat.le_of_ble_eq_true rfl) dX2_init_15 (fun q_2 H hP hD hS => ?_)
  have hP : va_P g.1 vwCl [(h0, .inr (2, [.ref q_1, .null, .null, .int 0, .int 0, .null])), (q_1, ai g 72 (fun _ => 0)), (q_2, ai g 72 (fun _ => 0))] H := hP
  have hD : va_D A [(h0, .inr (2, [.ref q_1, .null, .null, .int 0, .int 0, .null])), (q_1, ai g 72 (fun _ => 0)), (q_2, ai g 72 (fun _ => 0))] := hD
  refine W.widen (k := 2) (n := 144) (Nat.le_of_ble_eq_true rfl) (Nat.le_of_ble_eq_true rfl) ?_
  refine va_putF (D := g.1) (ci := 2) (v := .ref q_2) (ty := .array .int) (C := RX2) (T := TX2) (N := 6) hx hb hts q_X2_init_f2 tyX2 tyX2_ok nmX2 hown hE.1 hP hD hS 0 rfl rfl 1 (by decide) (hts (.fieldLink RX2 15 "SoundLaws$Laws" "follows" "[I") q_X2_init_6) (fun _ h9 => h9) rfl hnm rfl (by decide +kernel) rfl rfl (Nat.le_of_ble_eq_true rfl) dX2_init_17 (fun H locs hP hD hS => ?_)
  have hP : va_P g.1 vwCl [(h0, .inr (2, [.ref q_1, .ref q_2, .null, .int 0, .int 0, .null])), (q_1, ai g 72 (fun _ => 0)), (q_2, ai g 72 (fun _ => 0))] H := hP
  have hD : va_D A [(h0, .inr (2, [.ref q_1, .ref q_2, .null, .int 0, .int 0, .null])), (q_1, ai g 72 (fun _ => 0)), (q_2, ai g 72 (fun _ => 0))] := hD
  refine lv_aload_n hx hb dX2_init_20 rfl (lv_at hl 0 rfl) ?_
  refine lv_bipush (v := 72) hx hb dX2_init_21 (by decide) ?_
  refine k_newi 72 hx hb (hts (.arrayClass .int) q_X2_init_3) hE hP hD hS hA (by decide) (by decide) (by decide) (Nat.le_of_ble_eq_true rfl) (Nat.le_of_ble_eq_true rfl) dX2_init_23 (fun q_3 H hP hD hS => ?_)
  have hP : va_P g.1 vwCl [(h0, .inr (2, [.ref q_1, .ref q_2, .null, .int 0, .int 0, .null])), (q_1, ai g 72 (fun _ => 0)), (q_2, ai g 72 (fun _ => 0)), (q_3, ai g 72 (fun _ => 0))] H := hP
  have hD : va_D A [(h0, .inr (2, [.ref q_1, .ref q_2, .null, .int 0, .int 0, .null])), (q_1, ai g 72 (fun _ => 0)), (q_2, ai g 72 (fun _ => 0)), (q_3, ai g 72 (fun _ => 0))] := hD
  refine W.widen (k := 3) (n := 216) (Nat.le_of_ble_eq_true rfl) (Nat.le_of_ble_eq_true rfl) ?_
  refine va_putF (D := g.1) (ci := 2) (v := .ref q_3) (ty := .array .int) (C := RX2) (T := TX2) (N := 6) hx hb hts q_X2_init_f2 tyX2 tyX2_ok nmX2 hown hE.1 hP hD hS 0 rfl rfl 2 (by decide) (hts (.fieldLink RX2 18 "SoundLaws$Laws" "exceptions" "[I") q_X2_init_7) (fun _ h9 => h9) rfl hnm rfl (by decide +kernel) rfl rfl (Nat.le_of_ble_eq_true rfl) dX2_init_25 (fun H locs hP hD hS => ?_)
  have hP : va_P g.1 vwCl [(h0, .inr (2, [.ref q_1, .ref q_2, .ref q_3, .int 0, .int 0, .null])), (q_1, ai g 72 (fun _ => 0)), (q_2, ai g 72 (fun _ => 0)), (q_3, ai g 72 (fun _ => 0))] H := hP
  have hD : va_D A [(h0, .inr (2, [.ref q_1, .ref q_2, .ref q_3, .int 0, .int 0, .null])), (q_1, ai g 72 (fun _ => 0)), (q_2, ai g 72 (fun _ => 0)), (q_3, ai g 72 (fun _ => 0))] := hD
  refine lv_aload_n hx hb dX2_init_28 rfl (lv_at hl 0 rfl) ?_
  refine lv_sipush (v := 648) hx hb dX2_init_29 (by decide) ?_
  refine k_newi 648 hx hb (hts (.arrayClass .int) q_X2_init_3) hE hP hD hS hA (by decide) (by decide) (by decide) (Nat.le_of_ble_eq_true rfl) (Nat.le_of_ble_eq_true rfl) dX2_init_32 (fun q_4 H hP hD hS => ?_)
  have hP : va_P g.1 vwCl [(h0, .inr (2, [.ref q_1, .ref q_2, .ref q_3, .int 0, .int 0, .null])), (q_1, ai g 72 (fun _ => 0)), (q_2, ai g 72 (fun _ => 0)), (q_3, ai g 72 (fun _ => 0)), (q_4, ai g 648 (fun _ => 0))] H := hP
  have hD : va_D A [(h0, .inr (2, [.ref q_1, .ref q_2, .ref q_3, .int 0, .int 0, .null])), (q_1, ai g 72 (fun _ => 0)), (q_2, ai g 72 (fun _ => 0)), (q_3, ai g 72 (fun _ => 0)), (q_4, ai g 648 (fun _ => 0))] := hD
  refine W.widen (k := 4) (n := 864) (Nat.le_of_ble_eq_true rfl) (Nat.le_of_ble_eq_true rfl) ?_
  refine va_putF (D := g.1) (ci := 2) (v := .ref q_4) (ty := .array .int) (C := RX2) (T := TX2) (N := 6) hx hb hts q_X2_init_f2 tyX2 tyX2_ok nmX2 hown hE.1 hP hD hS 0 rfl rfl 5 (by decide) (hts (.fieldLink RX2 21 "SoundLaws$Laws" "weights" "[I") q_X2_init_8) (fun _ h9 => h9) rfl hnm rfl (by decide +kernel) rfl rfl (Nat.le_of_ble_eq_true rfl) dX2_init_34 (fun H locs hP hD hS => ?_)
  have hP : va_P g.1 vwCl [(h0, .inr (2, [.ref q_1, .ref q_2, .ref q_3, .int 0, .int 0, .ref q_4])), (q_1, ai g 72 (fun _ => 0)), (q_2, ai g 72 (fun _ => 0)), (q_3, ai g 72 (fun _ => 0)), (q_4, ai g 648 (fun _ => 0))] H := hP
  have hD : va_D A [(h0, .inr (2, [.ref q_1, .ref q_2, .ref q_3, .int 0, .int 0, .ref q_4])), (q_1, ai g 72 (fun _ => 0)), (q_2, ai g 72 (fun _ => 0)), (q_3, ai g 72 (fun _ => 0)), (q_4, ai g 648 (fun _ => 0))] := hD
  refine W.widen (k := 4) (n := 864) (Nat.le_of_ble_eq_true rfl) (Nat.le_of_ble_eq_true rfl) ?_
  exact k_rv hx hb hr hlocks hS hP hD ⟨q_1, q_2, q_3, q_4, rfl⟩ dX2_init_37
def po_X1_init (g : GG) (h0 : Nat) : va_W → Prop := fun w => ∃ (q1 : Nat) (q2 : Nat) (q3 : Nat), w = [(h0, .inr (1, [.int 0, .int 0, .int 0, .ref q1])), (q1, .inr (7, [.int 0, .ref q2, .ref q3])), (q2, ai g 7 (fun _ => 0)), (q3, ai g 63 (fun _ => 0))]
theorem q_X1_init_0 : (Cond.methodLink RX1 3 objectInit) ∈ wsX1_init := by decide +kernel
theorem q_X1_init_1 : (Cond.instanceMethod objectInit) ∈ wsX1_init := by decide +kernel
theorem q_X1_init_2 : (Cond.code objectInit ⟨#[0xb1]⟩ 1 none) ∈ wsX1_init := by decide +kernel
theorem q_X1_init_f7 : ∀ w ∈ u_ws RX7 TX7 3, w ∈ wsX1_init := by decide +kernel
theorem q_X1_init_4 : (Cond.classLink RX1 9 RX7) ∈ wsX1_init := by decide +kernel
theorem q_X1_init_5 : (Cond.instantiable RX7 3) ∈ wsX1_init := by decide +kernel
theorem q_X1_init_6 : (Cond.initialized RX7) ∈ wsX1_init := by decide +kernel
theorem q_X1_init_7 : (Cond.instanceMethod yX7_init) ∈ wsX1_init := by decide +kernel
theorem q_X1_init_f1 : ∀ w ∈ u_ws RX1 TX1 4, w ∈ wsX1_init := by decide +kernel
theorem q_X1_init_9 : (Cond.fieldLink RX1 12 "SoundLaws$Draws" "tree" "LSoundLaws$Tree;") ∈ wsX1_init := by decide +kernel
set_option maxHeartbeats 4000000 in
set_option maxRecDepth 100000 in
theorem c_X1_init (l : Launch) (g : GG) (h0 : Nat)  (sz : Nat) : MetV l yX1_init wsX1_init ({ frames := 2, cells := 3, slots := 73, locals := 32 }) g [.ref h0] [(h0, .inr (1, [.int 0, .int 0, .int 0, .null]))] sz (po_X1_init g h0) 3 73 := by
  refine k_of (g := g) (wc := [(h0, .inr (1, [.int 0, .int 0, .int 0, .null]))]) (Qc := fun A => va_Qv (po_X1_init g h0) (bk g A) A) (cc := cX1_init) (maxL := 1) (ret := none) (by decide) rfl (Nat.le_of_ble_eq_true rfl) ?_ sz
  intro p e s m below meth c hx hb hr hts hown hlocks hnm hml A hA hE hZ hP hD hS ls hl
  have hown : s.vm.findClass RX1 = some m.cls := hown
  have hl : lv_has ls 1 [(0, .ref h0)] := hl
  refine lv_aload_n hx hb dX1_init_0 rfl (lv_at hl 0 rfl) ?_
  refine W.objInit hx hb hown (hts (.methodLink RX1 3 objectInit) q_X1_init_0) (hts (.instanceMethod objectInit) q_X1_init_1) (hts (.code objectInit ⟨#[0xb1]⟩ 1 none) q_X1_init_2) rfl (by rw [hml]; exact hl.1) rfl dX1_init_1 (Nat.le_of_ble_eq_true rfl) (Nat.le_of_ble_eq_true rfl) ?_
  refine W.eq (g2 := F0 m 4 ls []) rfl ?_
  refine lv_aload_n hx hb dX1_init_4 rfl (lv_at hl 0 rfl) ?_
  refine va_new (D := g.1) (ci := 7) (fs := [.int 0, .null, .null]) (C := RX7) (T := TX7) (N := 3) hx hb hts q_X1_init_f7 tyX7 tyX7_ok hown (hts (.classLink RX1 9 RX7) q_X1_init_4) (hts (.instantiable RX7 3) q_X1_init_5) (hts (.initialized RX7) q_X1_init_6) hE.1 hP hD hS hA rfl (by intro j hj; match j, hj with | 0, _ => rfl | 1, _ => rfl | 2, _ => rfl | (k + 3), h => exact absurd h (by omega)) (Nat.le_of_ble_eq_true rfl) (Nat.le_of_ble_eq_true rfl) dX1_init_5 (fun q_1 H hP hD hS => ?_)
  have hP : va_P g.1 vwCl [(h0, .inr (1, [.int 0, .int 0, .int 0, .null])), (q_1, .inr (7, [.int 0, .null, .null]))] H := hP
  have hD : va_D A [(h0, .inr (1, [.int 0, .int 0, .int 0, .null])), (q_1, .inr (7, [.int 0, .null, .null]))] := hD
  refine W.widen (k := 1) (n := 3) (Nat.le_of_ble_eq_true rfl) (Nat.le_of_ble_eq_true rfl) ?_
  refine lv_dup hx hb dX1_init_8 rfl ?_
  refine k_cv (wr := [(h0, .inr (1, [.int 0, .int 0, .int 0, .null]))]) hP hD hS hA [1] [0] rfl rfl (by decide) (by decide) (va_runIN (As := []) (rest := [.ref q_1, .ref h0]) ⟨hx, hb, hml, hown, hts⟩ (c_X7_init l g q_1  H.size) ⟨va_cnB 0 hts gX1_init_X7_init_n11 rfl rfl rfl (hE.nw 9 rfl) (hts (.initialized RX7) q_X1_init_6) (by decide +kernel) ⟨Nat.le_of_ble_eq_true rfl, Nat.le_of_ble_eq_true rfl⟩, rfl, (hts (.instanceMethod yX7_init) q_X1_init_7)⟩ (k_preS hE hZ hP hD hS hA [1] rfl (by decide)) rfl rfl hl.1 rfl (lv_room (Nat.le_of_ble_eq_true rfl)) dX1_init_9 ⟨Nat.le_of_ble_eq_true rfl, Nat.le_of_ble_eq_true rfl⟩) (fun w1 H locs hw hP hD hS => ?_)
  obtain ⟨q1_3, q2_4, rfl⟩ := hw
  have hP : va_P g.1 vwCl [(h0, .inr (1, [.int 0, .int 0, .int 0, .null])), (q_1, .inr (7, [.int 0, .ref q1_3, .ref q2_4])), (q1_3, ai g 7 (fun _ => 0)), (q2_4, ai g 63 (fun _ => 0))] H := hP
  have hD : va_D A [(h0, .inr (1, [.int 0, .int 0, .int 0, .null])), (q_1, .inr (7, [.int 0, .ref q1_3, .ref q2_4])), (q1_3, ai g 7 (fun _ => 0)), (q2_4, ai g 63 (fun _ => 0))] := hD
  refine W.widen (k := 3) (n := 73) (Nat.le_of_ble_eq_true rfl) (Nat.le_of_ble_eq_true rfl) ?_
  refine va_putF (D := g.1) (ci := 1) (v := .ref q_1) (ty := .object "SoundLaws$Tree") (C := RX1) (T := TX1) (N := 4) hx hb hts q_X1_init_f1 tyX1 tyX1_ok nmX1 hown hE.1 hP hD hS 0 rfl rfl 3 (by decide) (hts (.fieldLink RX1 12 "SoundLaws$Draws" "tree" "LSoundLaws$Tree;") q_X1_init_9) (fun _ h9 => h9) rfl hnm rfl (by decide +kernel) rfl rfl (Nat.le_of_ble_eq_true rfl) dX1_init_12 (fun H locs hP hD hS => ?_)
  have hP : va_P g.1 vwCl [(h0, .inr (1, [.int 0, .int 0, .int 0, .ref q_1])), (q_1, .inr (7, [.int 0, .ref q1_3, .ref q2_4])), (q1_3, ai g 7 (fun _ => 0)), (q2_4, ai g 63 (fun _ => 0))] H := hP
  have hD : va_D A [(h0, .inr (1, [.int 0, .int 0, .int 0, .ref q_1])), (q_1, .inr (7, [.int 0, .ref q1_3, .ref q2_4])), (q1_3, ai g 7 (fun _ => 0)), (q2_4, ai g 63 (fun _ => 0))] := hD
  refine W.widen (k := 3) (n := 73) (Nat.le_of_ble_eq_true rfl) (Nat.le_of_ble_eq_true rfl) ?_
  exact k_rv hx hb hr hlocks hS hP hD ⟨q_1, q1_3, q2_4, rfl⟩ dX1_init_15
def po_X3_init (g : GG) (h0 : Nat) : va_W → Prop := fun w => ∃ (q1 : Nat) (q2 : Nat) (q3 : Nat) (q4 : Nat), w = [(h0, .inr (3, [.ref q1, .int 0, .int 0, .int 0, .int 0, .int 0, .int 0])), (q1, .inr (5, [.int 0, .int 0, .ref q2, .ref q3, .ref q4])), (q2, ai g 6 (fun _ => 0)), (q3, ai g 6 (fun _ => 0)), (q4, ai g 96 (fun _ => 0))]
theorem q_X3_init_0 : (Cond.methodLink RX3 3 objectInit) ∈ wsX3_init := by decide +kernel
theorem q_X3_init_1 : (Cond.instanceMethod objectInit) ∈ wsX3_init := by decide +kernel
theorem q_X3_init_2 : (Cond.code objectInit ⟨#[0xb1]⟩ 1 none) ∈ wsX3_init := by decide +kernel
theorem q_X3_init_f5 : ∀ w ∈ u_ws RX5 TX5 5, w ∈ wsX3_init := by decide +kernel
theorem q_X3_init_4 : (Cond.classLink RX3 9 RX5) ∈ wsX3_init := by decide +kernel
theorem q_X3_init_5 : (Cond.instantiable RX5 5) ∈ wsX3_init := by decide +kernel
theorem q_X3_init_6 : (Cond.initialized RX5) ∈ wsX3_init := by decide +kernel
theorem q_X3_init_7 : (Cond.instanceMethod yX5_init) ∈ wsX3_init := by decide +kernel
theorem q_X3_init_f3 : ∀ w ∈ u_ws RX3 TX3 7, w ∈ wsX3_init := by decide +kernel
theorem q_X3_init_9 : (Cond.fieldLink RX3 12 "SoundLaws$Reader" "draft" "LSoundLaws$Stock;") ∈ wsX3_init := by decide +kernel
set_option maxHeartbeats 4000000 in
set_option maxRecDepth 100000 in
theorem c_X3_init (l : Launch) (g : GG) (h0 : Nat)  (sz : Nat) : MetV l yX3_init wsX3_init ({ frames := 2, cells := 4, slots := 113, locals := 32 }) g [.ref h0] [(h0, .inr (3, [.null, .int 0, .int 0, .int 0, .int 0, .int 0, .int 0]))] sz (po_X3_init g h0) 4 113 := by
  refine k_of (g := g) (wc := [(h0, .inr (3, [.null, .int 0, .int 0, .int 0, .int 0, .int 0, .int 0]))]) (Qc := fun A => va_Qv (po_X3_init g h0) (bk g A) A) (cc := cX3_init) (maxL := 1) (ret := none) (by decide) rfl (Nat.le_of_ble_eq_true rfl) ?_ sz
  intro p e s m below meth c hx hb hr hts hown hlocks hnm hml A hA hE hZ hP hD hS ls hl
  have hown : s.vm.findClass RX3 = some m.cls := hown
  have hl : lv_has ls 1 [(0, .ref h0)] := hl
  refine lv_aload_n hx hb dX3_init_0 rfl (lv_at hl 0 rfl) ?_
  refine W.objInit hx hb hown (hts (.methodLink RX3 3 objectInit) q_X3_init_0) (hts (.instanceMethod objectInit) q_X3_init_1) (hts (.code objectInit ⟨#[0xb1]⟩ 1 none) q_X3_init_2) rfl (by rw [hml]; exact hl.1) rfl dX3_init_1 (Nat.le_of_ble_eq_true rfl) (Nat.le_of_ble_eq_true rfl) ?_
  refine W.eq (g2 := F0 m 4 ls []) rfl ?_
  refine lv_aload_n hx hb dX3_init_4 rfl (lv_at hl 0 rfl) ?_
  refine va_new (D := g.1) (ci := 5) (fs := [.int 0, .int 0, .null, .null, .null]) (C := RX5) (T := TX5) (N := 5) hx hb hts q_X3_init_f5 tyX5 tyX5_ok hown (hts (.classLink RX3 9 RX5) q_X3_init_4) (hts (.instantiable RX5 5) q_X3_init_5) (hts (.initialized RX5) q_X3_init_6) hE.1 hP hD hS hA rfl (by intro j hj; match j, hj with | 0, _ => rfl | 1, _ => rfl | 2, _ => rfl | 3, _ => rfl | 4, _ => rfl | (k + 5), h => exact absurd h (by omega)) (Nat.le_of_ble_eq_true rfl) (Nat.le_of_ble_eq_true rfl) dX3_init_5 (fun q_1 H hP hD hS => ?_)
  have hP : va_P g.1 vwCl [(h0, .inr (3, [.null, .int 0, .int 0, .int 0, .int 0, .int 0, .int 0])), (q_1, .inr (5, [.int 0, .int 0, .null, .null, .null]))] H := hP
  have hD : va_D A [(h0, .inr (3, [.null, .int 0, .int 0, .int 0, .int 0, .int 0, .int 0])), (q_1, .inr (5, [.int 0, .int 0, .null, .null, .null]))] := hD
  refine W.widen (k := 1) (n := 5) (Nat.le_of_ble_eq_true rfl) (Nat.le_of_ble_eq_true rfl) ?_
  refine lv_dup hx hb dX3_init_8 rfl ?_
  refine k_cv (wr := [(h0, .inr (3, [.null, .int 0, .int 0, .int 0, .int 0, .int 0, .int 0]))]) hP hD hS hA [1] [0] rfl rfl (by decide) (by decide) (va_runIN (As := []) (rest := [.ref q_1, .ref h0]) ⟨hx, hb, hml, hown, hts⟩ (c_X5_init l g q_1  H.size) ⟨va_cnB 0 hts gX3_init_X5_init_n11 rfl rfl rfl (hE.nw 1 rfl) (hts (.initialized RX5) q_X3_init_6) (by decide +kernel) ⟨Nat.le_of_ble_eq_true rfl, Nat.le_of_ble_eq_true rfl⟩, rfl, (hts (.instanceMethod yX5_init) q_X3_init_7)⟩ (k_preS hE hZ hP hD hS hA [1] rfl (by decide)) rfl rfl hl.1 rfl (lv_room (Nat.le_of_ble_eq_true rfl)) dX3_init_9 ⟨Nat.le_of_ble_eq_true rfl, Nat.le_of_ble_eq_true rfl⟩) (fun w1 H locs hw hP hD hS => ?_)
  obtain ⟨q1_3, q2_4, q3_5, rfl⟩ := hw
  have hP : va_P g.1 vwCl [(h0, .inr (3, [.null, .int 0, .int 0, .int 0, .int 0, .int 0, .int 0])), (q_1, .inr (5, [.int 0, .int 0, .ref q1_3, .ref q2_4, .ref q3_5])), (q1_3, ai g 6 (fun _ => 0)), (q2_4, ai g 6 (fun _ => 0)), (q3_5, ai g 96 (fun _ => 0))] H := hP
  have hD : va_D A [(h0, .inr (3, [.null, .int 0, .int 0, .int 0, .int 0, .int 0, .int 0])), (q_1, .inr (5, [.int 0, .int 0, .ref q1_3, .ref q2_4, .ref q3_5])), (q1_3, ai g 6 (fun _ => 0)), (q2_4, ai g 6 (fun _ => 0)), (q3_5, ai g 96 (fun _ => 0))] := hD
  refine W.widen (k := 4) (n := 113) (Nat.le_of_ble_eq_true rfl) (Nat.le_of_ble_eq_true rfl) ?_
  refine va_putF (D := g.1) (ci := 3) (v := .ref q_1) (ty := .object "SoundLaws$Stock") (C := RX3) (T := TX3) (N := 7) hx hb hts q_X3_init_f3 tyX3 tyX3_ok nmX3 hown hE.1 hP hD hS 0 rfl rfl 0 (by decide) (hts (.fieldLink RX3 12 "SoundLaws$Reader" "draft" "LSoundLaws$Stock;") q_X3_init_9) (fun _ h9 => h9) rfl hnm rfl (by decide +kernel) rfl rfl (Nat.le_of_ble_eq_true rfl) dX3_init_12 (fun H locs hP hD hS => ?_)
  have hP : va_P g.1 vwCl [(h0, .inr (3, [.ref q_1, .int 0, .int 0, .int 0, .int 0, .int 0, .int 0])), (q_1, .inr (5, [.int 0, .int 0, .ref q1_3, .ref q2_4, .ref q3_5])), (q1_3, ai g 6 (fun _ => 0)), (q2_4, ai g 6 (fun _ => 0)), (q3_5, ai g 96 (fun _ => 0))] H := hP
  have hD : va_D A [(h0, .inr (3, [.ref q_1, .int 0, .int 0, .int 0, .int 0, .int 0, .int 0])), (q_1, .inr (5, [.int 0, .int 0, .ref q1_3, .ref q2_4, .ref q3_5])), (q1_3, ai g 6 (fun _ => 0)), (q2_4, ai g 6 (fun _ => 0)), (q3_5, ai g 96 (fun _ => 0))] := hD
  refine W.widen (k := 4) (n := 113) (Nat.le_of_ble_eq_true rfl) (Nat.le_of_ble_eq_true rfl) ?_
  exact k_rv hx hb hr hlocks hS hP hD ⟨q_1, q1_3, q2_4, q3_5, rfl⟩ dX3_init_15
def po_X6_init (g : GG) (h0 : Nat) : va_W → Prop := fun w => ∃ (q1 : Nat) (q2 : Nat) (q3 : Nat) (lw : Nat) (l1 : Nat) (l2 : Nat) (l3 : Nat) (l4 : Nat) (tr : Nat) (t1 : Nat) (t2 : Nat), w = [(h0, .inr (6, [.ref q1, .ref q2, .ref q3, .ref lw, .int 0, .ref tr])), (q1, ai g 168 (fun _ => 0)), (q2, ai g 6 (fun _ => 0)), (q3, ai g 24 (fun _ => 0)), (lw, .inr (2, [.ref l1, .ref l2, .ref l3, .int 0, .int 0, .ref l4])), (l1, ai g 72 (fun _ => 0)), (l2, ai g 72 (fun _ => 0)), (l3, ai g 72 (fun _ => 0)), (l4, ai g 648 (fun _ => 0)), (tr, .inr (7, [.int 0, .ref t1, .ref t2])), (t1, ai g 7 (fun _ => 0)), (t2, ai g 63 (fun _ => 0))]
theorem q_X6_init_0 : (Cond.methodLink RX6 3 objectInit) ∈ wsX6_init := by decide +kernel
theorem q_X6_init_1 : (Cond.instanceMethod objectInit) ∈ wsX6_init := by decide +kernel
theorem q_X6_init_2 : (Cond.code objectInit ⟨#[0xb1]⟩ 1 none) ∈ wsX6_init := by decide +kernel
theorem q_X6_init_3 : (Cond.arrayClass .int) ∈ wsX6_init := by decide +kernel
theorem q_X6_init_f6 : ∀ w ∈ u_ws RX6 TX6 6, w ∈ wsX6_init := by decide +kernel
theorem q_X6_init_5 : (Cond.fieldLink RX6 9 "SoundLaws$Study" "sounds" "[I") ∈ wsX6_init := by decide +kernel
theorem q_X6_init_6 : (Cond.fieldLink RX6 15 "SoundLaws$Study" "changes" "[I") ∈ wsX6_init := by decide +kernel
theorem q_X6_init_7 : (Cond.fieldLink RX6 18 "SoundLaws$Study" "strangePlaces" "[I") ∈ wsX6_init := by decide +kernel
theorem q_X6_init_f2 : ∀ w ∈ u_ws RX2 TX2 6, w ∈ wsX6_init := by decide +kernel
theorem q_X6_init_9 : (Cond.classLink RX6 21 RX2) ∈ wsX6_init := by decide +kernel
theorem q_X6_init_10 : (Cond.instantiable RX2 6) ∈ wsX6_init := by decide +kernel
theorem q_X6_init_11 : (Cond.initialized RX2) ∈ wsX6_init := by decide +kernel
theorem q_X6_init_12 : (Cond.instanceMethod yX2_init) ∈ wsX6_init := by decide +kernel
theorem q_X6_init_13 : (Cond.fieldLink RX6 24 "SoundLaws$Study" "laws" "LSoundLaws$Laws;") ∈ wsX6_init := by decide +kernel
theorem q_X6_init_f7 : ∀ w ∈ u_ws RX7 TX7 3, w ∈ wsX6_init := by decide +kernel
theorem q_X6_init_15 : (Cond.classLink RX6 28 RX7) ∈ wsX6_init := by decide +kernel
theorem q_X6_init_16 : (Cond.instantiable RX7 3) ∈ wsX6_init := by decide +kernel
theorem q_X6_init_17 : (Cond.initialized RX7) ∈ wsX6_init := by decide +kernel
theorem q_X6_init_18 : (Cond.instanceMethod yX7_init) ∈ wsX6_init := by decide +kernel
theorem q_X6_init_19 : (Cond.fieldLink RX6 31 "SoundLaws$Study" "tree" "LSoundLaws$Tree;") ∈ wsX6_init := by decide +kernel
set_option maxHeartbeats 4000000 in
set_option maxRecDepth 100000 in
theorem c_X6_init (l : Launch) (g : GG) (h0 : Nat)  (sz : Nat) : MetV l yX6_init wsX6_init ({ frames := 2, cells := 11, slots := 1141, locals := 32 }) g [.ref h0] [(h0, .inr (6, [.null, .null, .null, .null, .int 0, .null]))] sz (po_X6_init g h0) 11 1141 := by
  refine k_of (g := g) (wc := [(h0, .inr (6, [.null, .null, .null, .null, .int 0, .null]))]) (Qc := fun A => va_Qv (po_X6_init g h0) (bk g A) A) (cc := cX6_init) (maxL := 1) (ret := none) (by decide) rfl (Nat.le_of_ble_eq_true rfl) ?_ sz
  intro p e s m below meth c hx hb hr hts hown hlocks hnm hml A hA hE hZ hP hD hS ls hl
  have hown : s.vm.findClass RX6 = some m.cls := hown
  have hl : lv_has ls 1 [(0, .ref h0)] := hl
  refine lv_aload_n hx hb dX6_init_0 rfl (lv_at hl 0 rfl) ?_
  refine W.objInit hx hb hown (hts (.methodLink RX6 3 objectInit) q_X6_init_0) (hts (.instanceMethod objectInit) q_X6_init_1) (hts (.code objectInit ⟨#[0xb1]⟩ 1 none) q_X6_init_2) rfl (by rw [hml]; exact hl.1) rfl dX6_init_1 (Nat.le_of_ble_eq_true rfl) (Nat.le_of_ble_eq_true rfl) ?_
  refine W.eq (g2 := F0 m 4 ls []) rfl ?_
  refine lv_aload_n hx hb dX6_init_4 rfl (lv_at hl 0 rfl) ?_
  refine lv_sipush (v := 168) hx hb dX6_init_5 (by decide) ?_
  refine k_newi 168 hx hb (hts (.arrayClass .int) q_X6_init_3) hE hP hD hS hA (by decide) (by decide) (by decide) (Nat.le_of_ble_eq_true rfl) (Nat.le_of_ble_eq_true rfl) dX6_init_8 (fun q_1 H hP hD hS => ?_)
  have hP : va_P g.1 vwCl [(h0, .inr (6, [.null, .null, .null, .null, .int 0, .null])), (q_1, ai g 168 (fun _ => 0))] H := hP
  have hD : va_D A [(h0, .inr (6, [.null, .null, .null, .null, .int 0, .null])), (q_1, ai g 168 (fun _ => 0))] := hD
  refine W.widen (k := 1) (n := 168) (Nat.le_of_ble_eq_true rfl) (Nat.le_of_ble_eq_true rfl) ?_
  refine va_putF (D := g.1) (ci := 6) (v := .ref q_1) (ty := .array .int) (C := RX6) (T := TX6) (N := 6) hx hb hts q_X6_init_f6 tyX6 tyX6_ok nmX6 hown hE.1 hP hD hS 0 rfl rfl 0 (by decide) (hts (.fieldLink RX6 9 "SoundLaws$Study" "sounds" "[I") q_X6_init_5) (fun _ h9 => h9) rfl hnm rfl (by decide +kernel) rfl rfl (Nat.le_of_ble_eq_true rfl) dX6_init_10 (fun H locs hP hD hS => ?_)
  have hP : va_P g.1 vwCl [(h0, .inr (6, [.ref q_1, .null, .null, .null, .int 0, .null])), (q_1, ai g 168 (fun _ => 0))] H := hP
  have hD : va_D A [(h0, .inr (6, [.ref q_1, .null, .null, .null, .int 0, .null])), (q_1, ai g 168 (fun _ => 0))] := hD
  refine lv_aload_n hx hb dX6_init_13 rfl (lv_at hl 0 rfl) ?_
  refine lv_bipush (v := 6) hx hb dX6_init_14 (by decide) ?_
  refine k_newi 6 hx hb (hts (.arrayClass .int) q_X6_init_3) hE hP hD hS hA (by decide) (by decide) (by decide) (Nat.le_of_ble_eq_true rfl) (Nat.le_of_ble_eq_true rfl) dX6_init_16 (fun q_2 H hP hD hS => ?_)
  have hP : va_P g.1 vwCl [(h0, .inr (6, [.ref q_1, .null, .null, .null, .int 0, .null])), (q_1, ai g 168 (fun _ => 0)), (q_2, ai g 6 (fun _ => 0))] H := hP
  have hD : va_D A [(h0, .inr (6, [.ref q_1, .null, .null, .null, .int 0, .null])), (q_1, ai g 168 (fun _ => 0)), (q_2, ai g 6 (fun _ => 0))] := hD
  refine W.widen (k := 2) (n := 174) (Nat.le_of_ble_eq_true rfl) (Nat.le_of_ble_eq_true rfl) ?_
  refine va_putF (D := g.1) (ci := 6) (v := .ref q_2) (ty := .array .int) (C := RX6) (T := TX6) (N := 6) hx hb hts q_X6_init_f6 tyX6 tyX6_ok nmX6 hown hE.1 hP hD hS 0 rfl rfl 1 (by decide) (hts (.fieldLink RX6 15 "SoundLaws$Study" "changes" "[I") q_X6_init_6) (fun _ h9 => h9) rfl hnm rfl (by decide +kernel) rfl rfl (Nat.le_of_ble_eq_true rfl) dX6_init_18 (fun H locs hP hD hS => ?_)
  have hP : va_P g.1 vwCl [(h0, .inr (6, [.ref q_1, .ref q_2, .null, .null, .int 0, .null])), (q_1, ai g 168 (fun _ => 0)), (q_2, ai g 6 (fun _ => 0))] H := hP
  have hD : va_D A [(h0, .inr (6, [.ref q_1, .ref q_2, .null, .null, .int 0, .null])), (q_1, ai g 168 (fun _ => 0)), (q_2, ai g 6 (fun _ => 0))] := hD
  refine lv_aload_n hx hb dX6_init_21 rfl (lv_at hl 0 rfl) ?_
  refine lv_bipush (v := 24) hx hb dX6_init_22 (by decide) ?_
  refine k_newi 24 hx hb (hts (.arrayClass .int) q_X6_init_3) hE hP hD hS hA (by decide) (by decide) (by decide) (Nat.le_of_ble_eq_true rfl) (Nat.le_of_ble_eq_true rfl) dX6_init_24 (fun q_3 H hP hD hS => ?_)
  have hP : va_P g.1 vwCl [(h0, .inr (6, [.ref q_1, .ref q_2, .null, .null, .int 0, .null])), (q_1, ai g 168 (fun _ => 0)), (q_2, ai g 6 (fun _ => 0)), (q_3, ai g 24 (fun _ => 0))] H := hP
  have hD : va_D A [(h0, .inr (6, [.ref q_1, .ref q_2, .null, .null, .int 0, .null])), (q_1, ai g 168 (fun _ => 0)), (q_2, ai g 6 (fun _ => 0)), (q_3, ai g 24 (fun _ => 0))] := hD
  refine W.widen (k := 3) (n := 198) (Nat.le_of_ble_eq_true rfl) (Nat.le_of_ble_eq_true rfl) ?_
  refine va_putF (D := g.1) (ci := 6) (v := .ref q_3) (ty := .array .int) (C := RX6) (T := TX6) (N := 6) hx hb hts q_X6_init_f6 tyX6 tyX6_ok nmX6 hown hE.1 hP hD hS 0 rfl rfl 2 (by decide) (hts (.fieldLink RX6 18 "SoundLaws$Study" "strangePlaces" "[I") q_X6_init_7) (fun _ h9 => h9) rfl hnm rfl (by decide +kernel) rfl rfl (Nat.le_of_ble_eq_true rfl) dX6_init_26 (fun H locs hP hD hS => ?_)
  have hP : va_P g.1 vwCl [(h0, .inr (6, [.ref q_1, .ref q_2, .ref q_3, .null, .int 0, .null])), (q_1, ai g 168 (fun _ => 0)), (q_2, ai g 6 (fun _ => 0)), (q_3, ai g 24 (fun _ => 0))] H := hP
  have hD : va_D A [(h0, .inr (6, [.ref q_1, .ref q_2, .ref q_3, .null, .int 0, .null])), (q_1, ai g 168 (fun _ => 0)), (q_2, ai g 6 (fun _ => 0)), (q_3, ai g 24 (fun _ => 0))] := hD
  refine lv_aload_n hx hb dX6_init_29 rfl (lv_at hl 0 rfl) ?_
  refine va_new (D := g.1) (ci := 2) (fs := [.null, .null, .null, .int 0, .int 0, .null]) (C := RX2) (T := TX2) (N := 6) hx hb hts q_X6_init_f2 tyX2 tyX2_ok hown (hts (.classLink RX6 21 RX2) q_X6_init_9) (hts (.instantiable RX2 6) q_X6_init_10) (hts (.initialized RX2) q_X6_init_11) hE.1 hP hD hS hA rfl (by intro j hj; match j, hj with | 0, _ => rfl | 1, _ => rfl | 2, _ => rfl | 3, _ => rfl | 4, _ => rfl | 5, _ => rfl | (k + 6), h => exact absurd h (by omega)) (Nat.le_of_ble_eq_true rfl) (Nat.le_of_ble_eq_true rfl) dX6_init_30 (fun q_4 H hP hD hS => ?_)
  have hP : va_P g.1 vwCl [(h0, .inr (6, [.ref q_1, .ref q_2, .ref q_3, .null, .int 0, .null])), (q_1, ai g 168 (fun _ => 0)), (q_2, ai g 6 (fun _ => 0)), (q_3, ai g 24 (fun _ => 0)), (q_4, .inr (2, [.null, .null, .null, .int 0, .int 0, .null]))] H := hP
  have hD : va_D A [(h0, .inr (6, [.ref q_1, .ref q_2, .ref q_3, .null, .int 0, .null])), (q_1, ai g 168 (fun _ => 0)), (q_2, ai g 6 (fun _ => 0)), (q_3, ai g 24 (fun _ => 0)), (q_4, .inr (2, [.null, .null, .null, .int 0, .int 0, .null]))] := hD
  refine W.widen (k := 4) (n := 204) (Nat.le_of_ble_eq_true rfl) (Nat.le_of_ble_eq_true rfl) ?_
  refine lv_dup hx hb dX6_init_33 rfl ?_
  refine k_cv (wr := [(h0, .inr (6, [.ref q_1, .ref q_2, .ref q_3, .null, .int 0, .null])), (q_1, ai g 168 (fun _ => 0)), (q_2, ai g 6 (fun _ => 0)), (q_3, ai g 24 (fun _ => 0))]) hP hD hS hA [4] [0, 1, 2, 3] rfl rfl (by decide) (by decide) (va_runIN (As := []) (rest := [.ref q_4, .ref h0]) ⟨hx, hb, hml, hown, hts⟩ (c_X2_init l g q_4  H.size) ⟨va_cnB 0 hts gX6_init_X2_init_n23 rfl rfl rfl (hE.nw 5 rfl) (hts (.initialized RX2) q_X6_init_11) (by decide +kernel) ⟨Nat.le_of_ble_eq_true rfl, Nat.le_of_ble_eq_true rfl⟩, rfl, (hts (.instanceMethod yX2_init) q_X6_init_12)⟩ (k_preS hE hZ hP hD hS hA [4] rfl (by decide)) rfl rfl hl.1 rfl (lv_room (Nat.le_of_ble_eq_true rfl)) dX6_init_34 ⟨Nat.le_of_ble_eq_true rfl, Nat.le_of_ble_eq_true rfl⟩) (fun w1 H locs hw hP hD hS => ?_)
  obtain ⟨q1_6, q2_7, q3_8, q4_9, rfl⟩ := hw
  have hP : va_P g.1 vwCl [(h0, .inr (6, [.ref q_1, .ref q_2, .ref q_3, .null, .int 0, .null])), (q_1, ai g 168 (fun _ => 0)), (q_2, ai g 6 (fun _ => 0)), (q_3, ai g 24 (fun _ => 0)), (q_4, .inr (2, [.ref q1_6, .ref q2_7, .ref q3_8, .int 0, .int 0, .ref q4_9])), (q1_6, ai g 72 (fun _ => 0)), (q2_7, ai g 72 (fun _ => 0)), (q3_8, ai g 72 (fun _ => 0)), (q4_9, ai g 648 (fun _ => 0))] H := hP
  have hD : va_D A [(h0, .inr (6, [.ref q_1, .ref q_2, .ref q_3, .null, .int 0, .null])), (q_1, ai g 168 (fun _ => 0)), (q_2, ai g 6 (fun _ => 0)), (q_3, ai g 24 (fun _ => 0)), (q_4, .inr (2, [.ref q1_6, .ref q2_7, .ref q3_8, .int 0, .int 0, .ref q4_9])), (q1_6, ai g 72 (fun _ => 0)), (q2_7, ai g 72 (fun _ => 0)), (q3_8, ai g 72 (fun _ => 0)), (q4_9, ai g 648 (fun _ => 0))] := hD
  refine W.widen (k := 8) (n := 1068) (Nat.le_of_ble_eq_true rfl) (Nat.le_of_ble_eq_true rfl) ?_
  refine va_putF (D := g.1) (ci := 6) (v := .ref q_4) (ty := .object "SoundLaws$Laws") (C := RX6) (T := TX6) (N := 6) hx hb hts q_X6_init_f6 tyX6 tyX6_ok nmX6 hown hE.1 hP hD hS 0 rfl rfl 3 (by decide) (hts (.fieldLink RX6 24 "SoundLaws$Study" "laws" "LSoundLaws$Laws;") q_X6_init_13) (fun _ h9 => h9) rfl hnm rfl (by decide +kernel) rfl rfl (Nat.le_of_ble_eq_true rfl) dX6_init_37 (fun H locs hP hD hS => ?_)
  have hP : va_P g.1 vwCl [(h0, .inr (6, [.ref q_1, .ref q_2, .ref q_3, .ref q_4, .int 0, .null])), (q_1, ai g 168 (fun _ => 0)), (q_2, ai g 6 (fun _ => 0)), (q_3, ai g 24 (fun _ => 0)), (q_4, .inr (2, [.ref q1_6, .ref q2_7, .ref q3_8, .int 0, .int 0, .ref q4_9])), (q1_6, ai g 72 (fun _ => 0)), (q2_7, ai g 72 (fun _ => 0)), (q3_8, ai g 72 (fun _ => 0)), (q4_9, ai g 648 (fun _ => 0))] H := hP
  have hD : va_D A [(h0, .inr (6, [.ref q_1, .ref q_2, .ref q_3, .ref q_4, .int 0, .null])), (q_1, ai g 168 (fun _ => 0)), (q_2, ai g 6 (fun _ => 0)), (q_3, ai g 24 (fun _ => 0)), (q_4, .inr (2, [.ref q1_6, .ref q2_7, .ref q3_8, .int 0, .int 0, .ref q4_9])), (q1_6, ai g 72 (fun _ => 0)), (q2_7, ai g 72 (fun _ => 0)), (q3_8, ai g 72 (fun _ => 0)), (q4_9, ai g 648 (fun _ => 0))] := hD
  refine lv_aload_n hx hb dX6_init_40 rfl (lv_at hl 0 rfl) ?_
  refine va_new (D := g.1) (ci := 7) (fs := [.int 0, .null, .null]) (C := RX7) (T := TX7) (N := 3) hx hb hts q_X6_init_f7 tyX7 tyX7_ok hown (hts (.classLink RX6 28 RX7) q_X6_init_15) (hts (.instantiable RX7 3) q_X6_init_16) (hts (.initialized RX7) q_X6_init_17) hE.1 hP hD hS hA rfl (by intro j hj; match j, hj with | 0, _ => rfl | 1, _ => rfl | 2, _ => rfl | (k + 3), h => exact absurd h (by omega)) (Nat.le_of_ble_eq_true rfl) (Nat.le_of_ble_eq_true rfl) dX6_init_41 (fun q_10 H hP hD hS => ?_)
  have hP : va_P g.1 vwCl [(h0, .inr (6, [.ref q_1, .ref q_2, .ref q_3, .ref q_4, .int 0, .null])), (q_1, ai g 168 (fun _ => 0)), (q_2, ai g 6 (fun _ => 0)), (q_3, ai g 24 (fun _ => 0)), (q_4, .inr (2, [.ref q1_6, .ref q2_7, .ref q3_8, .int 0, .int 0, .ref q4_9])), (q1_6, ai g 72 (fun _ => 0)), (q2_7, ai g 72 (fun _ => 0)), (q3_8, ai g 72 (fun _ => 0)), (q4_9, ai g 648 (fun _ => 0)), (q_10, .inr (7, [.int 0, .null, .null]))] H := hP
  have hD : va_D A [(h0, .inr (6, [.ref q_1, .ref q_2, .ref q_3, .ref q_4, .int 0, .null])), (q_1, ai g 168 (fun _ => 0)), (q_2, ai g 6 (fun _ => 0)), (q_3, ai g 24 (fun _ => 0)), (q_4, .inr (2, [.ref q1_6, .ref q2_7, .ref q3_8, .int 0, .int 0, .ref q4_9])), (q1_6, ai g 72 (fun _ => 0)), (q2_7, ai g 72 (fun _ => 0)), (q3_8, ai g 72 (fun _ => 0)), (q4_9, ai g 648 (fun _ => 0)), (q_10, .inr (7, [.int 0, .null, .null]))] := hD
  refine W.widen (k := 9) (n := 1071) (Nat.le_of_ble_eq_true rfl) (Nat.le_of_ble_eq_true rfl) ?_
  refine lv_dup hx hb dX6_init_44 rfl ?_
  refine k_cv (wr := [(h0, .inr (6, [.ref q_1, .ref q_2, .ref q_3, .ref q_4, .int 0, .null])), (q_1, ai g 168 (fun _ => 0)), (q_2, ai g 6 (fun _ => 0)), (q_3, ai g 24 (fun _ => 0)), (q_4, .inr (2, [.ref q1_6, .ref q2_7, .ref q3_8, .int 0, .int 0, .ref q4_9])), (q1_6, ai g 72 (fun _ => 0)), (q2_7, ai g 72 (fun _ => 0)), (q3_8, ai g 72 (fun _ => 0)), (q4_9, ai g 648 (fun _ => 0))]) hP hD hS hA [9] [0, 1, 2, 3, 4, 5, 6, 7, 8] rfl rfl (by decide) (by decide) (va_runIN (As := []) (rest := [.ref q_10, .ref h0]) ⟨hx, hb, hml, hown, hts⟩ (c_X7_init l g q_10  H.size) ⟨va_cnB 0 hts gX6_init_X7_init_n30 rfl rfl rfl (hE.nw 6 rfl) (hts (.initialized RX7) q_X6_init_17) (by decide +kernel) ⟨Nat.le_of_ble_eq_true rfl, Nat.le_of_ble_eq_true rfl⟩, rfl, (hts (.instanceMethod yX7_init) q_X6_init_18)⟩ (k_preS hE hZ hP hD hS hA [9] rfl (by decide)) rfl rfl hl.1 rfl (lv_room (Nat.le_of_ble_eq_true rfl)) dX6_init_45 ⟨Nat.le_of_ble_eq_true rfl, Nat.le_of_ble_eq_true rfl⟩) (fun w1 H locs hw hP hD hS => ?_)
  obtain ⟨q1_12, q2_13, rfl⟩ := hw
  have hP : va_P g.1 vwCl [(h0, .inr (6, [.ref q_1, .ref q_2, .ref q_3, .ref q_4, .int 0, .null])), (q_1, ai g 168 (fun _ => 0)), (q_2, ai g 6 (fun _ => 0)), (q_3, ai g 24 (fun _ => 0)), (q_4, .inr (2, [.ref q1_6, .ref q2_7, .ref q3_8, .int 0, .int 0, .ref q4_9])), (q1_6, ai g 72 (fun _ => 0)), (q2_7, ai g 72 (fun _ => 0)), (q3_8, ai g 72 (fun _ => 0)), (q4_9, ai g 648 (fun _ => 0)), (q_10, .inr (7, [.int 0, .ref q1_12, .ref q2_13])), (q1_12, ai g 7 (fun _ => 0)), (q2_13, ai g 63 (fun _ => 0))] H := hP
  have hD : va_D A [(h0, .inr (6, [.ref q_1, .ref q_2, .ref q_3, .ref q_4, .int 0, .null])), (q_1, ai g 168 (fun _ => 0)), (q_2, ai g 6 (fun _ => 0)), (q_3, ai g 24 (fun _ => 0)), (q_4, .inr (2, [.ref q1_6, .ref q2_7, .ref q3_8, .int 0, .int 0, .ref q4_9])), (q1_6, ai g 72 (fun _ => 0)), (q2_7, ai g 72 (fun _ => 0)), (q3_8, ai g 72 (fun _ => 0)), (q4_9, ai g 648 (fun _ => 0)), (q_10, .inr (7, [.int 0, .ref q1_12, .ref q2_13])), (q1_12, ai g 7 (fun _ => 0)), (q2_13, ai g 63 (fun _ => 0))] := hD
  refine W.widen (k := 11) (n := 1141) (Nat.le_of_ble_eq_true rfl) (Nat.le_of_ble_eq_true rfl) ?_
  refine va_putF (D := g.1) (ci := 6) (v := .ref q_10) (ty := .object "SoundLaws$Tree") (C := RX6) (T := TX6) (N := 6) hx hb hts q_X6_init_f6 tyX6 tyX6_ok nmX6 hown hE.1 hP hD hS 0 rfl rfl 5 (by decide) (hts (.fieldLink RX6 31 "SoundLaws$Study" "tree" "LSoundLaws$Tree;") q_X6_init_19) (fun _ h9 => h9) rfl hnm rfl (by decide +kernel) rfl rfl (Nat.le_of_ble_eq_true rfl) dX6_init_48 (fun H locs hP hD hS => ?_)
  have hP : va_P g.1 vwCl [(h0, .inr (6, [.ref q_1, .ref q_2, .ref q_3, .ref q_4, .int 0, .ref q_10])), (q_1, ai g 168 (fun _ => 0)), (q_2, ai g 6 (fun _ => 0)), (q_3, ai g 24 (fun _ => 0)), (q_4, .inr (2, [.ref q1_6, .ref q2_7, .ref q3_8, .int 0, .int 0, .ref q4_9])), (q1_6, ai g 72 (fun _ => 0)), (q2_7, ai g 72 (fun _ => 0)), (q3_8, ai g 72 (fun _ => 0)), (q4_9, ai g 648 (fun _ => 0)), (q_10, .inr (7, [.int 0, .ref q1_12, .ref q2_13])), (q1_12, ai g 7 (fun _ => 0)), (q2_13, ai g 63 (fun _ => 0))] H := hP
  have hD : va_D A [(h0, .inr (6, [.ref q_1, .ref q_2, .ref q_3, .ref q_4, .int 0, .ref q_10])), (q_1, ai g 168 (fun _ => 0)), (q_2, ai g 6 (fun _ => 0)), (q_3, ai g 24 (fun _ => 0)), (q_4, .inr (2, [.ref q1_6, .ref q2_7, .ref q3_8, .int 0, .int 0, .ref q4_9])), (q1_6, ai g 72 (fun _ => 0)), (q2_7, ai g 72 (fun _ => 0)), (q3_8, ai g 72 (fun _ => 0)), (q4_9, ai g 648 (fun _ => 0)), (q_10, .inr (7, [.int 0, .ref q1_12, .ref q2_13])), (q1_12, ai g 7 (fun _ => 0)), (q2_13, ai g 63 (fun _ => 0))] := hD
  refine W.widen (k := 11) (n := 1141) (Nat.le_of_ble_eq_true rfl) (Nat.le_of_ble_eq_true rfl) ?_
  exact k_rv hx hb hr hlocks hS hP hD ⟨q_1, q_2, q_3, q_4, q1_6, q2_7, q3_8, q4_9, q_10, q1_12, q2_13, rfl⟩ dX6_init_51
end
section
theorem zz_nothing : True := trivial
end
